set_option maxRecDepth 20000 in
set_option maxHeartbeats 4000000 in
theorem v_undo (h : qB) (pi : Nat → Option qK) (buf : Nat → Int32) (c : Nat) (sn len : Int32) (rd : Nat → Int32) (w : Fin 16 → qw) (X : qm) (hR : RelC (w 1) X) (hJ : J X) (Sv : Nat → qm) (hc : c ≤ 6) (hL : RelL pi w c Sv) (h1 : 1 ≤ c) : CtI mX2_undo 2 [qR 0 0] (hK h (oC pi buf (nI c) sn len rd) w 10) (fun r h2 => r = nI (c - 1) ∧ ∃ w', h2 = hK h (oC pi buf (nI (c - 1)) sn len rd) w' 10 ∧ RelC (w' 1) (Sv (c - 1)) ∧ (∀ b : Fin 16, b.val ≤ 4 → b ≠ 1 → w' b = w b) ∧ RelL pi w' (c - 1) Sv) := by
  have hL0 := hL
  obtain ⟨v, v1, v2, v3⟩ := hL0
  have hv := v1 (c - 1) (by omega)
  have h3 := v3 (c - 1) (by omega)
  refine ct_of (by decide +kernel) rfl rfl (Nat.le_of_ble_eq_true rfl) ?_
  show Ev mX2_undo 2 0 [some (qR 0 0)] [] 124 (hK h (oC pi buf (nI c) sn len rd) w 10) 0 0 _ _
  refine e_aload0 dX2_undo_0 ?_
  refine e_get0 flX2_40 dX2_undo_1 rfl rfl ?_
  refine e_iconst (z := 1) dX2_undo_4 ?_
  refine e_icmp_geN 18 dX2_undo_5 (by decide) (by omega) (by decide) (fun _ => ?_) (fun q => absurd q (by omega))
  refine e_aload0 dX2_undo_18 ?_
  refine e_dup dX2_undo_19 rfl ?_
  refine e_get0 flX2_40 dX2_undo_20 rfl rfl ?_
  refine e_iconst (z := 1) dX2_undo_23 ?_
  refine e_isubN dX2_undo_24 (by omega) ?_
  refine e_put0 flX2_40 dX2_undo_25 rfl (Nat.le_of_ble_eq_true rfl) (fun _ => rfl) (fun _ => rfl) ?_
  refine e_aload0 dX2_undo_28 ?_
  refine e_get0 flX2_10 dX2_undo_29 rfl rfl ?_
  refine e_aload0 dX2_undo_32 ?_
  refine e_get0 flX2_25 dX2_undo_33 rfl rfl ?_
  refine e_aload0 dX2_undo_36 ?_
  refine e_get0 flX2_40 dX2_undo_37 rfl rfl ?_
  refine e_aaloadB dX2_undo_40 rfl (show c - 1 < 6 by omega) (by decide) hv.1 ?_
  refine e_vV (M' := mX1_copyFrom) fX1_copyFrom lkX2_167 (w_copyK h _ w 1 (v (c - 1)) (fun e => v_ne1 hv.2.1 e.symm) (by decide) (by decide) (v_ne0 hv.2.1) hv.2.2 (Sv (c - 1)) h3.1 h3.2) rfl rfl dX2_undo_41 (by rw [hK_at (by decide) (by decide)]; rfl) rfl (by decide) (Nat.le_of_ble_eq_true rfl) rfl ?_
  rintro _ ⟨w3, hR3, rfl⟩
  refine e_aload0 dX2_undo_44 ?_
  refine e_get0 flX2_40 dX2_undo_45 rfl rfl ?_
  refine e_iret dX2_undo_48 rfl ?_
  exact ⟨_, rfl, rfl, rfl, uw w 1 w3, rfl, hR3, fun b hb hb1 => by simp only [uw]; rw [if_neg hb1], relL_uw (by decide) ⟨v, v1, v2, fun i hi => v3 i (by omega)⟩ (by omega)⟩
set_option maxRecDepth 20000 in
set_option maxHeartbeats 4000000 in
theorem t0_undo (h : qB) (pi : Nat → Option qK) (buf : Nat → Int32) (sn len : Int32) (rd : Nat → Int32) (w : Fin 16 → qw) : CtT mX2_undo 7 [qR 0 0] (hK h (oC pi buf (nI 0) sn len rd) w 10) "java/lang/IllegalStateException" := by
  refine ct_of (by decide +kernel) rfl rfl (Nat.le_of_ble_eq_true rfl) ?_
  show Ev mX2_undo 7 0 [some (qR 0 0)] [] 124 (hK h (oC pi buf (nI 0) sn len rd) w 10) 1 6 _ _
  refine e_aload0 dX2_undo_0 ?_
  refine e_get0 flX2_40 dX2_undo_1 rfl rfl ?_
  refine e_iconst (z := 1) dX2_undo_4 ?_
  refine e_icmp_geN 18 dX2_undo_5 (by decide) (by decide) (by decide) (fun q => absurd q (by decide)) (fun _ => ?_)
  refine e_throw thX2_undo_8 dX2_undo_8 dX2_undo_11 dX2_undo_12 dX2_undo_14 dX2_undo_17 (q_noh rfl) (by decide) (by decide) (by decide) (by decide) ?_
  exact ⟨rfl, rfl, rfl⟩
set_option maxRecDepth 20000 in
set_option maxHeartbeats 4000000 in
theorem t1_giveUp (h : qB) (pi : Nat → Option qK) (buf : Nat → Int32) (cnt sn len : Int32) (rd : Nat → Int32) (w : Fin 16 → qw) (X : qm) (hR : RelC (w 1) X) (hJ : J X) {t : Nat} (ht : t < X.1 0 0) (hS : ¬ (X.1 1 4 = 1 ∧ X.1 7 t = 0)) : CtT mX2_giveUp 7 [qR 0 0, qI (nI t)] (hK h (oC pi buf cnt sn len rd) w 10) "java/lang/IllegalStateException" := by
  have ht8 : t < 8 := Nat.lt_of_lt_of_le ht (iV1 hJ.1)
  refine ct_of (by decide +kernel) rfl rfl (Nat.le_of_ble_eq_true rfl) ?_
  show Ev mX2_giveUp 7 0 [some (qR 0 0), some (qI (nI t))] [] 124 (hK h (oC pi buf cnt sn len rd) w 10) 1 6 _ _
  refine e_aload0 dX2_giveUp_0 ?_
  refine e_iload1 dX2_giveUp_1 ?_
  refine e_vV (M' := mX2_requireTransfer) fX2_requireTransfer lkX2_82 (v_requireTransfer h pi buf cnt sn len rd w X hR hJ (k := t) ht) rfl rfl dX2_giveUp_2 (by rw [hK_0]; rfl) rfl (by decide) (Nat.le_of_ble_eq_true rfl) rfl ?_
  rintro _ rfl
  refine e_aload0 dX2_giveUp_5 ?_
  refine e_get0 flX2_10 dX2_giveUp_6 rfl rfl ?_
  refine e_iload1 dX2_giveUp_9 ?_
  refine e_vI (M' := mX1_canDecide) fX1_canDecide lkX2_85 (ctI_K (b := 1) (by decide) (by decide) (w_canDecide (hK h (oC pi buf cnt sn len rd) w 10) 1 (w 1) X hR hJ.1 (t := t) ht8)) rfl rfl dX2_giveUp_10 (by rw [hK_at (by decide) (by decide)]; rfl) rfl (by decide) (Nat.le_of_ble_eq_true rfl) rfl ?_
  rintro _ _ ⟨rfl, rfl⟩
  rw [hK_self (by decide) (by decide)]
  have hB := decide_eq_false hS
  rw [hB]
  refine e_if_neN 26 dX2_giveUp_13 (by decide) (by decide) (fun q => absurd q (by decide)) (fun _ => ?_)
  refine e_throw thX2_giveUp_16 dX2_giveUp_16 dX2_giveUp_19 dX2_giveUp_20 dX2_giveUp_22 dX2_giveUp_25 (q_noh rfl) (by decide) (by decide) (by decide) (by decide) ?_
  exact ⟨rfl, rfl, rfl⟩
set_option maxRecDepth 20000 in
set_option maxHeartbeats 4000000 in
theorem t2_ask (h : qB) (pi : Nat → Option qK) (buf : Nat → Int32) (cnt sn len : Int32) (rd : Nat → Int32) (w : Fin 16 → qw) (X : qm) (hR : RelC (w 1) X) (hJ : J X) {s : Nat} (hs : s < 4) {t : Nat} (ht : t < X.1 0 0) (hS : ¬ (X.1 1 s = 1 ∧ X.1 9 (8 * s + t) = 1)) : CtT mX2_ask 7 [qR 0 0, qI (nI s), qI (nI t)] (hK h (oC pi buf cnt sn len rd) w 10) "java/lang/IllegalStateException" := by
  have ht8 : t < 8 := Nat.lt_of_lt_of_le ht (iV1 hJ.1)
  refine ct_of (by decide +kernel) rfl rfl (Nat.le_of_ble_eq_true rfl) ?_
  show Ev mX2_ask 7 0 [some (qR 0 0), some (qI (nI s)), some (qI (nI t))] [] 124 (hK h (oC pi buf cnt sn len rd) w 10) 1 6 _ _
  refine e_aload0 dX2_ask_0 ?_
  refine e_iload1 dX2_ask_1 ?_
  refine e_vV (M' := mX2_requireStore) fX2_requireStore lkX2_51 (v_requireStore h pi buf cnt sn len rd w (k := s) hs) rfl rfl dX2_ask_2 (by rw [hK_0]; rfl) rfl (by decide) (Nat.le_of_ble_eq_true rfl) rfl ?_
  rintro _ rfl
  refine e_aload0 dX2_ask_5 ?_
  refine e_iload2 dX2_ask_6 ?_
  refine e_vV (M' := mX2_requireTransfer) fX2_requireTransfer lkX2_82 (v_requireTransfer h pi buf cnt sn len rd w X hR hJ (k := t) ht) rfl rfl dX2_ask_7 (by rw [hK_0]; rfl) rfl (by decide) (Nat.le_of_ble_eq_true rfl) rfl ?_
  rintro _ rfl
  refine e_aload0 dX2_ask_10 ?_
  refine e_get0 flX2_10 dX2_ask_11 rfl rfl ?_
  refine e_iload1 dX2_ask_14 ?_
  refine e_iload2 dX2_ask_15 ?_
  refine e_vI (M' := mX1_canAskWhatNow) fX1_canAskWhatNow lkX2_97 (ctI_K (b := 1) (by decide) (by decide) (w_canAskWhatNow (hK h (oC pi buf cnt sn len rd) w 10) 1 (w 1) X hR hJ.1 (s := s) (t := t) hs ht8)) rfl rfl dX2_ask_16 (by rw [hK_at (by decide) (by decide)]; rfl) rfl (by decide) (Nat.le_of_ble_eq_true rfl) rfl ?_
  rintro _ _ ⟨rfl, rfl⟩
  rw [hK_self (by decide) (by decide)]
  have hB := decide_eq_false hS
  rw [hB]
  refine e_if_neN 32 dX2_ask_19 (by decide) (by decide) (fun q => absurd q (by decide)) (fun _ => ?_)
  refine e_throw thX2_ask_22 dX2_ask_22 dX2_ask_25 dX2_ask_26 dX2_ask_28 dX2_ask_31 (q_noh rfl) (by decide) (by decide) (by decide) (by decide) ?_
  exact ⟨rfl, rfl, rfl⟩
set_option maxRecDepth 20000 in
set_option maxHeartbeats 4000000 in
theorem t1_crash (h : qB) (pi : Nat → Option qK) (buf : Nat → Int32) (cnt sn len : Int32) (rd : Nat → Int32) (w : Fin 16 → qw) (X : qm) (hR : RelC (w 1) X) (hJ : J X) {k : Nat} (hk : k < 5) (hS : ¬ X.1 1 k = 1) : CtT mX2_crash 7 [qR 0 0, qI (nI k)] (hK h (oC pi buf cnt sn len rd) w 10) "java/lang/IllegalStateException" := by
  refine ct_of (by decide +kernel) rfl rfl (Nat.le_of_ble_eq_true rfl) ?_
  show Ev mX2_crash 7 0 [some (qR 0 0), some (qI (nI k))] [] 124 (hK h (oC pi buf cnt sn len rd) w 10) 1 6 _ _
  refine e_aload0 dX2_crash_0 ?_
  refine e_iload1 dX2_crash_1 ?_
  refine e_vV (M' := mX2_requireSite) fX2_requireSite lkX2_121 (v_requireSite h pi buf cnt sn len rd w (k := k) hk) rfl rfl dX2_crash_2 (by rw [hK_0]; rfl) rfl (by decide) (Nat.le_of_ble_eq_true rfl) rfl ?_
  rintro _ rfl
  refine e_aload0 dX2_crash_5 ?_
  refine e_get0 flX2_10 dX2_crash_6 rfl rfl ?_
  refine e_iload1 dX2_crash_9 ?_
  refine e_vI (M' := mX1_stands) fX1_stands lkX2_124 (ctI_K (b := 1) (by decide) (by decide) (w_stands (hK h (oC pi buf cnt sn len rd) w 10) 1 (w 1) X hR (iV3 hJ.1) (k := k) hk)) rfl rfl dX2_crash_10 (by rw [hK_at (by decide) (by decide)]; rfl) rfl (by decide) (Nat.le_of_ble_eq_true rfl) rfl ?_
  rintro _ _ ⟨rfl, rfl⟩
  rw [hK_self (by decide) (by decide)]
  have hB := decide_eq_false hS
  rw [hB]
  refine e_if_neN 26 dX2_crash_13 (by decide) (by decide) (fun q => absurd q (by decide)) (fun _ => ?_)
  refine e_throw thX2_crash_16 dX2_crash_16 dX2_crash_19 dX2_crash_20 dX2_crash_22 dX2_crash_25 (q_noh rfl) (by decide) (by decide) (by decide) (by decide) ?_
  exact ⟨rfl, rfl, rfl⟩
set_option maxRecDepth 20000 in
set_option maxHeartbeats 4000000 in
theorem t1_recover (h : qB) (pi : Nat → Option qK) (buf : Nat → Int32) (cnt sn len : Int32) (rd : Nat → Int32) (w : Fin 16 → qw) (X : qm) (hR : RelC (w 1) X) (hJ : J X) {k : Nat} (hk : k < 5) (hS : X.1 1 k = 1) : CtT mX2_recover 7 [qR 0 0, qI (nI k)] (hK h (oC pi buf cnt sn len rd) w 10) "java/lang/IllegalStateException" := by
  refine ct_of (by decide +kernel) rfl rfl (Nat.le_of_ble_eq_true rfl) ?_
  show Ev mX2_recover 7 0 [some (qR 0 0), some (qI (nI k))] [] 124 (hK h (oC pi buf cnt sn len rd) w 10) 1 6 _ _
  refine e_aload0 dX2_recover_0 ?_
  refine e_iload1 dX2_recover_1 ?_
  refine e_vV (M' := mX2_requireSite) fX2_requireSite lkX2_121 (v_requireSite h pi buf cnt sn len rd w (k := k) hk) rfl rfl dX2_recover_2 (by rw [hK_0]; rfl) rfl (by decide) (Nat.le_of_ble_eq_true rfl) rfl ?_
  rintro _ rfl
  refine e_aload0 dX2_recover_5 ?_
  refine e_get0 flX2_10 dX2_recover_6 rfl rfl ?_
  refine e_iload1 dX2_recover_9 ?_
  refine e_vI (M' := mX1_stands) fX1_stands lkX2_124 (ctI_K (b := 1) (by decide) (by decide) (w_stands (hK h (oC pi buf cnt sn len rd) w 10) 1 (w 1) X hR (iV3 hJ.1) (k := k) hk)) rfl rfl dX2_recover_10 (by rw [hK_at (by decide) (by decide)]; rfl) rfl (by decide) (Nat.le_of_ble_eq_true rfl) rfl ?_
  rintro _ _ ⟨rfl, rfl⟩
  rw [hK_self (by decide) (by decide)]
  have hB := decide_eq_true hS
  rw [hB]
  refine e_if_eqN 26 dX2_recover_13 (by decide) (by decide) (fun q => absurd q (by decide)) (fun _ => ?_)
  refine e_throw thX2_recover_16 dX2_recover_16 dX2_recover_19 dX2_recover_20 dX2_recover_22 dX2_recover_25 (q_noh rfl) (by decide) (by decide) (by decide) (by decide) ?_
  exact ⟨rfl, rfl, rfl⟩
set_option maxRecDepth 20000 in
set_option maxHeartbeats 4000000 in
theorem t0_begin (h : qB) (pi : Nat → Option qK) (buf : Nat → Int32) (cnt sn len : Int32) (rd : Nat → Int32) (w : Fin 16 → qw) (X : qm) (hR : RelC (w 1) X) (hJ : J X) {x y z : Int32} (hx : i_in x 4 = false) : CtT mX2_begin 7 [qR 0 0, qI x, qI y, qI z] (hK h (oC pi buf cnt sn len rd) w 10) "java/lang/IndexOutOfBoundsException" := by
  refine ct_of (by decide +kernel) rfl rfl (Nat.le_of_ble_eq_true rfl) ?_
  show Ev mX2_begin 7 0 [some (qR 0 0), some (qI x), some (qI y), some (qI z)] [] 124 (hK h (oC pi buf cnt sn len rd) w 10) 1 6 _ _
  refine e_aload0 dX2_begin_0 ?_
  refine e_iload1 dX2_begin_1 ?_
  exact e_vT (M' := mX2_requireStore) fX2_requireStore lkX2_51 (t_requireStore h pi buf cnt sn len rd w hx) rfl rfl dX2_begin_2 (by rw [hK_0]; rfl) rfl (by decide) (Nat.le_of_ble_eq_true rfl) (by decide) (by decide) rfl ⟨rfl, rfl, rfl⟩
set_option maxRecDepth 20000 in
set_option maxHeartbeats 4000000 in
theorem t1_begin (h : qB) (pi : Nat → Option qK) (buf : Nat → Int32) (cnt sn len : Int32) (rd : Nat → Int32) (w : Fin 16 → qw) (X : qm) (hR : RelC (w 1) X) (hJ : J X) {f : Nat} (hf : f < 4) {x z : Int32} (hx : i_to f x = false) : CtT mX2_begin 7 [qR 0 0, qI (nI f), qI x, qI z] (hK h (oC pi buf cnt sn len rd) w 10) "java/lang/IllegalArgumentException" := by
  refine ct_of (by decide +kernel) rfl rfl (Nat.le_of_ble_eq_true rfl) ?_
  show Ev mX2_begin 7 0 [some (qR 0 0), some (qI (nI f)), some (qI x), some (qI z)] [] 124 (hK h (oC pi buf cnt sn len rd) w 10) 1 6 _ _
  refine e_aload0 dX2_begin_0 ?_
  refine e_iload1 dX2_begin_1 ?_
  refine e_vV (M' := mX2_requireStore) fX2_requireStore lkX2_51 (v_requireStore h pi buf cnt sn len rd w (k := f) hf) rfl rfl dX2_begin_2 (by rw [hK_0]; rfl) rfl (by decide) (Nat.le_of_ble_eq_true rfl) rfl ?_
  rintro _ rfl
  refine e_aload0 dX2_begin_5 ?_
  refine e_iload1 dX2_begin_6 ?_
  refine e_iload2 dX2_begin_7 ?_
  exact e_vT (M' := mX2_requireTakers) fX2_requireTakers lkX2_55 (t_requireTakers h pi buf cnt sn len rd w hx) rfl rfl dX2_begin_8 (by rw [hK_0]; rfl) rfl (by decide) (Nat.le_of_ble_eq_true rfl) (by decide) (by decide) rfl ⟨rfl, rfl, rfl⟩
set_option maxRecDepth 20000 in
set_option maxHeartbeats 4000000 in
theorem t2_begin (h : qB) (pi : Nat → Option qK) (buf : Nat → Int32) (cnt sn len : Int32) (rd : Nat → Int32) (w : Fin 16 → qw) (X : qm) (hR : RelC (w 1) X) (hJ : J X) {f : Nat} (hf : f < 4) {to : Nat} (h1 : 1 ≤ to) (h2 : to < 16) (h3 : to / 2 ^ f % 2 = 0) {x : Int32} (hx : ¬ (¬ x < nI 1 ∧ x ≤ nI 50)) : CtT mX2_begin 7 [qR 0 0, qI (nI f), qI (nI to), qI x] (hK h (oC pi buf cnt sn len rd) w 10) "java/lang/IllegalArgumentException" := by
  refine ct_of (by decide +kernel) rfl rfl (Nat.le_of_ble_eq_true rfl) ?_
  show Ev mX2_begin 7 0 [some (qR 0 0), some (qI (nI f)), some (qI (nI to)), some (qI x)] [] 124 (hK h (oC pi buf cnt sn len rd) w 10) 1 6 _ _
  refine e_aload0 dX2_begin_0 ?_
  refine e_iload1 dX2_begin_1 ?_
  refine e_vV (M' := mX2_requireStore) fX2_requireStore lkX2_51 (v_requireStore h pi buf cnt sn len rd w (k := f) hf) rfl rfl dX2_begin_2 (by rw [hK_0]; rfl) rfl (by decide) (Nat.le_of_ble_eq_true rfl) rfl ?_
  rintro _ rfl
  refine e_aload0 dX2_begin_5 ?_
  refine e_iload1 dX2_begin_6 ?_
  refine e_iload2 dX2_begin_7 ?_
  refine e_vV (M' := mX2_requireTakers) fX2_requireTakers lkX2_55 (v_requireTakers h pi buf cnt sn len rd w (f := f) (to := to) hf h1 h2 h3) rfl rfl dX2_begin_8 (by rw [hK_0]; rfl) rfl (by decide) (Nat.le_of_ble_eq_true rfl) rfl ?_
  rintro _ rfl
  refine e_iload3 dX2_begin_11 ?_
  refine e_iconst (z := 1) dX2_begin_12 ?_
  refine e_icmp_lt 22 dX2_begin_13 (by decide) (fun _ => ?_) (fun q1 => ?_)
  · refine e_throw thX2_begin_22 dX2_begin_22 dX2_begin_25 dX2_begin_26 dX2_begin_28 dX2_begin_31 (q_noh rfl) (by decide) (by decide) (by decide) (by decide) ?_
    exact ⟨rfl, rfl, rfl⟩
  · refine e_iload3 dX2_begin_16 ?_
    refine e_bipush (v := nI 50) dX2_begin_17 (by decide) ?_
    refine e_icmp_le 32 dX2_begin_19 (by decide) (fun q2 => absurd ⟨q1, q2⟩ hx) (fun _ => ?_)
    refine e_throw thX2_begin_22 dX2_begin_22 dX2_begin_25 dX2_begin_26 dX2_begin_28 dX2_begin_31 (q_noh rfl) (by decide) (by decide) (by decide) (by decide) ?_
    exact ⟨rfl, rfl, rfl⟩
set_option maxRecDepth 20000 in
set_option maxHeartbeats 4000000 in
theorem t3_begin (h : qB) (pi : Nat → Option qK) (buf : Nat → Int32) (cnt sn len : Int32) (rd : Nat → Int32) (w : Fin 16 → qw) (X : qm) (hR : RelC (w 1) X) (hJ : J X) {f : Nat} (hf : f < 4) {to : Nat} (h1 : 1 ≤ to) (h2 : to < 16) (h3 : to / 2 ^ f % 2 = 0) {sz : Nat} (h4 : 1 ≤ sz) (h5 : sz ≤ 50) (hS : ¬ (X.1 1 4 = 1 ∧ X.1 0 0 < 8)) : CtT mX2_begin 7 [qR 0 0, qI (nI f), qI (nI to), qI (nI sz)] (hK h (oC pi buf cnt sn len rd) w 10) "java/lang/IllegalStateException" := by
  refine ct_of (by decide +kernel) rfl rfl (Nat.le_of_ble_eq_true rfl) ?_
  show Ev mX2_begin 7 0 [some (qR 0 0), some (qI (nI f)), some (qI (nI to)), some (qI (nI sz))] [] 124 (hK h (oC pi buf cnt sn len rd) w 10) 1 6 _ _
  refine e_aload0 dX2_begin_0 ?_
  refine e_iload1 dX2_begin_1 ?_
  refine e_vV (M' := mX2_requireStore) fX2_requireStore lkX2_51 (v_requireStore h pi buf cnt sn len rd w (k := f) hf) rfl rfl dX2_begin_2 (by rw [hK_0]; rfl) rfl (by decide) (Nat.le_of_ble_eq_true rfl) rfl ?_
  rintro _ rfl
  refine e_aload0 dX2_begin_5 ?_
  refine e_iload1 dX2_begin_6 ?_
  refine e_iload2 dX2_begin_7 ?_
  refine e_vV (M' := mX2_requireTakers) fX2_requireTakers lkX2_55 (v_requireTakers h pi buf cnt sn len rd w (f := f) (to := to) hf h1 h2 h3) rfl rfl dX2_begin_8 (by rw [hK_0]; rfl) rfl (by decide) (Nat.le_of_ble_eq_true rfl) rfl ?_
  rintro _ rfl
  refine e_iload3 dX2_begin_11 ?_
  refine e_iconst (z := 1) dX2_begin_12 ?_
  first | refine e_icmp_ltN 22 dX2_begin_13 (by decide) (by omega) (by omega) (fun hc13 => ?_) (fun hc13 => ?_) | refine e_icmp_lt 22 dX2_begin_13 (by decide) (fun hc13 => ?_) (fun hc13 => ?_)
  · exfalso; omega
  · refine e_iload3 dX2_begin_16 ?_
    refine e_bipush (v := nI 50) dX2_begin_17 (by decide) ?_
    first | refine e_icmp_leN 32 dX2_begin_19 (by decide) (by omega) (by omega) (fun hc19 => ?_) (fun hc19 => ?_) | refine e_icmp_le 32 dX2_begin_19 (by decide) (fun hc19 => ?_) (fun hc19 => ?_)
    · refine e_aload0 dX2_begin_32 ?_
      refine e_get0 flX2_10 dX2_begin_33 rfl rfl ?_
      refine e_vI (M' := mX1_canStart) fX1_canStart lkX2_66 (ctI_K (b := 1) (by decide) (by decide) (w_canStart (hK h (oC pi buf cnt sn len rd) w 10) 1 (w 1) X hR hJ.1)) rfl rfl dX2_begin_36 (by rw [hK_at (by decide) (by decide)]; rfl) rfl (by decide) (Nat.le_of_ble_eq_true rfl) rfl ?_
      rintro _ _ ⟨rfl, rfl⟩
      rw [hK_self (by decide) (by decide)]
      have hB := decide_eq_false hS
      rw [hB]
      refine e_if_neN 52 dX2_begin_39 (by decide) (by decide) (fun q => absurd q (by decide)) (fun _ => ?_)
      refine e_throw thX2_begin_42 dX2_begin_42 dX2_begin_45 dX2_begin_46 dX2_begin_48 dX2_begin_51 (q_noh rfl) (by decide) (by decide) (by decide) (by decide) ?_
      exact ⟨rfl, rfl, rfl⟩
    · exfalso; omega
