def S_append (A : qA) (x : Int32) (code : Nat) (v : Int32) (A2 : qA) : Prop :=
  (¬ (¬ x < nI 33 ∧ ¬ nI 126 < x) ∧ code = 1 ∧ A = A2) ∨
  (∃ k : Nat, 33 ≤ k ∧ k ≤ 126 ∧ x = nI k ∧ aL A = 60 ∧ code = 2 ∧ A = A2) ∨
  (∃ k : Nat, 33 ≤ k ∧ k ≤ 126 ∧ x = nI k ∧ aL A < 60 ∧ code = 0 ∧ v = nI (aL A + 1) ∧ A2 = a_put A k)
def S_clearBuffer (A : qA) (code : Nat) (v : Int32) (A2 : qA) : Prop :=
  (code = 0 ∧ v = nI (aL A) ∧ A2 = a_len0 A)
def S_keep (A : qA) (code : Nat) (v : Int32) (A2 : qA) : Prop :=
  (code = 0 ∧ v = nI ((aX A).1 0 4) ∧ A2 = a_keep A)
def S_goBack (A : qA) (code : Nat) (v : Int32) (A2 : qA) : Prop :=
  (aN A = 0 ∧ code = 1 ∧ A = A2) ∨
  (aN A = 1 ∧ code = 0 ∧ v = nI ((aY A).1 0 4) ∧ A2 = a_mv A (aY A))
def S_undo (A : qA) (code : Nat) (v : Int32) (A2 : qA) : Prop :=
  (aC A = 0 ∧ code = 1 ∧ A = A2) ∨
  (1 ≤ aC A ∧ code = 0 ∧ v = nI (aC A - 1) ∧ A2 = a_undo A)
set_option maxRecDepth 20000 in
set_option maxHeartbeats 4000000 in
theorem p_append (h : qB) {n : Nat} {A : qA} (hG : GA n A) {F : List qE} (hB : RB A F) {x : Int32} {code : Nat} {v : Int32} {A2 : qA} (hS : S_append A x code v A2) : CtI mX3_append 12 [qR 11 0, qI x] (q_put h 11 F) (fun r h2 => ∃ F', RBt A2 F' (nI code) ∧ (code = 0 → r = v) ∧ h2 = q_put h 11 F') := by
  obtain ⟨th, sf, asd, sts, snp, txt, rdd, pt, iw, rm, rfl, hR, hS2, hY, hT⟩ := hB
  have hJ := hG.1.1
  have hW := wk_J hJ
  have hT61 : (aX A).1 0 0 < 61 := Nat.lt_of_le_of_lt hW.1 (by decide)
  have hW61 : (aX A).1 0 4 < 61 := Nat.lt_of_le_of_lt hW.2.1 (by decide)
  have hT31 : (aX A).1 0 0 < 2 ^ 31 := Nat.lt_of_lt_of_le hT61 (by decide)
  have hW31 : (aX A).1 0 4 < 2 ^ 31 := Nat.lt_of_lt_of_le hW61 (by decide)
  rcases hS with ⟨c0, rfl, rfl⟩ | ⟨k, c0, c1, rfl, c3, rfl, rfl⟩ | ⟨k, c0, c1, rfl, c3, rfl, rfl, rfl⟩
  · refine ct_of (by decide +kernel) rfl rfl (Nat.le_of_ble_eq_true rfl) ?_
    show Ev mX3_append 12 0 [some (qR 11 0), some (qI (x))] [] 132 (q_put h 11 (oR th sf asd sts snp txt rdd (nI (aC A)) (nI (aN A)) (nI (aL A)) pt iw rm)) 0 0 _ _
    refine e_aload0 dX3_append_0 ?_
    refine e_iconst (z := 0) dX3_append_1 ?_
    refine e_putfieldF flX3_28 dX3_append_2 rfl (Nat.le_of_ble_eq_true rfl) (fun _ => rfl) (fun _ => rfl) ?_
    refine e_iload1 dX3_append_5 ?_
    refine e_bipush (v := nI 33) dX3_append_6 (by decide) ?_
    refine e_bipush (v := nI 126) dX3_append_8 (by decide) ?_
    refine e_sI (M' := mX3_in) fX3_in lkX3_32 (r_in _ _ _ _) rfl rfl dX3_append_10 (by decide) (Nat.le_of_ble_eq_true rfl) rfl ?_
    rintro _ _ ⟨rfl, rfl⟩
    rw [decide_eq_false c0]
    refine e_if_neN 22 dX3_append_13 (by decide) (by first | omega | decide) (fun q => absurd rfl q) (fun hc13 => ?_)
    refine e_aload0 dX3_append_16 ?_
    refine e_iconst (z := 1) dX3_append_17 ?_
    refine e_vIF (M' := mX3_fails) fX3_fails lkX3_106 (r_fails h (nI 0) sf asd sts snp txt rdd (nI (aC A)) (nI (aN A)) (nI (aL A)) pt iw rm (x := nI 1)) rfl rfl dX3_append_18 rfl rfl (by decide) (Nat.le_of_ble_eq_true rfl) rfl ?_
    rintro _ _ ⟨rfl, rfl⟩
    refine e_iret dX3_append_21 rfl ?_
    exact ⟨_, rfl, rfl, _, ⟨sf, asd, sts, snp, txt, rdd, pt, iw, rm, rfl, hR, hS2, hY, hT⟩, fun q => absurd q (by decide), rfl⟩
  · refine ct_of (by decide +kernel) rfl rfl (Nat.le_of_ble_eq_true rfl) ?_
    show Ev mX3_append 12 0 [some (qR 11 0), some (qI (nI k))] [] 132 (q_put h 11 (oR th sf asd sts snp txt rdd (nI (aC A)) (nI (aN A)) (nI (aL A)) pt iw rm)) 0 0 _ _
    refine e_aload0 dX3_append_0 ?_
    refine e_iconst (z := 0) dX3_append_1 ?_
    refine e_putfieldF flX3_28 dX3_append_2 rfl (Nat.le_of_ble_eq_true rfl) (fun _ => rfl) (fun _ => rfl) ?_
    refine e_iload1 dX3_append_5 ?_
    refine e_bipush (v := nI 33) dX3_append_6 (by decide) ?_
    refine e_bipush (v := nI 126) dX3_append_8 (by decide) ?_
    refine e_sI (M' := mX3_in) fX3_in lkX3_32 (r_in _ _ _ _) rfl rfl dX3_append_10 (by decide) (Nat.le_of_ble_eq_true rfl) rfl ?_
    rintro _ _ ⟨rfl, rfl⟩
    rw [show decide (¬ nI k < nI 33 ∧ ¬ nI 126 < nI k) = true from decide_eq_true ⟨fun q => absurd ((nI_ltI (by omega) (by decide)).mp q) (by omega), fun q => absurd ((nI_ltI (by decide) (by omega)).mp q) (by omega)⟩]
    refine e_if_neN 22 dX3_append_13 (by decide) (by first | omega | decide) (fun hc13 => ?_) (fun q => absurd q (by decide))
    have h60 := hG.2.2.2.2.2.1
    refine e_aload0 dX3_append_22 ?_
    refine e_getfieldF flX3_156 dX3_append_23 rfl rfl ?_
    refine e_bipush (v := nI 60) dX3_append_26 (by decide) ?_
    refine e_icmp_neN 37 dX3_append_28 (by decide) (by first | omega | decide) (by first | omega | decide) (fun q => absurd c3 q) (fun hc28 => ?_)
    refine e_aload0 dX3_append_31 ?_
    refine e_iconst (z := 2) dX3_append_32 ?_
    refine e_vIF (M' := mX3_fails) fX3_fails lkX3_106 (r_fails h (nI 0) sf asd sts snp txt rdd (nI (aC A)) (nI (aN A)) (nI (aL A)) pt iw rm (x := nI 2)) rfl rfl dX3_append_33 rfl rfl (by decide) (Nat.le_of_ble_eq_true rfl) rfl ?_
    rintro _ _ ⟨rfl, rfl⟩
    refine e_iret dX3_append_36 rfl ?_
    exact ⟨_, rfl, rfl, _, ⟨sf, asd, sts, snp, txt, rdd, pt, iw, rm, rfl, hR, hS2, hY, hT⟩, fun q => absurd q (by decide), rfl⟩
  · refine ct_of (by decide +kernel) rfl rfl (Nat.le_of_ble_eq_true rfl) ?_
    show Ev mX3_append 12 0 [some (qR 11 0), some (qI (nI k))] [] 132 (q_put h 11 (oR th sf asd sts snp txt rdd (nI (aC A)) (nI (aN A)) (nI (aL A)) pt iw rm)) 0 0 _ _
    refine e_aload0 dX3_append_0 ?_
    refine e_iconst (z := 0) dX3_append_1 ?_
    refine e_putfieldF flX3_28 dX3_append_2 rfl (Nat.le_of_ble_eq_true rfl) (fun _ => rfl) (fun _ => rfl) ?_
    refine e_iload1 dX3_append_5 ?_
    refine e_bipush (v := nI 33) dX3_append_6 (by decide) ?_
    refine e_bipush (v := nI 126) dX3_append_8 (by decide) ?_
    refine e_sI (M' := mX3_in) fX3_in lkX3_32 (r_in _ _ _ _) rfl rfl dX3_append_10 (by decide) (Nat.le_of_ble_eq_true rfl) rfl ?_
    rintro _ _ ⟨rfl, rfl⟩
    rw [show decide (¬ nI k < nI 33 ∧ ¬ nI 126 < nI k) = true from decide_eq_true ⟨fun q => absurd ((nI_ltI (by omega) (by decide)).mp q) (by omega), fun q => absurd ((nI_ltI (by decide) (by omega)).mp q) (by omega)⟩]
    refine e_if_neN 22 dX3_append_13 (by decide) (by first | omega | decide) (fun hc13 => ?_) (fun q => absurd q (by decide))
    have h60 := hG.2.2.2.2.2.1
    refine e_aload0 dX3_append_22 ?_
    refine e_getfieldF flX3_156 dX3_append_23 rfl rfl ?_
    refine e_bipush (v := nI 60) dX3_append_26 (by decide) ?_
    refine e_icmp_neN 37 dX3_append_28 (by decide) (by first | omega | decide) (by first | omega | decide) (fun hc28 => ?_) (fun q => absurd q (by omega))
    refine e_aload0 dX3_append_37 ?_
    refine e_getfieldF flX3_22 dX3_append_38 rfl rfl ?_
    refine e_aload0 dX3_append_41 ?_
    refine e_getfieldF flX3_156 dX3_append_42 rfl rfl ?_
    refine e_iload1 dX3_append_45 ?_
    refine e_iastoreN dX3_append_46 rfl (by omega) (by decide) ?_
    refine e_aload0 dX3_append_47 ?_
    refine e_dup dX3_append_48 rfl ?_
    refine e_getfieldF flX3_156 dX3_append_49 rfl rfl ?_
    refine e_iconst (z := 1) dX3_append_52 ?_
    first | refine e_iaddN dX3_append_53 ?_ | refine e_iadd dX3_append_53 ?_
    refine e_putfieldF flX3_156 dX3_append_54 rfl (Nat.le_of_ble_eq_true rfl) (fun _ => rfl) (fun _ => rfl) ?_
    refine e_aload0 dX3_append_57 ?_
    refine e_getfieldF flX3_156 dX3_append_58 rfl rfl ?_
    refine e_iret dX3_append_61 rfl ?_
    refine ⟨_, rfl, rfl, _, ⟨sf, asd, sts, snp, upd txt (aL A) (nI k), rdd, pt, iw, rm, rfl, hR, hS2, hY, fun i hi => ?_⟩, fun _ => rfl, rfl⟩
    have hi : i < aL A + 1 := hi
    show upd txt (aL A) (nI k) i = nI (if i = aL A then k else aT A i)
    by_cases q : i = aL A
    · rw [q, upd_same, if_pos rfl]
    · rw [upd_ne q, if_neg q]; exact hT i (by omega)
set_option maxRecDepth 20000 in
set_option maxHeartbeats 4000000 in
theorem p_clearBuffer (h : qB) {n : Nat} {A : qA} (hG : GA n A) {F : List qE} (hB : RB A F) {code : Nat} {v : Int32} {A2 : qA} (hS : S_clearBuffer A code v A2) : CtI mX3_clearBuffer 12 [qR 11 0] (q_put h 11 F) (fun r h2 => ∃ F', RBt A2 F' (nI code) ∧ (code = 0 → r = v) ∧ h2 = q_put h 11 F') := by
  obtain ⟨th, sf, asd, sts, snp, txt, rdd, pt, iw, rm, rfl, hR, hS2, hY, hT⟩ := hB
  have hJ := hG.1.1
  have hW := wk_J hJ
  have hT61 : (aX A).1 0 0 < 61 := Nat.lt_of_le_of_lt hW.1 (by decide)
  have hW61 : (aX A).1 0 4 < 61 := Nat.lt_of_le_of_lt hW.2.1 (by decide)
  have hT31 : (aX A).1 0 0 < 2 ^ 31 := Nat.lt_of_lt_of_le hT61 (by decide)
  have hW31 : (aX A).1 0 4 < 2 ^ 31 := Nat.lt_of_lt_of_le hW61 (by decide)
  obtain ⟨rfl, rfl, rfl⟩ := hS
  refine ct_of (by decide +kernel) rfl rfl (Nat.le_of_ble_eq_true rfl) ?_
  show Ev mX3_clearBuffer 12 0 [some (qR 11 0), none] [] 132 (q_put h 11 (oR th sf asd sts snp txt rdd (nI (aC A)) (nI (aN A)) (nI (aL A)) pt iw rm)) 0 0 _ _
  refine e_aload0 dX3_clearBuffer_0 ?_
  refine e_iconst (z := 0) dX3_clearBuffer_1 ?_
  refine e_putfieldF flX3_28 dX3_clearBuffer_2 rfl (Nat.le_of_ble_eq_true rfl) (fun _ => rfl) (fun _ => rfl) ?_
  refine e_aload0 dX3_clearBuffer_5 ?_
  refine e_getfieldF flX3_156 dX3_clearBuffer_6 rfl rfl ?_
  refine e_istore1 dX3_clearBuffer_9 rfl (by decide) ?_
  refine e_aload0 dX3_clearBuffer_10 ?_
  refine e_iconst (z := 0) dX3_clearBuffer_11 ?_
  refine e_putfieldF flX3_156 dX3_clearBuffer_12 rfl (Nat.le_of_ble_eq_true rfl) (fun _ => rfl) (fun _ => rfl) ?_
  refine e_iload1 dX3_clearBuffer_15 ?_
  refine e_iret dX3_clearBuffer_16 rfl ?_
  exact ⟨_, rfl, rfl, _, ⟨sf, asd, sts, snp, txt, rdd, pt, iw, rm, rfl, hR, hS2, hY, fun i hi => absurd hi (Nat.not_lt_zero _)⟩, fun _ => rfl, rfl⟩
set_option maxRecDepth 20000 in
set_option maxHeartbeats 4000000 in
theorem p_keep (h : qB) {n : Nat} {A : qA} (hG : GA n A) {F : List qE} (hB : RB A F) {code : Nat} {v : Int32} {A2 : qA} (hS : S_keep A code v A2) : CtI mX3_keep 12 [qR 11 0] (q_put h 11 F) (fun r h2 => ∃ F', RBt A2 F' (nI code) ∧ (code = 0 → r = v) ∧ h2 = q_put h 11 F') := by
  obtain ⟨th, sf, asd, sts, snp, txt, rdd, pt, iw, rm, rfl, hR, hS2, hY, hT⟩ := hB
  have hJ := hG.1.1
  have hW := wk_J hJ
  have hT61 : (aX A).1 0 0 < 61 := Nat.lt_of_le_of_lt hW.1 (by decide)
  have hW61 : (aX A).1 0 4 < 61 := Nat.lt_of_le_of_lt hW.2.1 (by decide)
  have hT31 : (aX A).1 0 0 < 2 ^ 31 := Nat.lt_of_lt_of_le hT61 (by decide)
  have hW31 : (aX A).1 0 4 < 2 ^ 31 := Nat.lt_of_lt_of_le hW61 (by decide)
  obtain ⟨rfl, rfl, rfl⟩ := hS
  refine ct_of (by decide +kernel) rfl rfl (Nat.le_of_ble_eq_true rfl) ?_
  show Ev mX3_keep 12 0 [some (qR 11 0), none] [] 132 (q_put h 11 (oR th sf asd sts snp txt rdd (nI (aC A)) (nI (aN A)) (nI (aL A)) pt iw rm)) 0 0 _ _
  refine e_aload0 dX3_keep_0 ?_
  refine e_iconst (z := 0) dX3_keep_1 ?_
  refine e_putfieldF flX3_28 dX3_keep_2 rfl (Nat.le_of_ble_eq_true rfl) (fun _ => rfl) (fun _ => rfl) ?_
  refine e_iconst (z := 0) dX3_keep_5 ?_
  refine e_istore1 dX3_keep_6 rfl (by decide) ?_
  have H : ∀ (m i : Nat) (d2 : Nat → Int32), i ≤ 256 → m = 256 - i → (∀ j, j < 256 → d2 j = if j < i then sf j else snp j) → Ev mX3_keep 12 7 [some (qR 11 0), some (qI (nI i))] [] 132 (q_put h 11 (oR (nI 0) sf asd sts d2 txt rdd (nI (aC A)) (nI (aN A)) (nI (aL A)) pt iw rm)) 0 0 (fun r n h' => ∃ x, r = some (qI x) ∧ n = 132 ∧ ((fun r h2 => ∃ F', RBt (a_keep A) F' (nI 0) ∧ (0 = 0 → r = nI ((aX A).1 0 4)) ∧ h2 = q_put h 11 F')) x h') qNo := by
    intro m
    induction m using Nat.strongRecOn with
    | _ m ih =>
    intro i d2 hi hm hI
    refine e_iload1 dX3_keep_7 ?_
    refine e_sipush (v := nI 256) dX3_keep_8 (by decide) ?_
    first | refine e_icmp_geN 32 dX3_keep_11 (by decide) (by omega) (by omega) (fun hc11 => ?_) (fun hc11 => ?_) | refine e_icmp_ge 32 dX3_keep_11 (by decide) (fun hc11 => ?_) (fun hc11 => ?_)
    · obtain rfl : i = 256 := by omega
      refine e_aload0 dX3_keep_32 ?_
      refine e_iconst (z := 1) dX3_keep_33 ?_
      refine e_putfieldF flX3_190 dX3_keep_34 rfl (Nat.le_of_ble_eq_true rfl) (fun _ => rfl) (fun _ => rfl) ?_
      refine e_aload0 dX3_keep_37 ?_
      refine e_getfieldF flX3_7 dX3_keep_38 rfl rfl ?_
      refine e_bipush (v := nI 13) dX3_keep_41 (by decide) ?_
      refine e_ialoadN dX3_keep_43 rfl (by omega) (by decide) ?_
      refine e_iret dX3_keep_44 rfl ?_
      exact ⟨_, rfl, rfl, _, ⟨sf, asd, sts, d2, txt, rdd, pt, iw, rm, rfl, hR, hS2, fun _ => relR_congr hW (fun j hj => by rw [hI j hj, if_pos hj]) hR, hT⟩, fun _ => rR6 hR, rfl⟩
    · refine e_aload0 dX3_keep_14 ?_
      refine e_getfieldF flX3_19 dX3_keep_15 rfl rfl ?_
      refine e_iload1 dX3_keep_18 ?_
      refine e_aload0 dX3_keep_19 ?_
      refine e_getfieldF flX3_7 dX3_keep_20 rfl rfl ?_
      refine e_iload1 dX3_keep_23 ?_
      refine e_ialoadN dX3_keep_24 rfl (by omega) (by decide) ?_
      refine e_iastoreN dX3_keep_25 rfl (by omega) (by decide) ?_
      first | refine e_iinc1N (z := 1) dX3_keep_26 rfl (by decide) ?_ | refine e_iinc1 dX3_keep_26 rfl rfl (by decide) ?_
      refine e_goto 7 dX3_keep_29 (by decide) ?_
      refine ih _ (by omega) (i + 1) _ (by omega) rfl (fun j hj => ?_)
      by_cases q : j = i
      · rw [q, upd_same, if_pos (by omega)]
      · rw [upd_ne q, hI j hj]
        by_cases q2 : j < i
        · rw [if_pos q2, if_pos (by omega)]
        · rw [if_neg q2, if_neg (by omega)]
  exact H _ 0 _ (Nat.zero_le _) rfl (fun j _ => by rw [if_neg (by omega)])
set_option maxRecDepth 20000 in
set_option maxHeartbeats 4000000 in
theorem p_goBack (h : qB) {n : Nat} {A : qA} (hG : GA n A) {F : List qE} (hB : RB A F) {code : Nat} {v : Int32} {A2 : qA} (hS : S_goBack A code v A2) : CtI mX3_goBack 12 [qR 11 0] (q_put h 11 F) (fun r h2 => ∃ F', RBt A2 F' (nI code) ∧ (code = 0 → r = v) ∧ h2 = q_put h 11 F') := by
  obtain ⟨th, sf, asd, sts, snp, txt, rdd, pt, iw, rm, rfl, hR, hS2, hY, hT⟩ := hB
  have hJ := hG.1.1
  have hW := wk_J hJ
  have hT61 : (aX A).1 0 0 < 61 := Nat.lt_of_le_of_lt hW.1 (by decide)
  have hW61 : (aX A).1 0 4 < 61 := Nat.lt_of_le_of_lt hW.2.1 (by decide)
  have hT31 : (aX A).1 0 0 < 2 ^ 31 := Nat.lt_of_lt_of_le hT61 (by decide)
  have hW31 : (aX A).1 0 4 < 2 ^ 31 := Nat.lt_of_lt_of_le hW61 (by decide)
  rcases hS with ⟨c0, rfl, rfl⟩ | ⟨c0, rfl, rfl, rfl⟩
  · refine ct_of (by decide +kernel) rfl rfl (Nat.le_of_ble_eq_true rfl) ?_
    show Ev mX3_goBack 12 0 [some (qR 11 0), none] [] 132 (q_put h 11 (oR th sf asd sts snp txt rdd (nI (aC A)) (nI (aN A)) (nI (aL A)) pt iw rm)) 0 0 _ _
    refine e_aload0 dX3_goBack_0 ?_
    refine e_iconst (z := 0) dX3_goBack_1 ?_
    refine e_putfieldF flX3_28 dX3_goBack_2 rfl (Nat.le_of_ble_eq_true rfl) (fun _ => rfl) (fun _ => rfl) ?_
    refine e_aload0 dX3_goBack_5 ?_
    refine e_getfieldF flX3_190 dX3_goBack_6 rfl rfl ?_
    refine e_if_neN 18 dX3_goBack_9 (by decide) (by first | omega | decide) (fun q => absurd c0 q) (fun hc9 => ?_)
    refine e_aload0 dX3_goBack_12 ?_
    refine e_iconst (z := 1) dX3_goBack_13 ?_
    refine e_vIF (M' := mX3_fails) fX3_fails lkX3_106 (r_fails h (nI 0) sf asd sts snp txt rdd (nI (aC A)) (nI (aN A)) (nI (aL A)) pt iw rm (x := nI 1)) rfl rfl dX3_goBack_14 rfl rfl (by decide) (Nat.le_of_ble_eq_true rfl) rfl ?_
    rintro _ _ ⟨rfl, rfl⟩
    refine e_iret dX3_goBack_17 rfl ?_
    exact ⟨_, rfl, rfl, _, ⟨sf, asd, sts, snp, txt, rdd, pt, iw, rm, rfl, hR, hS2, hY, hT⟩, fun q => absurd q (by decide), rfl⟩
  · refine ct_of (by decide +kernel) rfl rfl (Nat.le_of_ble_eq_true rfl) ?_
    show Ev mX3_goBack 12 0 [some (qR 11 0), none] [] 132 (q_put h 11 (oR th sf asd sts snp txt rdd (nI (aC A)) (nI (aN A)) (nI (aL A)) pt iw rm)) 0 0 _ _
    refine e_aload0 dX3_goBack_0 ?_
    refine e_iconst (z := 0) dX3_goBack_1 ?_
    refine e_putfieldF flX3_28 dX3_goBack_2 rfl (Nat.le_of_ble_eq_true rfl) (fun _ => rfl) (fun _ => rfl) ?_
    refine e_aload0 dX3_goBack_5 ?_
    refine e_getfieldF flX3_190 dX3_goBack_6 rfl rfl ?_
    have n1 : aN A < 2 := by omega
    refine e_if_neN 18 dX3_goBack_9 (by decide) (by first | omega | decide) (fun hc9 => ?_) (fun q => absurd q (by omega))
    refine e_aload0 dX3_goBack_18 ?_
    refine e_vVF (M' := mX3_recordsState) fX3_recordsState lkX3_116 (r_recordsState h (nI 0) sf asd sts snp txt rdd (nI (aN A)) (nI (aL A)) pt iw rm (aX A) hR hJ (aC A) hG.2.1 (aS A) hS2) rfl rfl dX3_goBack_19 rfl rfl (by decide) (Nat.le_of_ble_eq_true rfl) rfl ?_
    rintro _ ⟨s2, hS3, rfl⟩
    refine e_iconst (z := 0) dX3_goBack_22 ?_
    refine e_istore1 dX3_goBack_23 rfl (by decide) ?_
    have H : ∀ (m i : Nat) (d2 : Nat → Int32), i ≤ 256 → m = 256 - i → (∀ j, j < 256 → d2 j = if j < i then snp j else sf j) → Ev mX3_goBack 12 24 [some (qR 11 0), some (qI (nI i))] [] 132 (q_put h 11 (oR (nI 0) d2 asd s2 snp txt rdd (nI (m_svC (aC A))) (nI (aN A)) (nI (aL A)) pt iw rm)) 0 0 (fun r n h' => ∃ x, r = some (qI x) ∧ n = 132 ∧ ((fun r h2 => ∃ F', RBt (a_mv A (aY A)) F' (nI 0) ∧ (0 = 0 → r = nI ((aY A).1 0 4)) ∧ h2 = q_put h 11 F')) x h') qNo := by
      intro m
      induction m using Nat.strongRecOn with
      | _ m ih =>
      intro i d2 hi hm hI
      refine e_iload1 dX3_goBack_24 ?_
      refine e_sipush (v := nI 256) dX3_goBack_25 (by decide) ?_
      first | refine e_icmp_geN 49 dX3_goBack_28 (by decide) (by omega) (by omega) (fun hc28 => ?_) (fun hc28 => ?_) | refine e_icmp_ge 49 dX3_goBack_28 (by decide) (fun hc28 => ?_) (fun hc28 => ?_)
      · refine e_aload0 dX3_goBack_49 ?_
        refine e_getfieldF flX3_7 dX3_goBack_50 rfl rfl ?_
        refine e_bipush (v := nI 13) dX3_goBack_53 (by decide) ?_
        refine e_ialoadN dX3_goBack_55 rfl (by omega) (by decide) ?_
        refine e_iret dX3_goBack_56 rfl ?_
        obtain rfl : i = 256 := by omega
        have hR3 : RelR d2 (aY A) := relR_congr (wk_J (hG.2.2.2.2.1 c0).1) (fun j hj => by rw [hI j hj, if_pos hj]) (hY c0)
        exact ⟨_, rfl, rfl, _, ⟨d2, asd, s2, snp, txt, rdd, pt, iw, rm, rfl, hR3, hS3, hY, hT⟩, fun _ => rR6 hR3, rfl⟩
      · refine e_aload0 dX3_goBack_31 ?_
        refine e_getfieldF flX3_7 dX3_goBack_32 rfl rfl ?_
        refine e_iload1 dX3_goBack_35 ?_
        refine e_aload0 dX3_goBack_36 ?_
        refine e_getfieldF flX3_19 dX3_goBack_37 rfl rfl ?_
        refine e_iload1 dX3_goBack_40 ?_
        refine e_ialoadN dX3_goBack_41 rfl (by omega) (by decide) ?_
        refine e_iastoreN dX3_goBack_42 rfl (by omega) (by decide) ?_
        first | refine e_iinc1N (z := 1) dX3_goBack_43 rfl (by decide) ?_ | refine e_iinc1 dX3_goBack_43 rfl rfl (by decide) ?_
        refine e_goto 24 dX3_goBack_46 (by decide) ?_
        refine ih _ (by omega) (i + 1) _ (by omega) rfl (fun j hj => ?_)
        by_cases q : j = i
        · rw [q, upd_same, if_pos (by omega)]
        · rw [upd_ne q, hI j hj]
          by_cases q2 : j < i
          · rw [if_pos q2, if_pos (by omega)]
          · rw [if_neg q2, if_neg (by omega)]
    exact H _ 0 _ (Nat.zero_le _) rfl (fun j _ => by rw [if_neg (by omega)])
set_option maxRecDepth 20000 in
set_option maxHeartbeats 4000000 in
theorem p_undo (h : qB) {n : Nat} {A : qA} (hG : GA n A) {F : List qE} (hB : RB A F) {code : Nat} {v : Int32} {A2 : qA} (hS : S_undo A code v A2) : CtI mX3_undo 12 [qR 11 0] (q_put h 11 F) (fun r h2 => ∃ F', RBt A2 F' (nI code) ∧ (code = 0 → r = v) ∧ h2 = q_put h 11 F') := by
  obtain ⟨th, sf, asd, sts, snp, txt, rdd, pt, iw, rm, rfl, hR, hS2, hY, hT⟩ := hB
  have hJ := hG.1.1
  have hW := wk_J hJ
  have hT61 : (aX A).1 0 0 < 61 := Nat.lt_of_le_of_lt hW.1 (by decide)
  have hW61 : (aX A).1 0 4 < 61 := Nat.lt_of_le_of_lt hW.2.1 (by decide)
  have hT31 : (aX A).1 0 0 < 2 ^ 31 := Nat.lt_of_lt_of_le hT61 (by decide)
  have hW31 : (aX A).1 0 4 < 2 ^ 31 := Nat.lt_of_lt_of_le hW61 (by decide)
  rcases hS with ⟨c0, rfl, rfl⟩ | ⟨c0, rfl, rfl, rfl⟩
  · refine ct_of (by decide +kernel) rfl rfl (Nat.le_of_ble_eq_true rfl) ?_
    show Ev mX3_undo 12 0 [some (qR 11 0), none] [] 132 (q_put h 11 (oR th sf asd sts snp txt rdd (nI (aC A)) (nI (aN A)) (nI (aL A)) pt iw rm)) 0 0 _ _
    refine e_aload0 dX3_undo_0 ?_
    refine e_iconst (z := 0) dX3_undo_1 ?_
    refine e_putfieldF flX3_28 dX3_undo_2 rfl (Nat.le_of_ble_eq_true rfl) (fun _ => rfl) (fun _ => rfl) ?_
    refine e_aload0 dX3_undo_5 ?_
    refine e_getfieldF flX3_36 dX3_undo_6 rfl rfl ?_
    have n6 := hG.2.1
    refine e_if_neN 18 dX3_undo_9 (by decide) (by first | omega | decide) (fun q => absurd c0 q) (fun hc9 => ?_)
    refine e_aload0 dX3_undo_12 ?_
    refine e_iconst (z := 1) dX3_undo_13 ?_
    refine e_vIF (M' := mX3_fails) fX3_fails lkX3_106 (r_fails h (nI 0) sf asd sts snp txt rdd (nI (aC A)) (nI (aN A)) (nI (aL A)) pt iw rm (x := nI 1)) rfl rfl dX3_undo_14 rfl rfl (by decide) (Nat.le_of_ble_eq_true rfl) rfl ?_
    rintro _ _ ⟨rfl, rfl⟩
    refine e_iret dX3_undo_17 rfl ?_
    exact ⟨_, rfl, rfl, _, ⟨sf, asd, sts, snp, txt, rdd, pt, iw, rm, rfl, hR, hS2, hY, hT⟩, fun q => absurd q (by decide), rfl⟩
  · refine ct_of (by decide +kernel) rfl rfl (Nat.le_of_ble_eq_true rfl) ?_
    show Ev mX3_undo 12 0 [some (qR 11 0), none] [] 132 (q_put h 11 (oR th sf asd sts snp txt rdd (nI (aC A)) (nI (aN A)) (nI (aL A)) pt iw rm)) 0 0 _ _
    refine e_aload0 dX3_undo_0 ?_
    refine e_iconst (z := 0) dX3_undo_1 ?_
    refine e_putfieldF flX3_28 dX3_undo_2 rfl (Nat.le_of_ble_eq_true rfl) (fun _ => rfl) (fun _ => rfl) ?_
    refine e_aload0 dX3_undo_5 ?_
    refine e_getfieldF flX3_36 dX3_undo_6 rfl rfl ?_
    have n6 := hG.2.1
    refine e_if_neN 18 dX3_undo_9 (by decide) (by first | omega | decide) (fun hc9 => ?_) (fun q => absurd q (by omega))
    refine e_aload0 dX3_undo_18 ?_
    refine e_dup dX3_undo_19 rfl ?_
    refine e_getfieldF flX3_36 dX3_undo_20 rfl rfl ?_
    refine e_iconst (z := 1) dX3_undo_23 ?_
    first | refine e_isubN dX3_undo_24 (by omega) ?_ | refine e_isub dX3_undo_24 ?_
    refine e_putfieldF flX3_36 dX3_undo_25 rfl (Nat.le_of_ble_eq_true rfl) (fun _ => rfl) (fun _ => rfl) ?_
    refine e_iconst (z := 0) dX3_undo_28 ?_
    refine e_istore1 dX3_undo_29 rfl (by decide) ?_
    have H : ∀ (m i : Nat) (d2 : Nat → Int32), i ≤ 256 → m = 256 - i → (∀ j, j < 256 → d2 j = if j < i then sts (256 * (aC A - 1) + j) else sf j) → Ev mX3_undo 12 30 [some (qR 11 0), some (qI (nI i))] [] 132 (q_put h 11 (oR (nI 0) d2 asd sts snp txt rdd (nI (aC A - 1)) (nI (aN A)) (nI (aL A)) pt iw rm)) 0 0 (fun r n h' => ∃ x, r = some (qI x) ∧ n = 132 ∧ ((fun r h2 => ∃ F', RBt (a_undo A) F' (nI 0) ∧ (0 = 0 → r = nI (aC A - 1)) ∧ h2 = q_put h 11 F')) x h') qNo := by
      intro m
      induction m using Nat.strongRecOn with
      | _ m ih =>
      intro i d2 hi hm hI
      refine e_iload1 dX3_undo_30 ?_
      refine e_sipush (v := nI 256) dX3_undo_31 (by decide) ?_
      first | refine e_icmp_geN 64 dX3_undo_34 (by decide) (by omega) (by omega) (fun hc34 => ?_) (fun hc34 => ?_) | refine e_icmp_ge 64 dX3_undo_34 (by decide) (fun hc34 => ?_) (fun hc34 => ?_)
      · refine e_aload0 dX3_undo_64 ?_
        refine e_getfieldF flX3_36 dX3_undo_65 rfl rfl ?_
        refine e_iret dX3_undo_68 rfl ?_
        obtain rfl : i = 256 := by omega
        obtain ⟨a1, a2⟩ := hS2 (aC A - 1) (by omega)
        have hR3 : RelR d2 (aS A (aC A - 1)) := relR_congr (wk_J a2) (fun j hj => by rw [hI j hj, if_pos hj]) a1
        exact ⟨_, rfl, rfl, _, ⟨d2, asd, sts, snp, txt, rdd, pt, iw, rm, rfl, hR3, fun i hi => hS2 i (by have hi : i < aC A - 1 := hi; omega), hY, hT⟩, fun _ => rfl, rfl⟩
      · refine e_aload0 dX3_undo_37 ?_
        refine e_getfieldF flX3_7 dX3_undo_38 rfl rfl ?_
        refine e_iload1 dX3_undo_41 ?_
        refine e_aload0 dX3_undo_42 ?_
        refine e_getfieldF flX3_16 dX3_undo_43 rfl rfl ?_
        refine e_sipush (v := nI 256) dX3_undo_46 (by decide) ?_
        refine e_aload0 dX3_undo_49 ?_
        refine e_getfieldF flX3_36 dX3_undo_50 rfl rfl ?_
        first | refine e_imulN dX3_undo_53 ?_ | refine e_imul dX3_undo_53 ?_
        refine e_iload1 dX3_undo_54 ?_
        first | refine e_iaddN dX3_undo_55 ?_ | refine e_iadd dX3_undo_55 ?_
        refine e_ialoadN dX3_undo_56 rfl (by omega) (by decide) ?_
        refine e_iastoreN dX3_undo_57 rfl (by omega) (by decide) ?_
        first | refine e_iinc1N (z := 1) dX3_undo_58 rfl (by decide) ?_ | refine e_iinc1 dX3_undo_58 rfl rfl (by decide) ?_
        refine e_goto 30 dX3_undo_61 (by decide) ?_
        refine ih _ (by omega) (i + 1) _ (by omega) rfl (fun j hj => ?_)
        by_cases q : j = i
        · rw [q, upd_same, if_pos (by omega)]
        · rw [upd_ne q, hI j hj]
          by_cases q2 : j < i
          · rw [if_pos q2, if_pos (by omega)]
          · rw [if_neg q2, if_neg (by omega)]
    exact H _ 0 _ (Nat.zero_le _) rfl (fun j _ => by rw [if_neg (by omega)])
