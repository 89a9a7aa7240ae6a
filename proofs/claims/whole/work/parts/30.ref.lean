/-! THE MODEL'S OWN PROGRAM: its cells, and what they tell -/
def oR (th : Int32) (sf asd sts snp txt rdd : Nat → Int32) (cnt hq len pt iw rm : Int32) : List qE := [eO 3 [qI th, qR 11 1, qR 11 2, qR 11 3, qI cnt, qR 11 4, qI hq, qR 11 5, qI len, qI pt, qI iw, qR 11 6, qI rm], eI 256 sf, eI 256 asd, eI 1536 sts, eI 256 snp, eI 60 txt, eI 124 rdd]
def RelR (sf : Nat → Int32) (X : qm) : Prop := (∀ k, k < 5 → sf k = nI (X.1 1 k)) ∧ (∀ s, s < 4 → sf (5 + s) = X.2 s) ∧ sf 9 = nI (X.1 0 0) ∧ sf 10 = nI (X.1 0 1) ∧ sf 11 = nI (X.1 0 2) ∧ sf 12 = nI (X.1 0 3) ∧ sf 13 = nI (X.1 0 4) ∧
  (∀ t j, t < 8 → j < 7 → sf (14 + 7 * t + j) = nI (X.1 (j + 2) t)) ∧ (∀ s t, s < 4 → t < 8 → sf (70 + 8 * s + t) = nI (X.1 9 (8 * s + t))) ∧ (∀ s, s < 5 → sf (102 + s) = nI (X.1 10 s)) ∧
  (∀ s k, s < 5 → k < X.1 10 s → sf (107 + 16 * s + k) = nI (X.1 11 (32 * s + k))) ∧ (∀ k, k < X.1 0 4 → sf (195 + k) = nI (X.1 12 k))
theorem rR0 {sf : Nat → Int32} {X : qm} (hR : RelR sf X) : ∀ k, k < 5 → sf k = nI (X.1 1 k) := hR.1
theorem rR1 {sf : Nat → Int32} {X : qm} (hR : RelR sf X) : ∀ s, s < 4 → sf (5 + s) = X.2 s := hR.2.1
theorem rR2 {sf : Nat → Int32} {X : qm} (hR : RelR sf X) : sf 9 = nI (X.1 0 0) := hR.2.2.1
theorem rR3 {sf : Nat → Int32} {X : qm} (hR : RelR sf X) : sf 10 = nI (X.1 0 1) := hR.2.2.2.1
theorem rR4 {sf : Nat → Int32} {X : qm} (hR : RelR sf X) : sf 11 = nI (X.1 0 2) := hR.2.2.2.2.1
theorem rR5 {sf : Nat → Int32} {X : qm} (hR : RelR sf X) : sf 12 = nI (X.1 0 3) := hR.2.2.2.2.2.1
theorem rR6 {sf : Nat → Int32} {X : qm} (hR : RelR sf X) : sf 13 = nI (X.1 0 4) := hR.2.2.2.2.2.2.1
theorem rR7 {sf : Nat → Int32} {X : qm} (hR : RelR sf X) : ∀ t j, t < 8 → j < 7 → sf (14 + 7 * t + j) = nI (X.1 (j + 2) t) := hR.2.2.2.2.2.2.2.1
theorem rR8 {sf : Nat → Int32} {X : qm} (hR : RelR sf X) : ∀ s t, s < 4 → t < 8 → sf (70 + 8 * s + t) = nI (X.1 9 (8 * s + t)) := hR.2.2.2.2.2.2.2.2.1
theorem rR9 {sf : Nat → Int32} {X : qm} (hR : RelR sf X) : ∀ s, s < 5 → sf (102 + s) = nI (X.1 10 s) := hR.2.2.2.2.2.2.2.2.2.1
theorem rR10 {sf : Nat → Int32} {X : qm} (hR : RelR sf X) : ∀ s k, s < 5 → k < X.1 10 s → sf (107 + 16 * s + k) = nI (X.1 11 (32 * s + k)) := hR.2.2.2.2.2.2.2.2.2.2.1
theorem rR11 {sf : Nat → Int32} {X : qm} (hR : RelR sf X) : ∀ k, k < X.1 0 4 → sf (195 + k) = nI (X.1 12 k) := hR.2.2.2.2.2.2.2.2.2.2.2
theorem i_dec : ∀ n, n < 61 → (nI n - nI 1).toInt = (n : Int) - 1 := by decide +kernel
theorem i_in_dec {x : Int32} {n : Nat} (hn : n < 61) : decide (¬ x < nI 0 ∧ ¬ nI n - nI 1 < x) = i_in x n := by
  unfold i_in
  refine decide_eq_decide.mpr ?_
  rw [Int32.lt_iff_toInt_lt, Int32.lt_iff_toInt_lt, Int32.lt_iff_toInt_lt, Int32.lt_iff_toInt_lt, i_dec n hn, nI_toInt (show n < 2 ^ 31 by omega), nI_toInt (show 0 < 2 ^ 31 by decide)]
  show _ ↔ ¬ x.toInt < 0 ∧ _
  omega
theorem i_in_3 {x : Int32} : decide (¬ x < nI 0 ∧ ¬ nI 3 < x) = i_in x 4 := i_in_dec (n := 4) (by decide)
theorem i_in_4 {x : Int32} : decide (¬ x < nI 0 ∧ ¬ nI 4 < x) = i_in x 5 := i_in_dec (n := 5) (by decide)
set_option maxRecDepth 20000 in
set_option maxHeartbeats 4000000 in
theorem r_in (h : qB) (x a b : Int32) : CtI mX3_in 0 [qI x, qI a, qI b] (h) (fun r h2 => r = q_b (decide (¬ x < a ∧ ¬ b < x)) ∧ h2 = h) := by
  refine ct_of (by decide +kernel) rfl rfl (Nat.le_of_ble_eq_true rfl) ?_
  show Ev mX3_in 0 0 [some (qI x), some (qI a), some (qI b)] [] 132 (h) 0 0 _ _
  refine e_iload0 dX3_in_0 ?_
  refine e_iload1 dX3_in_1 ?_
  refine e_icmp_lt 14 dX3_in_2 (by decide) (fun q1 => ?_) (fun q1 => ?_)
  · refine e_iconst (z := 0) dX3_in_14 ?_
    refine e_zret dX3_in_15 rfl (by first | rfl | exact q_nar _) ?_
    exact ⟨_, rfl, rfl, by rw [decide_eq_false (fun c => c.1 q1)]; rfl, rfl⟩
  · refine e_iload0 dX3_in_5 ?_
    refine e_iload2 dX3_in_6 ?_
    refine e_icmp_gt 14 dX3_in_7 (by decide) (fun q2 => ?_) (fun q2 => ?_)
    · refine e_iconst (z := 0) dX3_in_14 ?_
      refine e_zret dX3_in_15 rfl (by first | rfl | exact q_nar _) ?_
      exact ⟨_, rfl, rfl, by rw [decide_eq_false (fun c => c.2 q2)]; rfl, rfl⟩
    · refine e_iconst (z := 1) dX3_in_10 ?_
      refine e_goto 15 dX3_in_11 (by decide) ?_
      refine e_zret dX3_in_15 rfl (by first | rfl | exact q_nar _) ?_
      exact ⟨_, rfl, rfl, by rw [decide_eq_true ⟨q1, q2⟩]; rfl, rfl⟩
set_option maxRecDepth 20000 in
set_option maxHeartbeats 4000000 in
theorem r_isStore (h : qB) (x : Int32) : CtI mX3_isStore 1 [qI x] (h) (fun r h2 => r = q_b (i_in x 4) ∧ h2 = h) := by
  refine ct_of (by decide +kernel) rfl rfl (Nat.le_of_ble_eq_true rfl) ?_
  show Ev mX3_isStore 1 0 [some (qI x)] [] 132 (h) 0 0 _ _
  refine e_iload0 dX3_isStore_0 ?_
  refine e_iconst (z := 0) dX3_isStore_1 ?_
  refine e_iconst (z := 3) dX3_isStore_2 ?_
  refine e_sI (M' := mX3_in) fX3_in lkX3_32 (r_in _ _ _ _) rfl rfl dX3_isStore_3 (by decide) (Nat.le_of_ble_eq_true rfl) rfl ?_
  rintro _ _ ⟨rfl, rfl⟩
  rw [i_in_3]
  refine e_zret dX3_isStore_6 rfl (by first | rfl | exact q_nar _) ?_
  exact ⟨_, rfl, rfl, rfl, rfl⟩
set_option maxRecDepth 20000 in
set_option maxHeartbeats 4000000 in
theorem r_isSite (h : qB) (x : Int32) : CtI mX3_isSite 1 [qI x] (h) (fun r h2 => r = q_b (i_in x 5) ∧ h2 = h) := by
  refine ct_of (by decide +kernel) rfl rfl (Nat.le_of_ble_eq_true rfl) ?_
  show Ev mX3_isSite 1 0 [some (qI x)] [] 132 (h) 0 0 _ _
  refine e_iload0 dX3_isSite_0 ?_
  refine e_iconst (z := 0) dX3_isSite_1 ?_
  refine e_iconst (z := 4) dX3_isSite_2 ?_
  refine e_sI (M' := mX3_in) fX3_in lkX3_32 (r_in _ _ _ _) rfl rfl dX3_isSite_3 (by decide) (Nat.le_of_ble_eq_true rfl) rfl ?_
  rintro _ _ ⟨rfl, rfl⟩
  rw [i_in_4]
  refine e_zret dX3_isSite_6 rfl (by first | rfl | exact q_nar _) ?_
  exact ⟨_, rfl, rfl, rfl, rfl⟩
set_option maxRecDepth 20000 in
set_option maxHeartbeats 4000000 in
theorem r_isTransfer (h : qB) (th : Int32) (sf asd sts snp txt rdd : Nat → Int32) (cnt hq len pt iw rm : Int32) (X : qm) (hR : RelR sf X) (hn : X.1 0 0 < 61) (x : Int32) : CtI mX3_isTransfer 1 [qR 11 0, qI x] (q_put h 11 (oR th sf asd sts snp txt rdd cnt hq len pt iw rm)) (fun r h2 => r = q_b (i_in x (X.1 0 0)) ∧ h2 = q_put h 11 (oR th sf asd sts snp txt rdd cnt hq len pt iw rm)) := by
  refine ct_of (by decide +kernel) rfl rfl (Nat.le_of_ble_eq_true rfl) ?_
  show Ev mX3_isTransfer 1 0 [some (qR 11 0), some (qI x)] [] 132 (q_put h 11 (oR th sf asd sts snp txt rdd cnt hq len pt iw rm)) 0 0 _ _
  refine e_iload1 dX3_isTransfer_0 ?_
  refine e_iconst (z := 0) dX3_isTransfer_1 ?_
  refine e_aload0 dX3_isTransfer_2 ?_
  refine e_getfieldF flX3_7 dX3_isTransfer_3 rfl rfl ?_
  refine e_bipush (v := nI 9) dX3_isTransfer_6 (by decide) ?_
  refine e_ialoadN dX3_isTransfer_8 rfl (by omega) (by decide) ?_
  rw [rR2 hR]
  refine e_iconst (z := 1) dX3_isTransfer_9 ?_
  refine e_isub dX3_isTransfer_10 ?_
  refine e_sI (M' := mX3_in) fX3_in lkX3_32 (r_in _ _ _ _) rfl rfl dX3_isTransfer_11 (by decide) (Nat.le_of_ble_eq_true rfl) rfl ?_
  rintro _ _ ⟨rfl, rfl⟩
  rw [i_in_dec hn]
  refine e_zret dX3_isTransfer_14 rfl (by first | rfl | exact q_nar _) ?_
  exact ⟨_, rfl, rfl, rfl, rfl⟩
set_option maxRecDepth 20000 in
set_option maxHeartbeats 4000000 in
theorem r_isMessage (h : qB) (th : Int32) (sf asd sts snp txt rdd : Nat → Int32) (cnt hq len pt iw rm : Int32) (X : qm) (hR : RelR sf X) (hn : X.1 0 4 < 61) (x : Int32) : CtI mX3_isMessage 1 [qR 11 0, qI x] (q_put h 11 (oR th sf asd sts snp txt rdd cnt hq len pt iw rm)) (fun r h2 => r = q_b (i_in x (X.1 0 4)) ∧ h2 = q_put h 11 (oR th sf asd sts snp txt rdd cnt hq len pt iw rm)) := by
  refine ct_of (by decide +kernel) rfl rfl (Nat.le_of_ble_eq_true rfl) ?_
  show Ev mX3_isMessage 1 0 [some (qR 11 0), some (qI x)] [] 132 (q_put h 11 (oR th sf asd sts snp txt rdd cnt hq len pt iw rm)) 0 0 _ _
  refine e_iload1 dX3_isMessage_0 ?_
  refine e_iconst (z := 0) dX3_isMessage_1 ?_
  refine e_aload0 dX3_isMessage_2 ?_
  refine e_getfieldF flX3_7 dX3_isMessage_3 rfl rfl ?_
  refine e_bipush (v := nI 13) dX3_isMessage_6 (by decide) ?_
  refine e_ialoadN dX3_isMessage_8 rfl (by omega) (by decide) ?_
  rw [rR6 hR]
  refine e_iconst (z := 1) dX3_isMessage_9 ?_
  refine e_isub dX3_isMessage_10 ?_
  refine e_sI (M' := mX3_in) fX3_in lkX3_32 (r_in _ _ _ _) rfl rfl dX3_isMessage_11 (by decide) (Nat.le_of_ble_eq_true rfl) rfl ?_
  rintro _ _ ⟨rfl, rfl⟩
  rw [i_in_dec hn]
  refine e_zret dX3_isMessage_14 rfl (by first | rfl | exact q_nar _) ?_
  exact ⟨_, rfl, rfl, rfl, rfl⟩
set_option maxRecDepth 20000 in
set_option maxHeartbeats 4000000 in
theorem r_of (h : qB) (th : Int32) (sf asd sts snp txt rdd : Nat → Int32) (cnt hq len pt iw rm : Int32) (X : qm) (hR : RelR sf X) {t j : Nat} (ht : t < 8) (hj : j < 7) : CtI mX3_of 0 [qR 11 0, qI (nI t), qI (nI j)] (q_put h 11 (oR th sf asd sts snp txt rdd cnt hq len pt iw rm)) (fun r h2 => r = nI (X.1 (j + 2) t) ∧ h2 = q_put h 11 (oR th sf asd sts snp txt rdd cnt hq len pt iw rm)) := by
  refine ct_of (by decide +kernel) rfl rfl (Nat.le_of_ble_eq_true rfl) ?_
  show Ev mX3_of 0 0 [some (qR 11 0), some (qI (nI t)), some (qI (nI j))] [] 132 (q_put h 11 (oR th sf asd sts snp txt rdd cnt hq len pt iw rm)) 0 0 _ _
  refine e_aload0 dX3_of_0 ?_
  refine e_getfieldF flX3_7 dX3_of_1 rfl rfl ?_
  refine e_bipush (v := nI 14) dX3_of_4 (by decide) ?_
  refine e_bipush (v := nI 7) dX3_of_6 (by decide) ?_
  refine e_iload1 dX3_of_8 ?_
  first | refine e_imulN dX3_of_9 ?_ | refine e_imul dX3_of_9 ?_
  first | refine e_iaddN dX3_of_10 ?_ | refine e_iadd dX3_of_10 ?_
  refine e_iload2 dX3_of_11 ?_
  first | refine e_iaddN dX3_of_12 ?_ | refine e_iadd dX3_of_12 ?_
  refine e_ialoadN dX3_of_13 rfl (by omega) (by decide) ?_
  refine e_iret dX3_of_14 rfl ?_
  exact ⟨_, rfl, rfl, rR7 hR t j ht hj, rfl⟩
set_option maxRecDepth 20000 in
set_option maxHeartbeats 4000000 in
theorem r_lay (h : qB) (th : Int32) (sf asd sts snp txt rdd : Nat → Int32) (cnt hq len pt iw rm : Int32) {t j : Nat} {v : Int32} (ht : t < 8) (hj : j < 7) : CtV mX3_lay 0 [qR 11 0, qI (nI t), qI (nI j), qI v] (q_put h 11 (oR th sf asd sts snp txt rdd cnt hq len pt iw rm)) (fun h2 => h2 = q_put h 11 (oR th (upd sf (14 + 7 * t + j) v) asd sts snp txt rdd cnt hq len pt iw rm)) := by
  refine ct_of (by decide +kernel) rfl rfl (Nat.le_of_ble_eq_true rfl) ?_
  show Ev mX3_lay 0 0 [some (qR 11 0), some (qI (nI t)), some (qI (nI j)), some (qI v)] [] 132 (q_put h 11 (oR th sf asd sts snp txt rdd cnt hq len pt iw rm)) 0 0 _ _
  refine e_aload0 dX3_lay_0 ?_
  refine e_getfieldF flX3_7 dX3_lay_1 rfl rfl ?_
  refine e_bipush (v := nI 14) dX3_lay_4 (by decide) ?_
  refine e_bipush (v := nI 7) dX3_lay_6 (by decide) ?_
  refine e_iload1 dX3_lay_8 ?_
  first | refine e_imulN dX3_lay_9 ?_ | refine e_imul dX3_lay_9 ?_
  first | refine e_iaddN dX3_lay_10 ?_ | refine e_iadd dX3_lay_10 ?_
  refine e_iload2 dX3_lay_11 ?_
  first | refine e_iaddN dX3_lay_12 ?_ | refine e_iadd dX3_lay_12 ?_
  refine e_iload3 dX3_lay_13 ?_
  refine e_iastoreN dX3_lay_14 rfl (by omega) (by decide) ?_
  refine e_vret dX3_lay_15 rfl ?_
  exact ⟨rfl, rfl, rfl⟩
set_option maxRecDepth 20000 in
set_option maxHeartbeats 4000000 in
theorem r_stateIn (h : qB) (th : Int32) (sf asd sts snp txt rdd : Nat → Int32) (cnt hq len pt iw rm : Int32) (X : qm) (hR : RelR sf X) {s t : Nat} (hs : s < 4) (ht : t < 8) : CtI mX3_stateIn 0 [qR 11 0, qI (nI s), qI (nI t)] (q_put h 11 (oR th sf asd sts snp txt rdd cnt hq len pt iw rm)) (fun r h2 => r = nI (X.1 9 (8 * s + t)) ∧ h2 = q_put h 11 (oR th sf asd sts snp txt rdd cnt hq len pt iw rm)) := by
  refine ct_of (by decide +kernel) rfl rfl (Nat.le_of_ble_eq_true rfl) ?_
  show Ev mX3_stateIn 0 0 [some (qR 11 0), some (qI (nI s)), some (qI (nI t))] [] 132 (q_put h 11 (oR th sf asd sts snp txt rdd cnt hq len pt iw rm)) 0 0 _ _
  refine e_aload0 dX3_stateIn_0 ?_
  refine e_getfieldF flX3_7 dX3_stateIn_1 rfl rfl ?_
  refine e_bipush (v := nI 70) dX3_stateIn_4 (by decide) ?_
  refine e_bipush (v := nI 8) dX3_stateIn_6 (by decide) ?_
  refine e_iload1 dX3_stateIn_8 ?_
  first | refine e_imulN dX3_stateIn_9 ?_ | refine e_imul dX3_stateIn_9 ?_
  first | refine e_iaddN dX3_stateIn_10 ?_ | refine e_iadd dX3_stateIn_10 ?_
  refine e_iload2 dX3_stateIn_11 ?_
  first | refine e_iaddN dX3_stateIn_12 ?_ | refine e_iadd dX3_stateIn_12 ?_
  refine e_ialoadN dX3_stateIn_13 rfl (by omega) (by decide) ?_
  refine e_iret dX3_stateIn_14 rfl ?_
  exact ⟨_, rfl, rfl, rR8 hR s t hs ht, rfl⟩
set_option maxRecDepth 20000 in
set_option maxHeartbeats 4000000 in
theorem r_fails (h : qB) (th : Int32) (sf asd sts snp txt rdd : Nat → Int32) (cnt hq len pt iw rm : Int32) {x : Int32} : CtI mX3_fails 0 [qR 11 0, qI x] (q_put h 11 (oR th sf asd sts snp txt rdd cnt hq len pt iw rm)) (fun r h2 => r = nI 0 ∧ h2 = q_put h 11 (oR x sf asd sts snp txt rdd cnt hq len pt iw rm)) := by
  refine ct_of (by decide +kernel) rfl rfl (Nat.le_of_ble_eq_true rfl) ?_
  show Ev mX3_fails 0 0 [some (qR 11 0), some (qI x)] [] 132 (q_put h 11 (oR th sf asd sts snp txt rdd cnt hq len pt iw rm)) 0 0 _ _
  refine e_aload0 dX3_fails_0 ?_
  refine e_iload1 dX3_fails_1 ?_
  refine e_putfieldF flX3_28 dX3_fails_2 rfl (Nat.le_of_ble_eq_true rfl) (fun _ => rfl) (fun _ => rfl) ?_
  refine e_iconst (z := 0) dX3_fails_5 ?_
  refine e_iret dX3_fails_6 rfl ?_
  exact ⟨_, rfl, rfl, rfl, rfl⟩
set_option maxRecDepth 20000 in
set_option maxHeartbeats 4000000 in
theorem r_thrown (h : qB) (th : Int32) (sf asd sts snp txt rdd : Nat → Int32) (cnt hq len pt iw rm : Int32) : CtI mX3_thrown 0 [qR 11 0] (q_put h 11 (oR th sf asd sts snp txt rdd cnt hq len pt iw rm)) (fun r h2 => r = th ∧ h2 = q_put h 11 (oR th sf asd sts snp txt rdd cnt hq len pt iw rm)) := by
  refine ct_of (by decide +kernel) rfl rfl (Nat.le_of_ble_eq_true rfl) ?_
  show Ev mX3_thrown 0 0 [some (qR 11 0)] [] 132 (q_put h 11 (oR th sf asd sts snp txt rdd cnt hq len pt iw rm)) 0 0 _ _
  refine e_aload0 dX3_thrown_0 ?_
  refine e_getfieldF flX3_28 dX3_thrown_1 rfl rfl ?_
  refine e_iret dX3_thrown_4 rfl ?_
  exact ⟨_, rfl, rfl, rfl, rfl⟩
set_option maxRecDepth 20000 in
set_option maxHeartbeats 4000000 in
theorem r_goesToStore (h : qB) {k : Nat} (hm : k < 7) : CtI mX3_goesToStore 0 [qI (nI k)] (h) (fun r h2 => r = q_b (decide (k = 0 ∨ k = 3 ∨ k = 4)) ∧ h2 = h) := by
  refine ct_of (by decide +kernel) rfl rfl (Nat.le_of_ble_eq_true rfl) ?_
  show Ev mX3_goesToStore 0 0 [some (qI (nI k))] [] 132 (h) 0 0 _ _
  refine e_iload0 dX3_goesToStore_0 ?_
  first | refine e_if_eqN 14 dX3_goesToStore_1 (by decide) (by omega) (fun hc1 => ?_) (fun hc1 => ?_) | refine e_if_eq 14 dX3_goesToStore_1 (by decide) (fun hc1 => ?_) (fun hc1 => ?_)
  · refine e_iconst (z := 1) dX3_goesToStore_14 ?_
    refine e_goto 19 dX3_goesToStore_15 (by decide) ?_
    refine e_zret dX3_goesToStore_19 rfl (by first | rfl | exact q_nar _) ?_
    first
      | exact ⟨_, rfl, rfl, by rw [decide_eq_true (by omega)]; rfl, rfl⟩
      | exact ⟨_, rfl, rfl, by rw [decide_eq_false (by omega)]; rfl, rfl⟩
  · refine e_iload0 dX3_goesToStore_4 ?_
    refine e_iconst (z := 3) dX3_goesToStore_5 ?_
    first | refine e_icmp_eqN 14 dX3_goesToStore_6 (by decide) (by omega) (by omega) (fun hc6 => ?_) (fun hc6 => ?_) | refine e_icmp_eq 14 dX3_goesToStore_6 (by decide) (fun hc6 => ?_) (fun hc6 => ?_)
    · refine e_iconst (z := 1) dX3_goesToStore_14 ?_
      refine e_goto 19 dX3_goesToStore_15 (by decide) ?_
      refine e_zret dX3_goesToStore_19 rfl (by first | rfl | exact q_nar _) ?_
      first
        | exact ⟨_, rfl, rfl, by rw [decide_eq_true (by omega)]; rfl, rfl⟩
        | exact ⟨_, rfl, rfl, by rw [decide_eq_false (by omega)]; rfl, rfl⟩
    · refine e_iload0 dX3_goesToStore_9 ?_
      refine e_iconst (z := 4) dX3_goesToStore_10 ?_
      first | refine e_icmp_neN 18 dX3_goesToStore_11 (by decide) (by omega) (by omega) (fun hc11 => ?_) (fun hc11 => ?_) | refine e_icmp_ne 18 dX3_goesToStore_11 (by decide) (fun hc11 => ?_) (fun hc11 => ?_)
      · refine e_iconst (z := 0) dX3_goesToStore_18 ?_
        refine e_zret dX3_goesToStore_19 rfl (by first | rfl | exact q_nar _) ?_
        first
          | exact ⟨_, rfl, rfl, by rw [decide_eq_true (by omega)]; rfl, rfl⟩
          | exact ⟨_, rfl, rfl, by rw [decide_eq_false (by omega)]; rfl, rfl⟩
      · refine e_iconst (z := 1) dX3_goesToStore_14 ?_
        refine e_goto 19 dX3_goesToStore_15 (by decide) ?_
        refine e_zret dX3_goesToStore_19 rfl (by first | rfl | exact q_nar _) ?_
        first
          | exact ⟨_, rfl, rfl, by rw [decide_eq_true (by omega)]; rfl, rfl⟩
          | exact ⟨_, rfl, rfl, by rw [decide_eq_false (by omega)]; rfl, rfl⟩
theorem b_bits : ∀ m, m < 16 → nI (m_bits m) = nI (m % 2) + nI (m / 2 % 2) + nI (m / 4 % 2) + nI (m / 8 % 2) := by decide +kernel
def m_bitsN (m : Nat) : Nat → Nat
  | 0 => 0
  | n + 1 => m_bitsN m n + m / 2 ^ n % 2
theorem m_bitsN_4 (m : Nat) : m_bitsN m 4 = m_bits m := by simp [m_bitsN, m_bits]
set_option maxRecDepth 20000 in
set_option maxHeartbeats 4000000 in
theorem r_bits (h : qB) {mk : Nat} (hmk : mk < 16) : CtI mX3_bits 0 [qI (nI mk)] (h) (fun r h2 => r = nI (m_bits mk) ∧ h2 = h) := by
  refine ct_of (by decide +kernel) rfl rfl (Nat.le_of_ble_eq_true rfl) ?_
  show Ev mX3_bits 0 0 [some (qI (nI mk)), none, none] [] 132 (h) 0 0 _ _
  refine e_iconst (z := 0) dX3_bits_0 ?_
  refine e_istore1 dX3_bits_1 rfl (by decide) ?_
  refine e_iconst (z := 0) dX3_bits_2 ?_
  refine e_istore2 dX3_bits_3 rfl (by decide) ?_
  have H : ∀ (m i : Nat) (v : Nat), i ≤ 4 → m = 4 - i → v = m_bitsN mk i → Ev mX3_bits 0 4 [some (qI (nI mk)), some (qI (nI v)), some (qI (nI i))] [] 132 (h) 0 0 (fun r n h' => ∃ x, r = some (qI x) ∧ n = 132 ∧ ((fun r h2 => r = nI (m_bits mk) ∧ h2 = h)) x h') qNo := by
    intro m
    induction m using Nat.strongRecOn with
    | _ m ih =>
    intro i v hi hm0 hv
    refine e_iload2 dX3_bits_4 ?_
    refine e_iconst (z := 4) dX3_bits_5 ?_
    first | refine e_icmp_geN 23 dX3_bits_6 (by decide) (by omega) (by omega) (fun hc6 => ?_) (fun hc6 => ?_) | refine e_icmp_ge 23 dX3_bits_6 (by decide) (fun hc6 => ?_) (fun hc6 => ?_)
    · refine e_iload1 dX3_bits_23 ?_
      refine e_iret dX3_bits_24 rfl ?_
      obtain rfl : i = 4 := by omega
      exact ⟨_, rfl, rfl, by rw [hv, m_bitsN_4], rfl⟩
    · refine e_iload1 dX3_bits_9 ?_
      refine e_iload0 dX3_bits_10 ?_
      refine e_iload2 dX3_bits_11 ?_
      refine e_ishr dX3_bits_12 ?_
      refine e_iconst (z := 1) dX3_bits_13 ?_
      refine e_iand dX3_bits_14 ?_
      rw [b_msk _ hmk _ (by omega)]
      first | refine e_iaddN dX3_bits_15 ?_ | refine e_iadd dX3_bits_15 ?_
      refine e_istore1 dX3_bits_16 rfl (by decide) ?_
      first | refine e_iinc2N (z := 1) dX3_bits_17 rfl (by decide) ?_ | refine e_iinc2 dX3_bits_17 rfl rfl (by decide) ?_
      refine e_goto 4 dX3_bits_20 (by decide) ?_
      exact ih _ (by omega) (i + 1) _ (by omega) rfl (by rw [m_bitsN, hv])
  exact H _ 0 _ (Nat.zero_le _) rfl rfl
set_option maxRecDepth 20000 in
set_option maxHeartbeats 4000000 in
theorem r_shareOf (h : qB) {f to sz s : Nat} (hf : f < 4) (hto : to < 16) (hs : s < 4) : CtI mX3_shareOf 1 [qI (nI f), qI (nI to), qI (nI sz), qI (nI s)] (h) (fun r h2 => r = m_sh f to sz s ∧ h2 = h) := by
  refine ct_of (by decide +kernel) rfl rfl (Nat.le_of_ble_eq_true rfl) ?_
  show Ev mX3_shareOf 1 0 [some (qI (nI f)), some (qI (nI to)), some (qI (nI sz)), some (qI (nI s)), none] [] 132 (h) 0 0 _ _
  refine e_iload1 dX3_shareOf_0 ?_
  refine e_iload3 dX3_shareOf_1 ?_
  refine e_ishr dX3_shareOf_2 ?_
  refine e_iconst (z := 1) dX3_shareOf_3 ?_
  refine e_iand dX3_shareOf_4 ?_
  rw [b_msk _ hto _ hs]
  refine e_iconst (z := 1) dX3_shareOf_5 ?_
  first | refine e_icmp_neN 13 dX3_shareOf_6 (by decide) (by omega) (by omega) (fun hc6 => ?_) (fun hc6 => ?_) | refine e_icmp_ne 13 dX3_shareOf_6 (by decide) (fun hc6 => ?_) (fun hc6 => ?_)
  · refine e_iconst (z := 0) dX3_shareOf_13 ?_
    refine e_istore4 dX3_shareOf_14 rfl (by decide) ?_
    refine e_iload3 dX3_shareOf_16 ?_
    refine e_iload0 dX3_shareOf_17 ?_
    first | refine e_icmp_neN 31 dX3_shareOf_18 (by decide) (by omega) (by omega) (fun hc18 => ?_) (fun hc18 => ?_) | refine e_icmp_ne 31 dX3_shareOf_18 (by decide) (fun hc18 => ?_) (fun hc18 => ?_)
    · refine e_iload4 dX3_shareOf_31 ?_
      refine e_iret dX3_shareOf_33 rfl ?_
      first
        | exact ⟨_, rfl, rfl, by rw [m_sh, if_pos (by omega)], rfl⟩
        | exact ⟨_, rfl, rfl, by rw [m_sh, if_neg (by omega), if_pos (by omega)], rfl⟩
        | exact ⟨_, rfl, rfl, by rw [m_sh, if_neg (by omega), if_neg (by omega)], rfl⟩
    · refine e_iload2 dX3_shareOf_21 ?_
      refine e_ineg dX3_shareOf_22 ?_
      refine e_iload1 dX3_shareOf_23 ?_
      refine e_sI (M' := mX3_bits) fX3_bits lkX3_43 (r_bits _ hto) rfl rfl dX3_shareOf_24 (by decide) (Nat.le_of_ble_eq_true rfl) rfl ?_
      rintro _ _ ⟨rfl, rfl⟩
      refine e_imul dX3_shareOf_27 ?_
      refine e_goto 33 dX3_shareOf_28 (by decide) ?_
      refine e_iret dX3_shareOf_33 rfl ?_
      first
        | exact ⟨_, rfl, rfl, by rw [m_sh, if_pos (by omega)], rfl⟩
        | exact ⟨_, rfl, rfl, by rw [m_sh, if_neg (by omega), if_pos (by omega)], rfl⟩
        | exact ⟨_, rfl, rfl, by rw [m_sh, if_neg (by omega), if_neg (by omega)], rfl⟩
  · refine e_iload2 dX3_shareOf_9 ?_
    refine e_goto 14 dX3_shareOf_10 (by decide) ?_
    refine e_istore4 dX3_shareOf_14 rfl (by decide) ?_
    refine e_iload3 dX3_shareOf_16 ?_
    refine e_iload0 dX3_shareOf_17 ?_
    first | refine e_icmp_neN 31 dX3_shareOf_18 (by decide) (by omega) (by omega) (fun hc18 => ?_) (fun hc18 => ?_) | refine e_icmp_ne 31 dX3_shareOf_18 (by decide) (fun hc18 => ?_) (fun hc18 => ?_)
    · refine e_iload4 dX3_shareOf_31 ?_
      refine e_iret dX3_shareOf_33 rfl ?_
      first
        | exact ⟨_, rfl, rfl, by rw [m_sh, if_pos (by omega)], rfl⟩
        | exact ⟨_, rfl, rfl, by rw [m_sh, if_neg (by omega), if_pos (by omega)], rfl⟩
        | exact ⟨_, rfl, rfl, by rw [m_sh, if_neg (by omega), if_neg (by omega)], rfl⟩
    · refine e_iload2 dX3_shareOf_21 ?_
      refine e_ineg dX3_shareOf_22 ?_
      refine e_iload1 dX3_shareOf_23 ?_
      refine e_sI (M' := mX3_bits) fX3_bits lkX3_43 (r_bits _ hto) rfl rfl dX3_shareOf_24 (by decide) (Nat.le_of_ble_eq_true rfl) rfl ?_
      rintro _ _ ⟨rfl, rfl⟩
      refine e_imul dX3_shareOf_27 ?_
      refine e_goto 33 dX3_shareOf_28 (by decide) ?_
      refine e_iret dX3_shareOf_33 rfl ?_
      first
        | exact ⟨_, rfl, rfl, by rw [m_sh, if_pos (by omega)], rfl⟩
        | exact ⟨_, rfl, rfl, by rw [m_sh, if_neg (by omega), if_pos (by omega)], rfl⟩
        | exact ⟨_, rfl, rfl, by rw [m_sh, if_neg (by omega), if_neg (by omega)], rfl⟩
set_option maxRecDepth 20000 in
set_option maxHeartbeats 4000000 in
theorem r_shareIn (h : qB) (th : Int32) (sf asd sts snp txt rdd : Nat → Int32) (cnt hq len pt iw rm : Int32) (X : qm) (hR : RelR sf X) {t s : Nat} (h2 : X.1 2 t < 4) (h3 : X.1 3 t < 16) (ht : t < 8) (hs : s < 4) : CtI mX3_shareIn 2 [qR 11 0, qI (nI t), qI (nI s)] (q_put h 11 (oR th sf asd sts snp txt rdd cnt hq len pt iw rm)) (fun r h2 => r = m_share X t s ∧ h2 = q_put h 11 (oR th sf asd sts snp txt rdd cnt hq len pt iw rm)) := by
  refine ct_of (by decide +kernel) rfl rfl (Nat.le_of_ble_eq_true rfl) ?_
  show Ev mX3_shareIn 2 0 [some (qR 11 0), some (qI (nI t)), some (qI (nI s))] [] 132 (q_put h 11 (oR th sf asd sts snp txt rdd cnt hq len pt iw rm)) 0 0 _ _
  refine e_aload0 dX3_shareIn_0 ?_
  refine e_iload1 dX3_shareIn_1 ?_
  refine e_iconst (z := 0) dX3_shareIn_2 ?_
  refine e_vIF (M' := mX3_of) fX3_of lkX3_39 (r_of h th sf asd sts snp txt rdd cnt hq len pt iw rm X hR (t := t) (j := 0) ht (by decide)) rfl rfl dX3_shareIn_3 rfl rfl (by decide) (Nat.le_of_ble_eq_true rfl) rfl ?_
  rintro _ _ ⟨rfl, rfl⟩
  refine e_aload0 dX3_shareIn_6 ?_
  refine e_iload1 dX3_shareIn_7 ?_
  refine e_iconst (z := 1) dX3_shareIn_8 ?_
  refine e_vIF (M' := mX3_of) fX3_of lkX3_39 (r_of h th sf asd sts snp txt rdd cnt hq len pt iw rm X hR (t := t) (j := 1) ht (by decide)) rfl rfl dX3_shareIn_9 rfl rfl (by decide) (Nat.le_of_ble_eq_true rfl) rfl ?_
  rintro _ _ ⟨rfl, rfl⟩
  refine e_aload0 dX3_shareIn_12 ?_
  refine e_iload1 dX3_shareIn_13 ?_
  refine e_iconst (z := 2) dX3_shareIn_14 ?_
  refine e_vIF (M' := mX3_of) fX3_of lkX3_39 (r_of h th sf asd sts snp txt rdd cnt hq len pt iw rm X hR (t := t) (j := 2) ht (by decide)) rfl rfl dX3_shareIn_15 rfl rfl (by decide) (Nat.le_of_ble_eq_true rfl) rfl ?_
  rintro _ _ ⟨rfl, rfl⟩
  refine e_iload2 dX3_shareIn_18 ?_
  refine e_sI (M' := mX3_shareOf) fX3_shareOf lkX3_47 (r_shareOf _ (f := X.1 2 t) (to := X.1 3 t) (sz := X.1 4 t) (s := s) h2 h3 hs) rfl rfl dX3_shareIn_19 (by decide) (Nat.le_of_ble_eq_true rfl) rfl ?_
  rintro _ _ ⟨rfl, rfl⟩
  refine e_iret dX3_shareIn_22 rfl ?_
  exact ⟨_, rfl, rfl, rfl, rfl⟩
set_option maxRecDepth 20000 in
set_option maxHeartbeats 4000000 in
theorem r_all (h : qB) (th : Int32) (sf asd sts snp txt rdd : Nat → Int32) (cnt hq len pt iw rm : Int32) (X : qm) (hR : RelR sf X) {t : Nat} (h2 : X.1 2 t < 4) (h3 : X.1 3 t < 16) (ht : t < 8) : CtI mX3_all 1 [qR 11 0, qI (nI t)] (q_put h 11 (oR th sf asd sts snp txt rdd cnt hq len pt iw rm)) (fun r h2 => r = nI (m_part X t) ∧ h2 = q_put h 11 (oR th sf asd sts snp txt rdd cnt hq len pt iw rm)) := by
  refine ct_of (by decide +kernel) rfl rfl (Nat.le_of_ble_eq_true rfl) ?_
  show Ev mX3_all 1 0 [some (qR 11 0), some (qI (nI t))] [] 132 (q_put h 11 (oR th sf asd sts snp txt rdd cnt hq len pt iw rm)) 0 0 _ _
  refine e_aload0 dX3_all_0 ?_
  refine e_iload1 dX3_all_1 ?_
  refine e_iconst (z := 1) dX3_all_2 ?_
  refine e_vIF (M' := mX3_of) fX3_of lkX3_39 (r_of h th sf asd sts snp txt rdd cnt hq len pt iw rm X hR (t := t) (j := 1) ht (by decide)) rfl rfl dX3_all_3 rfl rfl (by decide) (Nat.le_of_ble_eq_true rfl) rfl ?_
  rintro _ _ ⟨rfl, rfl⟩
  refine e_iconst (z := 1) dX3_all_6 ?_
  refine e_aload0 dX3_all_7 ?_
  refine e_iload1 dX3_all_8 ?_
  refine e_iconst (z := 0) dX3_all_9 ?_
  refine e_vIF (M' := mX3_of) fX3_of lkX3_39 (r_of h th sf asd sts snp txt rdd cnt hq len pt iw rm X hR (t := t) (j := 0) ht (by decide)) rfl rfl dX3_all_10 rfl rfl (by decide) (Nat.le_of_ble_eq_true rfl) rfl ?_
  rintro _ _ ⟨rfl, rfl⟩
  refine e_ishl dX3_all_13 ?_
  refine e_ior dX3_all_14 ?_
  refine e_iret dX3_all_15 rfl ?_
  exact ⟨_, rfl, rfl, by rw [b_or _ h3 _ h2]; rfl, rfl⟩
