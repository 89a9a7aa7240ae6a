/-! WHAT STORES AND CLERK DO, in the class -/
set_option maxRecDepth 20000 in
set_option maxHeartbeats 4000000 in
theorem w_orderFor (h : qB) (b : Fin 16) (w : qw) (X : qm) (hR : RelC w X) {t : Nat} (ht : t < 8) (h1 : X.1 7 t = 1 ∨ X.1 7 t = 2) : CtI mX1_orderFor 0 [qR b 0, qI (nI t)] (q_put h b (wblk b w)) (fun r h2 => r = nI (2 + X.1 7 t) ∧ h2 = q_put h b (wblk b w)) := by
  refine ct_of (by decide +kernel) rfl rfl (Nat.le_of_ble_eq_true rfl) ?_
  show Ev mX1_orderFor 0 0 [some (qR b 0), some (qI (nI t))] [] 132 (q_put h b (wblk b w)) 0 0 _ _
  refine e_aload0 dX1_orderFor_0 ?_
  refine e_getfieldF flX1_21 dX1_orderFor_1 rfl rfl ?_
  refine e_iload1 dX1_orderFor_4 ?_
  refine e_ialoadN dX1_orderFor_5 rfl (by omega) (by decide) ?_
  rw [rC4 hR _ ht]
  refine e_iconst (z := 1) dX1_orderFor_6 ?_
  first | refine e_icmp_neN 14 dX1_orderFor_7 (by decide) (by omega) (by omega) (fun hc7 => ?_) (fun hc7 => ?_) | refine e_icmp_ne 14 dX1_orderFor_7 (by decide) (fun hc7 => ?_) (fun hc7 => ?_)
  · refine e_iconst (z := 4) dX1_orderFor_14 ?_
    refine e_iret dX1_orderFor_15 rfl ?_
    exact ⟨_, rfl, rfl, by congr 1; omega, rfl⟩
  · refine e_iconst (z := 3) dX1_orderFor_10 ?_
    refine e_goto 15 dX1_orderFor_11 (by decide) ?_
    refine e_iret dX1_orderFor_15 rfl ?_
    exact ⟨_, rfl, rfl, by congr 1; omega, rfl⟩
/-- the clerk decides -/
def m_decide (X : qm) (t oc : Nat) : qm := m_sendN (m_write (xs X 7 t oc) 4 oc t) (2 + oc) t (m_part X t) 4
theorem relC_out {w : qw} {X : qm} (hR : RelC w X) {t v : Nat} : RelC (wt w 4 (upd (w 4) t (nI v))) (xs X 7 t v) := by
  exact ⟨by simpa [wt, xs, xa, m_part, m_share, m_mask5, m_mask8] using rC0 hR, by simpa [wt, xs, xa, m_part, m_share, m_mask5, m_mask8] using rC1 hR, by simpa [wt, xs, xa, m_part, m_share, m_mask5, m_mask8] using rC2 hR, by simpa [wt, xs, xa, m_part, m_share, m_mask5, m_mask8] using rC3 hR, fun t2 ht2 => by
      have h3 := rC4 hR t2 ht2
      by_cases h1 : t2 = t
      · subst h1; simp [wt, xs, upd]
      · simp [wt, xs, upd, h1, h3], by simpa [wt, xs, xa, m_part, m_share, m_mask5, m_mask8] using rC5 hR, by simpa [wt, xs, xa, m_part, m_share, m_mask5, m_mask8] using rC6 hR, by simpa [wt, xs, xa, m_part, m_share, m_mask5, m_mask8] using rC7 hR, by simpa [wt, xs, xa, m_part, m_share, m_mask5, m_mask8] using rC8 hR, by simpa [wt, xs, xa, m_part, m_share, m_mask5, m_mask8] using rC9 hR, by simpa [wt, xs, xa, m_part, m_share, m_mask5, m_mask8] using rC10 hR, by simpa [wt, xs, xa, m_part, m_share, m_mask5, m_mask8] using rC11 hR, by simpa [wt, xs, xa, m_part, m_share, m_mask5, m_mask8] using rC12 hR, by simpa [wt, xs, xa, m_part, m_share, m_mask5, m_mask8] using rC13 hR, by simpa [wt, xs, xa, m_part, m_share, m_mask5, m_mask8] using rC14 hR, by simpa [wt, xs, xa, m_part, m_share, m_mask5, m_mask8] using rC15 hR, by simpa [wt, xs, xa, m_part, m_share, m_mask5, m_mask8] using rC16 hR, by simpa [wt, xs, xa, m_part, m_share, m_mask5, m_mask8] using rC17 hR⟩
theorem relC_yes {w : qw} {X : qm} (hR : RelC w X) {t v : Nat} : RelC (wt w 5 (upd (w 5) t (nI v))) (xs X 5 t v) := by
  exact ⟨by simpa [wt, xs, xa, m_part, m_share, m_mask5, m_mask8] using rC0 hR, by simpa [wt, xs, xa, m_part, m_share, m_mask5, m_mask8] using rC1 hR, by simpa [wt, xs, xa, m_part, m_share, m_mask5, m_mask8] using rC2 hR, by simpa [wt, xs, xa, m_part, m_share, m_mask5, m_mask8] using rC3 hR, by simpa [wt, xs, xa, m_part, m_share, m_mask5, m_mask8] using rC4 hR, fun t2 ht2 => by
      have h3 := rC5 hR t2 ht2
      by_cases h1 : t2 = t
      · subst h1; simp [wt, xs, upd]
      · simp [wt, xs, upd, h1, h3], by simpa [wt, xs, xa, m_part, m_share, m_mask5, m_mask8] using rC6 hR, by simpa [wt, xs, xa, m_part, m_share, m_mask5, m_mask8] using rC7 hR, by simpa [wt, xs, xa, m_part, m_share, m_mask5, m_mask8] using rC8 hR, by simpa [wt, xs, xa, m_part, m_share, m_mask5, m_mask8] using rC9 hR, by simpa [wt, xs, xa, m_part, m_share, m_mask5, m_mask8] using rC10 hR, by simpa [wt, xs, xa, m_part, m_share, m_mask5, m_mask8] using rC11 hR, by simpa [wt, xs, xa, m_part, m_share, m_mask5, m_mask8] using rC12 hR, by simpa [wt, xs, xa, m_part, m_share, m_mask5, m_mask8] using rC13 hR, by simpa [wt, xs, xa, m_part, m_share, m_mask5, m_mask8] using rC14 hR, by simpa [wt, xs, xa, m_part, m_share, m_mask5, m_mask8] using rC15 hR, by simpa [wt, xs, xa, m_part, m_share, m_mask5, m_mask8] using rC16 hR, by simpa [wt, xs, xa, m_part, m_share, m_mask5, m_mask8] using rC17 hR⟩
theorem relC_done {w : qw} {X : qm} (hR : RelC w X) {t v : Nat} : RelC (wt w 6 (upd (w 6) t (nI v))) (xs X 6 t v) := by
  exact ⟨by simpa [wt, xs, xa, m_part, m_share, m_mask5, m_mask8] using rC0 hR, by simpa [wt, xs, xa, m_part, m_share, m_mask5, m_mask8] using rC1 hR, by simpa [wt, xs, xa, m_part, m_share, m_mask5, m_mask8] using rC2 hR, by simpa [wt, xs, xa, m_part, m_share, m_mask5, m_mask8] using rC3 hR, by simpa [wt, xs, xa, m_part, m_share, m_mask5, m_mask8] using rC4 hR, by simpa [wt, xs, xa, m_part, m_share, m_mask5, m_mask8] using rC5 hR, fun t2 ht2 => by
      have h3 := rC6 hR t2 ht2
      by_cases h1 : t2 = t
      · subst h1; simp [wt, xs, upd]
      · simp [wt, xs, upd, h1, h3], by simpa [wt, xs, xa, m_part, m_share, m_mask5, m_mask8] using rC7 hR, by simpa [wt, xs, xa, m_part, m_share, m_mask5, m_mask8] using rC8 hR, by simpa [wt, xs, xa, m_part, m_share, m_mask5, m_mask8] using rC9 hR, by simpa [wt, xs, xa, m_part, m_share, m_mask5, m_mask8] using rC10 hR, by simpa [wt, xs, xa, m_part, m_share, m_mask5, m_mask8] using rC11 hR, by simpa [wt, xs, xa, m_part, m_share, m_mask5, m_mask8] using rC12 hR, by simpa [wt, xs, xa, m_part, m_share, m_mask5, m_mask8] using rC13 hR, by simpa [wt, xs, xa, m_part, m_share, m_mask5, m_mask8] using rC14 hR, by simpa [wt, xs, xa, m_part, m_share, m_mask5, m_mask8] using rC15 hR, by simpa [wt, xs, xa, m_part, m_share, m_mask5, m_mask8] using rC16 hR, by simpa [wt, xs, xa, m_part, m_share, m_mask5, m_mask8] using rC17 hR⟩
set_option maxRecDepth 20000 in
set_option maxHeartbeats 4000000 in
theorem w_decide (h : qB) (b : Fin 16) (w : qw) (X : qm) (hR : RelC w X) (hwn : X.1 0 4 ≤ 60) {t oc : Nat} (ht : t < 8) (hT : t < X.1 0 0) (hoc : oc = 1 ∨ oc = 2) (hp : m_part X t < 16) (hl : X.1 10 4 < 24) (hL : ∀ s, s < 5 → X.1 10 s ≤ 24) : CtV mX1_decide 1 [qR b 0, qI (nI t), qI (nI oc)] (q_put h b (wblk b w)) (fun h2 => ∃ w', RelC w' (m_decide X t oc) ∧ h2 = q_put h b (wblk b w')) := by
  refine ct_of (by decide +kernel) rfl rfl (Nat.le_of_ble_eq_true rfl) ?_
  show Ev mX1_decide 1 0 [some (qR b 0), some (qI (nI t)), some (qI (nI oc))] [] 132 (q_put h b (wblk b w)) 0 0 _ _
  refine e_aload0 dX1_decide_0 ?_
  refine e_getfieldF flX1_21 dX1_decide_1 rfl rfl ?_
  refine e_iload1 dX1_decide_4 ?_
  refine e_iload2 dX1_decide_5 ?_
  refine e_iastoreN dX1_decide_6 rfl (by omega) (by decide) ?_
  refine e_aload0 dX1_decide_7 ?_
  refine e_iconst (z := 4) dX1_decide_8 ?_
  refine e_iload2 dX1_decide_9 ?_
  refine e_iconst (z := 1) dX1_decide_10 ?_
  have hoc3 := hoc
  rcases hoc with hoc1 | hoc1
  · refine e_icmp_neN 18 dX1_decide_11 (by decide) (by omega) (by omega) (fun hc11 => absurd hoc1 hc11) (fun hc11 => ?_)
    refine e_iconst (z := 1) dX1_decide_14 ?_
    refine e_goto 19 dX1_decide_15 (by decide) ?_
    refine e_top (w := qI (nI oc)) (by rw [hoc1]) ?_
    refine e_iload1 dX1_decide_19 ?_
    refine e_vVF (M' := mX1_write) fX1_write lkX1_140 (w_write h b _ _ (relC_out hR (t := t) (v := oc)) (s := 4) (kd := oc) (t := t) (by decide) (by omega) ht hl hL) rfl rfl dX1_decide_20 rfl rfl (by decide) (Nat.le_of_ble_eq_true rfl) rfl ?_
    rintro _ ⟨w1, hR1, rfl⟩
    refine e_aload0 dX1_decide_23 ?_
    refine e_aload0 dX1_decide_24 ?_
    refine e_iload1 dX1_decide_25 ?_
    refine e_vIF (M' := mX1_orderFor) fX1_orderFor lkX1_153 (w_orderFor h b w1 _ hR1 (t := t) ht (by simp [m_write, xs]; omega)) rfl rfl dX1_decide_26 rfl rfl (by decide) (Nat.le_of_ble_eq_true rfl) rfl ?_
    rintro _ _ ⟨rfl, rfl⟩
    refine e_iload1 dX1_decide_29 ?_
    refine e_aload0 dX1_decide_30 ?_
    refine e_getfieldF flX1_15 dX1_decide_31 rfl rfl ?_
    refine e_iload1 dX1_decide_34 ?_
    rw [rC2 hR1 _ ht, show (if t < (m_write (xs X 7 t oc) 4 oc t).1 0 0 then m_part (m_write (xs X 7 t oc) 4 oc t) t else 0) = m_part X t from if_pos hT, show (m_write (xs X 7 t oc) 4 oc t).1 7 t = oc by simp [m_write, xs]]
    refine e_ialoadN dX1_decide_35 rfl (by omega) (by decide) ?_
    refine e_vVF (M' := mX1_send) fX1_send lkX1_150 (w_send h b w1 _ hR1 (by simp [m_write, xs]; omega) (kd := 2 + oc) (t := t) (mk := m_part X t) (by omega) ht hp) rfl rfl dX1_decide_36 rfl rfl (by decide) (Nat.le_of_ble_eq_true rfl) rfl ?_
    rintro _ ⟨w2, hR2, rfl⟩
    refine e_vret dX1_decide_39 rfl ?_
    exact ⟨rfl, rfl, _, hR2, rfl⟩
  · refine e_icmp_neN 18 dX1_decide_11 (by decide) (by omega) (by omega) (fun hc11 => ?_) (fun hc11 => absurd (hoc1.symm.trans hc11) (by decide))
    refine e_iconst (z := 2) dX1_decide_18 ?_
    refine e_top (w := qI (nI oc)) (by rw [hoc1]) ?_
    refine e_iload1 dX1_decide_19 ?_
    refine e_vVF (M' := mX1_write) fX1_write lkX1_140 (w_write h b _ _ (relC_out hR (t := t) (v := oc)) (s := 4) (kd := oc) (t := t) (by decide) (by omega) ht hl hL) rfl rfl dX1_decide_20 rfl rfl (by decide) (Nat.le_of_ble_eq_true rfl) rfl ?_
    rintro _ ⟨w1, hR1, rfl⟩
    refine e_aload0 dX1_decide_23 ?_
    refine e_aload0 dX1_decide_24 ?_
    refine e_iload1 dX1_decide_25 ?_
    refine e_vIF (M' := mX1_orderFor) fX1_orderFor lkX1_153 (w_orderFor h b w1 _ hR1 (t := t) ht (by simp [m_write, xs]; omega)) rfl rfl dX1_decide_26 rfl rfl (by decide) (Nat.le_of_ble_eq_true rfl) rfl ?_
    rintro _ _ ⟨rfl, rfl⟩
    refine e_iload1 dX1_decide_29 ?_
    refine e_aload0 dX1_decide_30 ?_
    refine e_getfieldF flX1_15 dX1_decide_31 rfl rfl ?_
    refine e_iload1 dX1_decide_34 ?_
    rw [rC2 hR1 _ ht, show (if t < (m_write (xs X 7 t oc) 4 oc t).1 0 0 then m_part (m_write (xs X 7 t oc) 4 oc t) t else 0) = m_part X t from if_pos hT, show (m_write (xs X 7 t oc) 4 oc t).1 7 t = oc by simp [m_write, xs]]
    refine e_ialoadN dX1_decide_35 rfl (by omega) (by decide) ?_
    refine e_vVF (M' := mX1_send) fX1_send lkX1_150 (w_send h b w1 _ hR1 (by simp [m_write, xs]; omega) (kd := 2 + oc) (t := t) (mk := m_part X t) (by omega) ht hp) rfl rfl dX1_decide_36 rfl rfl (by decide) (Nat.le_of_ble_eq_true rfl) rfl ?_
    rintro _ ⟨w2, hR2, rfl⟩
    refine e_vret dX1_decide_39 rfl ?_
    exact ⟨rfl, rfl, _, hR2, rfl⟩
set_option maxRecDepth 20000 in
set_option maxHeartbeats 4000000 in
theorem w_loseFrom (h : qB) (b : Fin 16) (w : qw) (X : qm) (hR : RelC w X) (hwn : X.1 0 4 ≤ 60) {p : Nat} (hp : p < X.1 0 4) (hm : X.1 12 p < 224) : CtI mX1_loseFrom 1 [qR b 0, qI (nI p)] (q_put h b (wblk b w)) (fun r h2 => r = nI (X.1 12 p / 32) ∧ ∃ w', RelC w' (m_lose X p) ∧ h2 = q_put h b (wblk b w')) := by
  refine ct_of (by decide +kernel) rfl rfl (Nat.le_of_ble_eq_true rfl) ?_
  show Ev mX1_loseFrom 1 0 [some (qR b 0), some (qI (nI p))] [] 132 (q_put h b (wblk b w)) 0 0 _ _
  refine e_aload0 dX1_loseFrom_0 ?_
  refine e_dup dX1_loseFrom_1 rfl ?_
  refine e_getfieldF flX1_70 dX1_loseFrom_2 rfl rfl ?_
  rw [rC17 hR]
  refine e_iconst (z := 1) dX1_loseFrom_5 ?_
  first | refine e_iaddN dX1_loseFrom_6 ?_ | refine e_iadd dX1_loseFrom_6 ?_
  refine e_putfieldF flX1_70 dX1_loseFrom_7 rfl (Nat.le_of_ble_eq_true rfl) (fun _ => rfl) (fun _ => rfl) ?_
  refine e_aload0 dX1_loseFrom_10 ?_
  refine e_iload1 dX1_loseFrom_11 ?_
  refine e_vIF (M' := mX1_takeOut) fX1_takeOut lkX1_98 (w_takeOut h b _ _ (relC_lost hR (v := X.1 0 3 + 1) _ rfl) hwn (p := p) hp) rfl rfl dX1_loseFrom_12 rfl rfl (by decide) (Nat.le_of_ble_eq_true rfl) rfl ?_
  rintro _ _ ⟨rfl, w1, hR1, rfl⟩
  refine e_nI (M' := mX2_kindIn) fX2_kindIn lkX1_102 (w_kindIn _ (r0 := X.1 12 p) hm) rfl rfl dX1_loseFrom_15 (by decide) (Nat.le_of_ble_eq_true rfl) rfl ?_
  rintro _ _ ⟨rfl, rfl⟩
  refine e_iret dX1_loseFrom_18 rfl ?_
  exact ⟨_, rfl, rfl, rfl, _, hR1, rfl⟩
/-- what a store does with a message -/
def m_ask (X : qm) (t s : Nat) : qm :=
  if X.1 9 (8 * s + t) = 0 then (if m_would X s (m_share X t s) then m_send (m_become X s t 1) 1 t s else m_send (m_become X s t 3) 2 t s) else m_send X (if X.1 9 (8 * s + t) = 3 then 2 else 1) t s
def m_mk (X : qm) (t s : Nat) : qm := if X.1 9 (8 * s + t) = 1 then m_send (m_become X s t 2) 5 t s else if X.1 9 (8 * s + t) = 2 then m_send X 5 t s else X
def m_dr (X : qm) (t s : Nat) : qm := if X.1 9 (8 * s + t) < 2 then m_send (m_become X s t 3) 5 t s else if X.1 9 (8 * s + t) = 3 then m_send X 5 t s else X
theorem m_become_st (X : qm) (s t st : Nat) : (m_become X s t st).1 9 (8 * s + t) = st := by unfold m_become; split <;> simp [xs, xa]
theorem m_become_wn (X : qm) (s t st : Nat) : (m_become X s t st).1 0 4 = X.1 0 4 := by unfold m_become; split <;> simp [xs, xa, m_write]
theorem m_kds : m_stAfter 4 = 1 ∧ m_stAfter 1 = 2 ∧ m_stAfter 2 = 3 := by decide
set_option maxRecDepth 20000 in
set_option maxHeartbeats 4000000 in
theorem w_hearsMake (h : qB) (b : Fin 16) (w : qw) (X : qm) (hR : RelC w X) (hwn : X.1 0 4 ≤ 60) {t s : Nat} (ht : t < 8) (hs : s < 4) (hst : X.1 9 (8 * s + t) ≤ 3) (hl : X.1 9 (8 * s + t) < 2 → X.1 10 s < 24) (hL : ∀ s, s < 5 → X.1 10 s ≤ 24) : CtV mX1_storeHearsMake 2 [qR b 0, qI (nI s), qI (nI t)] (q_put h b (wblk b w)) (fun h2 => ∃ w', RelC w' (m_mk X t s) ∧ h2 = q_put h b (wblk b w')) := by
  refine ct_of (by decide +kernel) rfl rfl (Nat.le_of_ble_eq_true rfl) ?_
  show Ev mX1_storeHearsMake 2 0 [some (qR b 0), some (qI (nI s)), some (qI (nI t))] [] 132 (q_put h b (wblk b w)) 0 0 _ _
  refine e_aload0 dX1_storeHearsMake_0 ?_
  refine e_iload1 dX1_storeHearsMake_1 ?_
  refine e_iload2 dX1_storeHearsMake_2 ?_
  refine e_vIF (M' := mX1_stateOf) fX1_stateOf lkX1_80 (w_stateOf h b w X hR (t := t) (s := s) ht hs) rfl rfl dX1_storeHearsMake_3 rfl rfl (by decide) (Nat.le_of_ble_eq_true rfl) rfl ?_
  rintro _ _ ⟨rfl, rfl⟩
  refine e_iconst (z := 1) dX1_storeHearsMake_6 ?_
  refine e_icmp_neN 17 dX1_storeHearsMake_7 (by decide) (by omega) (by omega) (fun hc7 => ?_) (fun hc7 => ?_)
  · refine e_aload0 dX1_storeHearsMake_17 ?_
    refine e_iload1 dX1_storeHearsMake_18 ?_
    refine e_iload2 dX1_storeHearsMake_19 ?_
    refine e_vIF (M' := mX1_stateOf) fX1_stateOf lkX1_80 (w_stateOf h b w _ hR (t := t) (s := s) ht hs) rfl rfl dX1_storeHearsMake_20 rfl rfl (by decide) (Nat.le_of_ble_eq_true rfl) rfl ?_
    rintro _ _ ⟨rfl, rfl⟩
    refine e_iconst (z := 2) dX1_storeHearsMake_23 ?_
    first | refine e_icmp_neN 36 dX1_storeHearsMake_24 (by decide) (by omega) (by omega) (fun hc24 => ?_) (fun hc24 => ?_) | refine e_icmp_ne 36 dX1_storeHearsMake_24 (by decide) (fun hc24 => ?_) (fun hc24 => ?_)
    · refine e_vret dX1_storeHearsMake_36 rfl ?_
      first
        | exact ⟨rfl, rfl, w2, by rw [m_mk, if_neg hc7, if_pos hc24]; exact hR2, rfl⟩
        | exact ⟨rfl, rfl, w, by rw [m_mk, if_neg hc7, if_neg hc24]; exact hR, rfl⟩
    · refine e_aload0 dX1_storeHearsMake_27 ?_
      refine e_iconst (z := 5) dX1_storeHearsMake_28 ?_
      refine e_iload2 dX1_storeHearsMake_29 ?_
      refine e_iconst (z := 1) dX1_storeHearsMake_30 ?_
      refine e_iload1 dX1_storeHearsMake_31 ?_
      refine e_ishl dX1_storeHearsMake_32 ?_
      rw [b_one _ hs]
      refine e_vVF (M' := mX1_send) fX1_send lkX1_150 (w_send h b w _ hR (by first | exact hwn | (rw [m_become_wn]; exact hwn)) (kd := 5) (t := t) (mk := 2 ^ s) (by decide) ht (b_two s hs)) rfl rfl dX1_storeHearsMake_33 rfl rfl (by decide) (Nat.le_of_ble_eq_true rfl) rfl ?_
      rintro _ ⟨w2, hR2, rfl⟩
      rw [m_sendN_one _ _ _ hs] at hR2
      refine e_vret dX1_storeHearsMake_36 rfl ?_
      first
        | exact ⟨rfl, rfl, w2, by rw [m_mk, if_neg hc7, if_pos hc24]; exact hR2, rfl⟩
        | exact ⟨rfl, rfl, w, by rw [m_mk, if_neg hc7, if_neg hc24]; exact hR, rfl⟩
  · refine e_aload0 dX1_storeHearsMake_10 ?_
    refine e_iload1 dX1_storeHearsMake_11 ?_
    refine e_iconst (z := 1) dX1_storeHearsMake_12 ?_
    refine e_iload2 dX1_storeHearsMake_13 ?_
    refine e_vVF (M' := mX1_storeWrites) fX1_storeWrites lkX1_147 (w_storeWrites h b w X hR (s := s) (kd := 1) (t := t) hs (by decide) (Or.inr (Or.inl rfl)) ht (hl (by omega)) hL) rfl rfl dX1_storeHearsMake_14 rfl rfl (by decide) (Nat.le_of_ble_eq_true rfl) rfl ?_
    rintro _ ⟨w1, hR1, rfl⟩
    rw [m_kds.2.1] at hR1
    refine e_aload0 dX1_storeHearsMake_17 ?_
    refine e_iload1 dX1_storeHearsMake_18 ?_
    refine e_iload2 dX1_storeHearsMake_19 ?_
    refine e_vIF (M' := mX1_stateOf) fX1_stateOf lkX1_80 (w_stateOf h b w1 _ hR1 (t := t) (s := s) ht hs) rfl rfl dX1_storeHearsMake_20 rfl rfl (by decide) (Nat.le_of_ble_eq_true rfl) rfl ?_
    rintro _ _ ⟨rfl, rfl⟩
    rw [m_become_st]
    refine e_iconst (z := 2) dX1_storeHearsMake_23 ?_
    first | refine e_icmp_neN 36 dX1_storeHearsMake_24 (by decide) (by omega) (by omega) (fun hc24 => ?_) (fun hc24 => ?_) | refine e_icmp_ne 36 dX1_storeHearsMake_24 (by decide) (fun hc24 => ?_) (fun hc24 => ?_)
    · refine e_vret dX1_storeHearsMake_36 rfl ?_
      first
        | exact ⟨rfl, rfl, w2, by rw [m_mk, if_pos hc7]; exact hR2, rfl⟩
        | exact absurd rfl hc24
    · refine e_aload0 dX1_storeHearsMake_27 ?_
      refine e_iconst (z := 5) dX1_storeHearsMake_28 ?_
      refine e_iload2 dX1_storeHearsMake_29 ?_
      refine e_iconst (z := 1) dX1_storeHearsMake_30 ?_
      refine e_iload1 dX1_storeHearsMake_31 ?_
      refine e_ishl dX1_storeHearsMake_32 ?_
      rw [b_one _ hs]
      refine e_vVF (M' := mX1_send) fX1_send lkX1_150 (w_send h b w1 _ hR1 (by first | exact hwn | (rw [m_become_wn]; exact hwn)) (kd := 5) (t := t) (mk := 2 ^ s) (by decide) ht (b_two s hs)) rfl rfl dX1_storeHearsMake_33 rfl rfl (by decide) (Nat.le_of_ble_eq_true rfl) rfl ?_
      rintro _ ⟨w2, hR2, rfl⟩
      rw [m_sendN_one _ _ _ hs] at hR2
      refine e_vret dX1_storeHearsMake_36 rfl ?_
      first
        | exact ⟨rfl, rfl, w2, by rw [m_mk, if_pos hc7]; exact hR2, rfl⟩
        | exact absurd rfl hc24
