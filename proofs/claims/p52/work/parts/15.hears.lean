/-! WHAT STORES AND CLERK DO, in the class -/
set_option maxRecDepth 20000 in
set_option maxHeartbeats 4000000 in
theorem w_orderFor (h : qB) (b : Fin 16) (w : qw) (X : qm) (hR : RelC w X) {t : Nat} (ht : t < 8) (h1 : X.1 7 t = 1 ∨ X.1 7 t = 2) : CtI mX1_orderFor 0 [qR b 0, qI (nI t)] (q_put h b (wblk b w)) (fun r h2 => r = nI (2 + X.1 7 t) ∧ h2 = q_put h b (wblk b w)) := by
  refine ct_of (by decide +kernel) rfl rfl (Nat.le_of_ble_eq_true rfl) ?_
  show Ev mX1_orderFor 0 0 [some (qR b 0), some (qI (nI t))] [] 124 (q_put h b (wblk b w)) 0 0 _ _
  refine e_aload0 dX1_orderFor_0 ?_
  refine e_getfieldF flX1_21 dX1_orderFor_1 rfl rfl ?_
  refine e_iload1 dX1_orderFor_4 ?_
  refine e_ialoadN dX1_orderFor_5 rfl (by omega) (by decide) ?_
  rw [rC4 hR _ ht]
  refine e_iconst (z := 1) dX1_orderFor_6 ?_
  first | refine e_icmp_neN 14 dX1_orderFor_7 (by decide) (by omega) (by omega) (fun hc7 => ?_) (fun hc7 => ?_) | refine e_icmp_ne 14 dX1_orderFor_7 (by decide) (fun hc7 => ?_) (fun hc7 => ?_)
  · refine e_iconst (z := 4) dX1_orderFor_14 ?_
    refine e_iret dX1_orderFor_15 rfl ?_
    exact ⟨_, rfl, rfl, by congr 1; omega, rfl⟩
  · refine e_iconst (z := 3) dX1_orderFor_10 ?_
    refine e_goto 15 dX1_orderFor_11 (by decide) ?_
    refine e_iret dX1_orderFor_15 rfl ?_
    exact ⟨_, rfl, rfl, by congr 1; omega, rfl⟩
/-- the clerk decides -/
def m_decide (X : qm) (t oc : Nat) : qm := m_sendN (m_write (xs X 7 t oc) 4 oc t) (2 + oc) t (m_part X t) 4
theorem relC_out {w : qw} {X : qm} (hR : RelC w X) {t v : Nat} : RelC (wt w 4 (upd (w 4) t (nI v))) (xs X 7 t v) := by
  exact ⟨by simpa [wt, xs, xa, m_part, m_share, m_mask5, m_mask8] using rC0 hR, by simpa [wt, xs, xa, m_part, m_share, m_mask5, m_mask8] using rC1 hR, by simpa [wt, xs, xa, m_part, m_share, m_mask5, m_mask8] using rC2 hR, by simpa [wt, xs, xa, m_part, m_share, m_mask5, m_mask8] using rC3 hR, fun t2 ht2 => by
      have h3 := rC4 hR t2 ht2
      by_cases h1 : t2 = t
      · subst h1; simp [wt, xs, upd]
      · simp [wt, xs, upd, h1, h3], by simpa [wt, xs, xa, m_part, m_share, m_mask5, m_mask8] using rC5 hR, by simpa [wt, xs, xa, m_part, m_share, m_mask5, m_mask8] using rC6 hR, by simpa [wt, xs, xa, m_part, m_share, m_mask5, m_mask8] using rC7 hR, by simpa [wt, xs, xa, m_part, m_share, m_mask5, m_mask8] using rC8 hR, by simpa [wt, xs, xa, m_part, m_share, m_mask5, m_mask8] using rC9 hR, by simpa [wt, xs, xa, m_part, m_share, m_mask5, m_mask8] using rC10 hR, by simpa [wt, xs, xa, m_part, m_share, m_mask5, m_mask8] using rC11 hR, by simpa [wt, xs, xa, m_part, m_share, m_mask5, m_mask8] using rC12 hR, by simpa [wt, xs, xa, m_part, m_share, m_mask5, m_mask8] using rC13 hR, by simpa [wt, xs, xa, m_part, m_share, m_mask5, m_mask8] using rC14 hR, by simpa [wt, xs, xa, m_part, m_share, m_mask5, m_mask8] using rC15 hR, by simpa [wt, xs, xa, m_part, m_share, m_mask5, m_mask8] using rC16 hR, by simpa [wt, xs, xa, m_part, m_share, m_mask5, m_mask8] using rC17 hR⟩
theorem relC_yes {w : qw} {X : qm} (hR : RelC w X) {t v : Nat} : RelC (wt w 5 (upd (w 5) t (nI v))) (xs X 5 t v) := by
  exact ⟨by simpa [wt, xs, xa, m_part, m_share, m_mask5, m_mask8] using rC0 hR, by simpa [wt, xs, xa, m_part, m_share, m_mask5, m_mask8] using rC1 hR, by simpa [wt, xs, xa, m_part, m_share, m_mask5, m_mask8] using rC2 hR, by simpa [wt, xs, xa, m_part, m_share, m_mask5, m_mask8] using rC3 hR, by simpa [wt, xs, xa, m_part, m_share, m_mask5, m_mask8] using rC4 hR, fun t2 ht2 => by
      have h3 := rC5 hR t2 ht2
      by_cases h1 : t2 = t
      · subst h1; simp [wt, xs, upd]
      · simp [wt, xs, upd, h1, h3], by simpa [wt, xs, xa, m_part, m_share, m_mask5, m_mask8] using rC6 hR, by simpa [wt, xs, xa, m_part, m_share, m_mask5, m_mask8] using rC7 hR, by simpa [wt, xs, xa, m_part, m_share, m_mask5, m_mask8] using rC8 hR, by simpa [wt, xs, xa, m_part, m_share, m_mask5, m_mask8] using rC9 hR, by simpa [wt, xs, xa, m_part, m_share, m_mask5, m_mask8] using rC10 hR, by simpa [wt, xs, xa, m_part, m_share, m_mask5, m_mask8] using rC11 hR, by simpa [wt, xs, xa, m_part, m_share, m_mask5, m_mask8] using rC12 hR, by simpa [wt, xs, xa, m_part, m_share, m_mask5, m_mask8] using rC13 hR, by simpa [wt, xs, xa, m_part, m_share, m_mask5, m_mask8] using rC14 hR, by simpa [wt, xs, xa, m_part, m_share, m_mask5, m_mask8] using rC15 hR, by simpa [wt, xs, xa, m_part, m_share, m_mask5, m_mask8] using rC16 hR, by simpa [wt, xs, xa, m_part, m_share, m_mask5, m_mask8] using rC17 hR⟩
theorem relC_done {w : qw} {X : qm} (hR : RelC w X) {t v : Nat} : RelC (wt w 6 (upd (w 6) t (nI v))) (xs X 6 t v) := by
  exact ⟨by simpa [wt, xs, xa, m_part, m_share, m_mask5, m_mask8] using rC0 hR, by simpa [wt, xs, xa, m_part, m_share, m_mask5, m_mask8] using rC1 hR, by simpa [wt, xs, xa, m_part, m_share, m_mask5, m_mask8] using rC2 hR, by simpa [wt, xs, xa, m_part, m_share, m_mask5, m_mask8] using rC3 hR, by simpa [wt, xs, xa, m_part, m_share, m_mask5, m_mask8] using rC4 hR, by simpa [wt, xs, xa, m_part, m_share, m_mask5, m_mask8] using rC5 hR, fun t2 ht2 => by
      have h3 := rC6 hR t2 ht2
      by_cases h1 : t2 = t
      · subst h1; simp [wt, xs, upd]
      · simp [wt, xs, upd, h1, h3], by simpa [wt, xs, xa, m_part, m_share, m_mask5, m_mask8] using rC7 hR, by simpa [wt, xs, xa, m_part, m_share, m_mask5, m_mask8] using rC8 hR, by simpa [wt, xs, xa, m_part, m_share, m_mask5, m_mask8] using rC9 hR, by simpa [wt, xs, xa, m_part, m_share, m_mask5, m_mask8] using rC10 hR, by simpa [wt, xs, xa, m_part, m_share, m_mask5, m_mask8] using rC11 hR, by simpa [wt, xs, xa, m_part, m_share, m_mask5, m_mask8] using rC12 hR, by simpa [wt, xs, xa, m_part, m_share, m_mask5, m_mask8] using rC13 hR, by simpa [wt, xs, xa, m_part, m_share, m_mask5, m_mask8] using rC14 hR, by simpa [wt, xs, xa, m_part, m_share, m_mask5, m_mask8] using rC15 hR, by simpa [wt, xs, xa, m_part, m_share, m_mask5, m_mask8] using rC16 hR, by simpa [wt, xs, xa, m_part, m_share, m_mask5, m_mask8] using rC17 hR⟩
set_option maxRecDepth 20000 in
set_option maxHeartbeats 4000000 in
theorem w_decide (h : qB) (b : Fin 16) (w : qw) (X : qm) (hR : RelC w X) (hwn : X.1 0 4 ≤ 60) {t oc : Nat} (ht : t < 8) (hT : t < X.1 0 0) (hoc : oc = 1 ∨ oc = 2) (hp : m_part X t < 16) (hl : X.1 10 4 < 24) (hL : ∀ s, s < 5 → X.1 10 s ≤ 24) : CtV mX1_decide 1 [qR b 0, qI (nI t), qI (nI oc)] (q_put h b (wblk b w)) (fun h2 => ∃ w', RelC w' (m_decide X t oc) ∧ h2 = q_put h b (wblk b w')) := by
  refine ct_of (by decide +kernel) rfl rfl (Nat.le_of_ble_eq_true rfl) ?_
  show Ev mX1_decide 1 0 [some (qR b 0), some (qI (nI t)), some (qI (nI oc))] [] 124 (q_put h b (wblk b w)) 0 0 _ _
  refine e_aload0 dX1_decide_0 ?_
  refine e_getfieldF flX1_21 dX1_decide_1 rfl rfl ?_
  refine e_iload1 dX1_decide_4 ?_
  refine e_iload2 dX1_decide_5 ?_
  refine e_iastoreN dX1_decide_6 rfl (by omega) (by decide) ?_
  refine e_aload0 dX1_decide_7 ?_
  refine e_iconst (z := 4) dX1_decide_8 ?_
  refine e_iload2 dX1_decide_9 ?_
  refine e_iconst (z := 1) dX1_decide_10 ?_
  have hoc3 := hoc
  rcases hoc with hoc1 | hoc1
  · refine e_icmp_neN 18 dX1_decide_11 (by decide) (by omega) (by omega) (fun hc11 => absurd hoc1 hc11) (fun hc11 => ?_)
    refine e_iconst (z := 1) dX1_decide_14 ?_
    refine e_goto 19 dX1_decide_15 (by decide) ?_
    refine e_top (w := qI (nI oc)) (by rw [hoc1]) ?_
    refine e_iload1 dX1_decide_19 ?_
    refine e_vVF (M' := mX1_write) fX1_write lkX1_140 (w_write h b _ _ (relC_out hR (t := t) (v := oc)) (s := 4) (kd := oc) (t := t) (by decide) (by omega) ht hl hL) rfl rfl dX1_decide_20 rfl rfl (by decide) (Nat.le_of_ble_eq_true rfl) rfl ?_
    rintro _ ⟨w1, hR1, rfl⟩
    refine e_aload0 dX1_decide_23 ?_
    refine e_aload0 dX1_decide_24 ?_
    refine e_iload1 dX1_decide_25 ?_
    refine e_vIF (M' := mX1_orderFor) fX1_orderFor lkX1_153 (w_orderFor h b w1 _ hR1 (t := t) ht (by simp [m_write, xs]; omega)) rfl rfl dX1_decide_26 rfl rfl (by decide) (Nat.le_of_ble_eq_true rfl) rfl ?_
    rintro _ _ ⟨rfl, rfl⟩
    refine e_iload1 dX1_decide_29 ?_
    refine e_aload0 dX1_decide_30 ?_
    refine e_getfieldF flX1_15 dX1_decide_31 rfl rfl ?_
    refine e_iload1 dX1_decide_34 ?_
    refine e_ialoadN dX1_decide_35 rfl (by omega) (by decide) ?_
    rw [rC2 hR1 _ ht, show (if t < (m_write (xs X 7 t oc) 4 oc t).1 0 0 then m_part (m_write (xs X 7 t oc) 4 oc t) t else 0) = m_part X t from if_pos hT, show (m_write (xs X 7 t oc) 4 oc t).1 7 t = oc by simp [m_write, xs]]
    refine e_vVF (M' := mX1_send) fX1_send lkX1_150 (w_send h b w1 _ hR1 (by simp [m_write, xs]; omega) (kd := 2 + oc) (t := t) (mk := m_part X t) (by omega) ht hp) rfl rfl dX1_decide_36 rfl rfl (by decide) (Nat.le_of_ble_eq_true rfl) rfl ?_
    rintro _ ⟨w2, hR2, rfl⟩
    refine e_vret dX1_decide_39 rfl ?_
    exact ⟨rfl, rfl, _, hR2, rfl⟩
  · refine e_icmp_neN 18 dX1_decide_11 (by decide) (by omega) (by omega) (fun hc11 => ?_) (fun hc11 => absurd (hoc1.symm.trans hc11) (by decide))
    refine e_iconst (z := 2) dX1_decide_18 ?_
    refine e_top (w := qI (nI oc)) (by rw [hoc1]) ?_
    refine e_iload1 dX1_decide_19 ?_
    refine e_vVF (M' := mX1_write) fX1_write lkX1_140 (w_write h b _ _ (relC_out hR (t := t) (v := oc)) (s := 4) (kd := oc) (t := t) (by decide) (by omega) ht hl hL) rfl rfl dX1_decide_20 rfl rfl (by decide) (Nat.le_of_ble_eq_true rfl) rfl ?_
    rintro _ ⟨w1, hR1, rfl⟩
    refine e_aload0 dX1_decide_23 ?_
    refine e_aload0 dX1_decide_24 ?_
    refine e_iload1 dX1_decide_25 ?_
    refine e_vIF (M' := mX1_orderFor) fX1_orderFor lkX1_153 (w_orderFor h b w1 _ hR1 (t := t) ht (by simp [m_write, xs]; omega)) rfl rfl dX1_decide_26 rfl rfl (by decide) (Nat.le_of_ble_eq_true rfl) rfl ?_
    rintro _ _ ⟨rfl, rfl⟩
    refine e_iload1 dX1_decide_29 ?_
    refine e_aload0 dX1_decide_30 ?_
    refine e_getfieldF flX1_15 dX1_decide_31 rfl rfl ?_
    refine e_iload1 dX1_decide_34 ?_
    refine e_ialoadN dX1_decide_35 rfl (by omega) (by decide) ?_
    rw [rC2 hR1 _ ht, show (if t < (m_write (xs X 7 t oc) 4 oc t).1 0 0 then m_part (m_write (xs X 7 t oc) 4 oc t) t else 0) = m_part X t from if_pos hT, show (m_write (xs X 7 t oc) 4 oc t).1 7 t = oc by simp [m_write, xs]]
    refine e_vVF (M' := mX1_send) fX1_send lkX1_150 (w_send h b w1 _ hR1 (by simp [m_write, xs]; omega) (kd := 2 + oc) (t := t) (mk := m_part X t) (by omega) ht hp) rfl rfl dX1_decide_36 rfl rfl (by decide) (Nat.le_of_ble_eq_true rfl) rfl ?_
    rintro _ ⟨w2, hR2, rfl⟩
    refine e_vret dX1_decide_39 rfl ?_
    exact ⟨rfl, rfl, _, hR2, rfl⟩
set_option maxRecDepth 20000 in
set_option maxHeartbeats 4000000 in
theorem w_loseFrom (h : qB) (b : Fin 16) (w : qw) (X : qm) (hR : RelC w X) (hwn : X.1 0 4 ≤ 60) {p : Nat} (hp : p < X.1 0 4) (hm : X.1 12 p < 224) : CtI mX1_loseFrom 1 [qR b 0, qI (nI p)] (q_put h b (wblk b w)) (fun r h2 => r = nI (X.1 12 p / 32) ∧ ∃ w', RelC w' (m_lose X p) ∧ h2 = q_put h b (wblk b w')) := by
  refine ct_of (by decide +kernel) rfl rfl (Nat.le_of_ble_eq_true rfl) ?_
  show Ev mX1_loseFrom 1 0 [some (qR b 0), some (qI (nI p))] [] 124 (q_put h b (wblk b w)) 0 0 _ _
  refine e_aload0 dX1_loseFrom_0 ?_
  refine e_dup dX1_loseFrom_1 rfl ?_
  refine e_getfieldF flX1_70 dX1_loseFrom_2 rfl rfl ?_
  rw [rC17 hR]
  refine e_iconst (z := 1) dX1_loseFrom_5 ?_
  first | refine e_iaddN dX1_loseFrom_6 ?_ | refine e_iadd dX1_loseFrom_6 ?_
  refine e_putfieldF flX1_70 dX1_loseFrom_7 rfl (Nat.le_of_ble_eq_true rfl) (fun _ => rfl) (fun _ => rfl) ?_
  refine e_aload0 dX1_loseFrom_10 ?_
  refine e_iload1 dX1_loseFrom_11 ?_
  refine e_vIF (M' := mX1_takeOut) fX1_takeOut lkX1_98 (w_takeOut h b _ _ (relC_lost hR (v := X.1 0 3 + 1) _ rfl) hwn (p := p) hp) rfl rfl dX1_loseFrom_12 rfl rfl (by decide) (Nat.le_of_ble_eq_true rfl) rfl ?_
  rintro _ _ ⟨rfl, w1, hR1, rfl⟩
  refine e_nI (M' := mX2_kindIn) fX2_kindIn lkX1_102 (w_kindIn _ (r0 := X.1 12 p) hm) rfl rfl dX1_loseFrom_15 (by decide) (Nat.le_of_ble_eq_true rfl) rfl ?_
  rintro _ _ ⟨rfl, rfl⟩
  refine e_iret dX1_loseFrom_18 rfl ?_
  exact ⟨_, rfl, rfl, rfl, _, hR1, rfl⟩
/-- what a store does with a message -/
def m_ask (X : qm) (t s : Nat) : qm :=
  if X.1 9 (8 * s + t) = 0 then (if m_would X s (m_share X t s) then m_send (m_become X s t 1) 1 t s else m_send (m_become X s t 3) 2 t s) else m_send X (if X.1 9 (8 * s + t) = 3 then 2 else 1) t s
def m_mk (X : qm) (t s : Nat) : qm := if X.1 9 (8 * s + t) = 1 then m_send (m_become X s t 2) 5 t s else if X.1 9 (8 * s + t) = 2 then m_send X 5 t s else X
def m_dr (X : qm) (t s : Nat) : qm := if X.1 9 (8 * s + t) < 2 then m_send (m_become X s t 3) 5 t s else if X.1 9 (8 * s + t) = 3 then m_send X 5 t s else X
theorem m_become_st (X : qm) (s t st : Nat) : (m_become X s t st).1 9 (8 * s + t) = st := by unfold m_become; split <;> simp [xs, xa]
theorem m_become_wn (X : qm) (s t st : Nat) : (m_become X s t st).1 0 4 = X.1 0 4 := by unfold m_become; split <;> simp [xs, xa, m_write]
theorem m_kds : m_stAfter 4 = 1 ∧ m_stAfter 1 = 2 ∧ m_stAfter 2 = 3 := by decide
set_option maxRecDepth 20000 in
set_option maxHeartbeats 4000000 in
theorem w_hearsMake (h : qB) (b : Fin 16) (w : qw) (X : qm) (hR : RelC w X) (hwn : X.1 0 4 ≤ 60) {t s : Nat} (ht : t < 8) (hs : s < 4) (hst : X.1 9 (8 * s + t) ≤ 3) (hl : X.1 9 (8 * s + t) < 2 → X.1 10 s < 24) (hL : ∀ s, s < 5 → X.1 10 s ≤ 24) : CtV mX1_storeHearsMake 2 [qR b 0, qI (nI s), qI (nI t)] (q_put h b (wblk b w)) (fun h2 => ∃ w', RelC w' (m_mk X t s) ∧ h2 = q_put h b (wblk b w')) := by
  refine ct_of (by decide +kernel) rfl rfl (Nat.le_of_ble_eq_true rfl) ?_
  show Ev mX1_storeHearsMake 2 0 [some (qR b 0), some (qI (nI s)), some (qI (nI t))] [] 124 (q_put h b (wblk b w)) 0 0 _ _
  refine e_aload0 dX1_storeHearsMake_0 ?_
  refine e_iload1 dX1_storeHearsMake_1 ?_
  refine e_iload2 dX1_storeHearsMake_2 ?_
  refine e_vIF (M' := mX1_stateOf) fX1_stateOf lkX1_80 (w_stateOf h b w X hR (t := t) (s := s) ht hs) rfl rfl dX1_storeHearsMake_3 rfl rfl (by decide) (Nat.le_of_ble_eq_true rfl) rfl ?_
  rintro _ _ ⟨rfl, rfl⟩
  refine e_iconst (z := 1) dX1_storeHearsMake_6 ?_
  refine e_icmp_neN 17 dX1_storeHearsMake_7 (by decide) (by omega) (by omega) (fun hc7 => ?_) (fun hc7 => ?_)
  · refine e_aload0 dX1_storeHearsMake_17 ?_
    refine e_iload1 dX1_storeHearsMake_18 ?_
    refine e_iload2 dX1_storeHearsMake_19 ?_
    refine e_vIF (M' := mX1_stateOf) fX1_stateOf lkX1_80 (w_stateOf h b w _ hR (t := t) (s := s) ht hs) rfl rfl dX1_storeHearsMake_20 rfl rfl (by decide) (Nat.le_of_ble_eq_true rfl) rfl ?_
    rintro _ _ ⟨rfl, rfl⟩
    refine e_iconst (z := 2) dX1_storeHearsMake_23 ?_
    first | refine e_icmp_neN 36 dX1_storeHearsMake_24 (by decide) (by omega) (by omega) (fun hc24 => ?_) (fun hc24 => ?_) | refine e_icmp_ne 36 dX1_storeHearsMake_24 (by decide) (fun hc24 => ?_) (fun hc24 => ?_)
    · refine e_vret dX1_storeHearsMake_36 rfl ?_
      first
        | exact ⟨rfl, rfl, w2, by rw [m_mk, if_neg hc7, if_pos hc24]; exact hR2, rfl⟩
        | exact ⟨rfl, rfl, w, by rw [m_mk, if_neg hc7, if_neg hc24]; exact hR, rfl⟩
    · refine e_aload0 dX1_storeHearsMake_27 ?_
      refine e_iconst (z := 5) dX1_storeHearsMake_28 ?_
      refine e_iload2 dX1_storeHearsMake_29 ?_
      refine e_iconst (z := 1) dX1_storeHearsMake_30 ?_
      refine e_iload1 dX1_storeHearsMake_31 ?_
      refine e_ishl dX1_storeHearsMake_32 ?_
      rw [b_one _ hs]
      refine e_vVF (M' := mX1_send) fX1_send lkX1_150 (w_send h b w _ hR (by first | exact hwn | (rw [m_become_wn]; exact hwn)) (kd := 5) (t := t) (mk := 2 ^ s) (by decide) ht (b_two s hs)) rfl rfl dX1_storeHearsMake_33 rfl rfl (by decide) (Nat.le_of_ble_eq_true rfl) rfl ?_
      rintro _ ⟨w2, hR2, rfl⟩
      rw [m_sendN_one _ _ _ hs] at hR2
      refine e_vret dX1_storeHearsMake_36 rfl ?_
      first
        | exact ⟨rfl, rfl, w2, by rw [m_mk, if_neg hc7, if_pos hc24]; exact hR2, rfl⟩
        | exact ⟨rfl, rfl, w, by rw [m_mk, if_neg hc7, if_neg hc24]; exact hR, rfl⟩
  · refine e_aload0 dX1_storeHearsMake_10 ?_
    refine e_iload1 dX1_storeHearsMake_11 ?_
    refine e_iconst (z := 1) dX1_storeHearsMake_12 ?_
    refine e_iload2 dX1_storeHearsMake_13 ?_
    refine e_vVF (M' := mX1_storeWrites) fX1_storeWrites lkX1_147 (w_storeWrites h b w X hR (s := s) (kd := 1) (t := t) hs (by decide) (Or.inr (Or.inl rfl)) ht (hl (by omega)) hL) rfl rfl dX1_storeHearsMake_14 rfl rfl (by decide) (Nat.le_of_ble_eq_true rfl) rfl ?_
    rintro _ ⟨w1, hR1, rfl⟩
    rw [m_kds.2.1] at hR1
    refine e_aload0 dX1_storeHearsMake_17 ?_
    refine e_iload1 dX1_storeHearsMake_18 ?_
    refine e_iload2 dX1_storeHearsMake_19 ?_
    refine e_vIF (M' := mX1_stateOf) fX1_stateOf lkX1_80 (w_stateOf h b w1 _ hR1 (t := t) (s := s) ht hs) rfl rfl dX1_storeHearsMake_20 rfl rfl (by decide) (Nat.le_of_ble_eq_true rfl) rfl ?_
    rintro _ _ ⟨rfl, rfl⟩
    rw [m_become_st]
    refine e_iconst (z := 2) dX1_storeHearsMake_23 ?_
    first | refine e_icmp_neN 36 dX1_storeHearsMake_24 (by decide) (by omega) (by omega) (fun hc24 => ?_) (fun hc24 => ?_) | refine e_icmp_ne 36 dX1_storeHearsMake_24 (by decide) (fun hc24 => ?_) (fun hc24 => ?_)
    · refine e_vret dX1_storeHearsMake_36 rfl ?_
      first
        | exact ⟨rfl, rfl, w2, by rw [m_mk, if_pos hc7]; exact hR2, rfl⟩
        | exact absurd rfl hc24
    · refine e_aload0 dX1_storeHearsMake_27 ?_
      refine e_iconst (z := 5) dX1_storeHearsMake_28 ?_
      refine e_iload2 dX1_storeHearsMake_29 ?_
      refine e_iconst (z := 1) dX1_storeHearsMake_30 ?_
      refine e_iload1 dX1_storeHearsMake_31 ?_
      refine e_ishl dX1_storeHearsMake_32 ?_
      rw [b_one _ hs]
      refine e_vVF (M' := mX1_send) fX1_send lkX1_150 (w_send h b w1 _ hR1 (by first | exact hwn | (rw [m_become_wn]; exact hwn)) (kd := 5) (t := t) (mk := 2 ^ s) (by decide) ht (b_two s hs)) rfl rfl dX1_storeHearsMake_33 rfl rfl (by decide) (Nat.le_of_ble_eq_true rfl) rfl ?_
      rintro _ ⟨w2, hR2, rfl⟩
      rw [m_sendN_one _ _ _ hs] at hR2
      refine e_vret dX1_storeHearsMake_36 rfl ?_
      first
        | exact ⟨rfl, rfl, w2, by rw [m_mk, if_pos hc7]; exact hR2, rfl⟩
        | exact absurd rfl hc24
set_option maxRecDepth 20000 in
set_option maxHeartbeats 4000000 in
theorem w_hearsDrop (h : qB) (b : Fin 16) (w : qw) (X : qm) (hR : RelC w X) (hwn : X.1 0 4 ≤ 60) {t s : Nat} (ht : t < 8) (hs : s < 4) (hst : X.1 9 (8 * s + t) ≤ 3) (hl : X.1 9 (8 * s + t) < 2 → X.1 10 s < 24) (hL : ∀ s, s < 5 → X.1 10 s ≤ 24) : CtV mX1_storeHearsDrop 2 [qR b 0, qI (nI s), qI (nI t)] (q_put h b (wblk b w)) (fun h2 => ∃ w', RelC w' (m_dr X t s) ∧ h2 = q_put h b (wblk b w')) := by
  refine ct_of (by decide +kernel) rfl rfl (Nat.le_of_ble_eq_true rfl) ?_
  show Ev mX1_storeHearsDrop 2 0 [some (qR b 0), some (qI (nI s)), some (qI (nI t)), none] [] 124 (q_put h b (wblk b w)) 0 0 _ _
  refine e_aload0 dX1_storeHearsDrop_0 ?_
  refine e_iload1 dX1_storeHearsDrop_1 ?_
  refine e_iload2 dX1_storeHearsDrop_2 ?_
  refine e_vIF (M' := mX1_stateOf) fX1_stateOf lkX1_80 (w_stateOf h b w X hR (t := t) (s := s) ht hs) rfl rfl dX1_storeHearsDrop_3 rfl rfl (by decide) (Nat.le_of_ble_eq_true rfl) rfl ?_
  rintro _ _ ⟨rfl, rfl⟩
  refine e_istore3 dX1_storeHearsDrop_6 rfl (by decide) ?_
  refine e_iload3 dX1_storeHearsDrop_7 ?_
  refine e_iconst (z := 1) dX1_storeHearsDrop_8 ?_
  refine e_icmp_eqN 16 dX1_storeHearsDrop_9 (by decide) (by omega) (by omega) (fun hc9 => ?_) (fun hc9 => ?_)
  · refine e_aload0 dX1_storeHearsDrop_16 ?_
    refine e_iload1 dX1_storeHearsDrop_17 ?_
    refine e_iconst (z := 2) dX1_storeHearsDrop_18 ?_
    refine e_iload2 dX1_storeHearsDrop_19 ?_
    refine e_vVF (M' := mX1_storeWrites) fX1_storeWrites lkX1_147 (w_storeWrites h b w X hR (s := s) (kd := 2) (t := t) hs (by decide) (Or.inr (Or.inr rfl)) ht (hl (by omega)) hL) rfl rfl dX1_storeHearsDrop_20 rfl rfl (by decide) (Nat.le_of_ble_eq_true rfl) rfl ?_
    rintro _ ⟨w1, hR1, rfl⟩
    rw [m_kds.2.2] at hR1
    refine e_aload0 dX1_storeHearsDrop_23 ?_
    refine e_iload1 dX1_storeHearsDrop_24 ?_
    refine e_iload2 dX1_storeHearsDrop_25 ?_
    refine e_vIF (M' := mX1_stateOf) fX1_stateOf lkX1_80 (w_stateOf h b w1 _ hR1 (t := t) (s := s) ht hs) rfl rfl dX1_storeHearsDrop_26 rfl rfl (by decide) (Nat.le_of_ble_eq_true rfl) rfl ?_
    rintro _ _ ⟨rfl, rfl⟩
    rw [m_become_st]
    refine e_iconst (z := 3) dX1_storeHearsDrop_29 ?_
    first | refine e_icmp_neN 42 dX1_storeHearsDrop_30 (by decide) (by omega) (by omega) (fun hc30 => ?_) (fun hc30 => ?_) | refine e_icmp_ne 42 dX1_storeHearsDrop_30 (by decide) (fun hc30 => ?_) (fun hc30 => ?_)
    · refine e_vret dX1_storeHearsDrop_42 rfl ?_
      first
        | exact ⟨rfl, rfl, w2, by rw [m_dr, if_pos (by omega)]; exact hR2, rfl⟩
        | exact absurd rfl hc30
    · refine e_aload0 dX1_storeHearsDrop_33 ?_
      refine e_iconst (z := 5) dX1_storeHearsDrop_34 ?_
      refine e_iload2 dX1_storeHearsDrop_35 ?_
      refine e_iconst (z := 1) dX1_storeHearsDrop_36 ?_
      refine e_iload1 dX1_storeHearsDrop_37 ?_
      refine e_ishl dX1_storeHearsDrop_38 ?_
      rw [b_one _ hs]
      refine e_vVF (M' := mX1_send) fX1_send lkX1_150 (w_send h b w1 _ hR1 (by first | exact hwn | (rw [m_become_wn]; exact hwn)) (kd := 5) (t := t) (mk := 2 ^ s) (by decide) ht (b_two s hs)) rfl rfl dX1_storeHearsDrop_39 rfl rfl (by decide) (Nat.le_of_ble_eq_true rfl) rfl ?_
      rintro _ ⟨w2, hR2, rfl⟩
      rw [m_sendN_one _ _ _ hs] at hR2
      refine e_vret dX1_storeHearsDrop_42 rfl ?_
      first
        | exact ⟨rfl, rfl, w2, by rw [m_dr, if_pos (by omega)]; exact hR2, rfl⟩
        | exact absurd rfl hc30
  · refine e_iload3 dX1_storeHearsDrop_12 ?_
    refine e_if_neN 23 dX1_storeHearsDrop_13 (by decide) (by omega) (fun hc13 => ?_) (fun hc13 => ?_)
    · refine e_aload0 dX1_storeHearsDrop_23 ?_
      refine e_iload1 dX1_storeHearsDrop_24 ?_
      refine e_iload2 dX1_storeHearsDrop_25 ?_
      refine e_vIF (M' := mX1_stateOf) fX1_stateOf lkX1_80 (w_stateOf h b w _ hR (t := t) (s := s) ht hs) rfl rfl dX1_storeHearsDrop_26 rfl rfl (by decide) (Nat.le_of_ble_eq_true rfl) rfl ?_
      rintro _ _ ⟨rfl, rfl⟩
      refine e_iconst (z := 3) dX1_storeHearsDrop_29 ?_
      first | refine e_icmp_neN 42 dX1_storeHearsDrop_30 (by decide) (by omega) (by omega) (fun hc30 => ?_) (fun hc30 => ?_) | refine e_icmp_ne 42 dX1_storeHearsDrop_30 (by decide) (fun hc30 => ?_) (fun hc30 => ?_)
      · refine e_vret dX1_storeHearsDrop_42 rfl ?_
        first
          | exact ⟨rfl, rfl, w2, by rw [m_dr, if_neg (by omega), if_pos hc30]; exact hR2, rfl⟩
          | exact ⟨rfl, rfl, w, by rw [m_dr, if_neg (by omega), if_neg hc30]; exact hR, rfl⟩
      · refine e_aload0 dX1_storeHearsDrop_33 ?_
        refine e_iconst (z := 5) dX1_storeHearsDrop_34 ?_
        refine e_iload2 dX1_storeHearsDrop_35 ?_
        refine e_iconst (z := 1) dX1_storeHearsDrop_36 ?_
        refine e_iload1 dX1_storeHearsDrop_37 ?_
        refine e_ishl dX1_storeHearsDrop_38 ?_
        rw [b_one _ hs]
        refine e_vVF (M' := mX1_send) fX1_send lkX1_150 (w_send h b w _ hR (by first | exact hwn | (rw [m_become_wn]; exact hwn)) (kd := 5) (t := t) (mk := 2 ^ s) (by decide) ht (b_two s hs)) rfl rfl dX1_storeHearsDrop_39 rfl rfl (by decide) (Nat.le_of_ble_eq_true rfl) rfl ?_
        rintro _ ⟨w2, hR2, rfl⟩
        rw [m_sendN_one _ _ _ hs] at hR2
        refine e_vret dX1_storeHearsDrop_42 rfl ?_
        first
          | exact ⟨rfl, rfl, w2, by rw [m_dr, if_neg (by omega), if_pos hc30]; exact hR2, rfl⟩
          | exact ⟨rfl, rfl, w, by rw [m_dr, if_neg (by omega), if_neg hc30]; exact hR, rfl⟩
    · refine e_aload0 dX1_storeHearsDrop_16 ?_
      refine e_iload1 dX1_storeHearsDrop_17 ?_
      refine e_iconst (z := 2) dX1_storeHearsDrop_18 ?_
      refine e_iload2 dX1_storeHearsDrop_19 ?_
      refine e_vVF (M' := mX1_storeWrites) fX1_storeWrites lkX1_147 (w_storeWrites h b w X hR (s := s) (kd := 2) (t := t) hs (by decide) (Or.inr (Or.inr rfl)) ht (hl (by omega)) hL) rfl rfl dX1_storeHearsDrop_20 rfl rfl (by decide) (Nat.le_of_ble_eq_true rfl) rfl ?_
      rintro _ ⟨w1, hR1, rfl⟩
      rw [m_kds.2.2] at hR1
      refine e_aload0 dX1_storeHearsDrop_23 ?_
      refine e_iload1 dX1_storeHearsDrop_24 ?_
      refine e_iload2 dX1_storeHearsDrop_25 ?_
      refine e_vIF (M' := mX1_stateOf) fX1_stateOf lkX1_80 (w_stateOf h b w1 _ hR1 (t := t) (s := s) ht hs) rfl rfl dX1_storeHearsDrop_26 rfl rfl (by decide) (Nat.le_of_ble_eq_true rfl) rfl ?_
      rintro _ _ ⟨rfl, rfl⟩
      rw [m_become_st]
      refine e_iconst (z := 3) dX1_storeHearsDrop_29 ?_
      first | refine e_icmp_neN 42 dX1_storeHearsDrop_30 (by decide) (by omega) (by omega) (fun hc30 => ?_) (fun hc30 => ?_) | refine e_icmp_ne 42 dX1_storeHearsDrop_30 (by decide) (fun hc30 => ?_) (fun hc30 => ?_)
      · refine e_vret dX1_storeHearsDrop_42 rfl ?_
        first
          | exact ⟨rfl, rfl, w2, by rw [m_dr, if_pos (by omega)]; exact hR2, rfl⟩
          | exact absurd rfl hc30
      · refine e_aload0 dX1_storeHearsDrop_33 ?_
        refine e_iconst (z := 5) dX1_storeHearsDrop_34 ?_
        refine e_iload2 dX1_storeHearsDrop_35 ?_
        refine e_iconst (z := 1) dX1_storeHearsDrop_36 ?_
        refine e_iload1 dX1_storeHearsDrop_37 ?_
        refine e_ishl dX1_storeHearsDrop_38 ?_
        rw [b_one _ hs]
        refine e_vVF (M' := mX1_send) fX1_send lkX1_150 (w_send h b w1 _ hR1 (by first | exact hwn | (rw [m_become_wn]; exact hwn)) (kd := 5) (t := t) (mk := 2 ^ s) (by decide) ht (b_two s hs)) rfl rfl dX1_storeHearsDrop_39 rfl rfl (by decide) (Nat.le_of_ble_eq_true rfl) rfl ?_
        rintro _ ⟨w2, hR2, rfl⟩
        rw [m_sendN_one _ _ _ hs] at hR2
        refine e_vret dX1_storeHearsDrop_42 rfl ?_
        first
          | exact ⟨rfl, rfl, w2, by rw [m_dr, if_pos (by omega)]; exact hR2, rfl⟩
          | exact absurd rfl hc30
set_option maxRecDepth 20000 in
set_option maxHeartbeats 4000000 in
theorem w_hearsAsking (h : qB) (b : Fin 16) (w : qw) (X : qm) (hR : RelC w X) (I : Inv X) (hwn : X.1 0 4 ≤ 60) {t s : Nat} (ht : t < 8) (hs : s < 4) (hst : X.1 9 (8 * s + t) ≤ 3) (hl : X.1 9 (8 * s + t) < 2 → X.1 10 s < 24) (hL : ∀ s, s < 5 → X.1 10 s ≤ 24) : CtV mX1_storeHearsAsking 2 [qR b 0, qI (nI s), qI (nI t)] (q_put h b (wblk b w)) (fun h2 => ∃ w', RelC w' (m_ask X t s) ∧ h2 = q_put h b (wblk b w')) := by
  refine ct_of (by decide +kernel) rfl rfl (Nat.le_of_ble_eq_true rfl) ?_
  show Ev mX1_storeHearsAsking 2 0 [some (qR b 0), some (qI (nI s)), some (qI (nI t)), none] [] 124 (q_put h b (wblk b w)) 0 0 _ _
  refine e_aload0 dX1_storeHearsAsking_0 ?_
  refine e_iload1 dX1_storeHearsAsking_1 ?_
  refine e_iload2 dX1_storeHearsAsking_2 ?_
  refine e_vIF (M' := mX1_stateOf) fX1_stateOf lkX1_80 (w_stateOf h b w X hR (t := t) (s := s) ht hs) rfl rfl dX1_storeHearsAsking_3 rfl rfl (by decide) (Nat.le_of_ble_eq_true rfl) rfl ?_
  rintro _ _ ⟨rfl, rfl⟩
  refine e_if_neN 36 dX1_storeHearsAsking_6 (by decide) (by omega) (fun hc6 => ?_) (fun hc6 => ?_)
  · refine e_aload0 dX1_storeHearsAsking_36 ?_
    refine e_aload0 dX1_storeHearsAsking_37 ?_
    refine e_iload1 dX1_storeHearsAsking_38 ?_
    refine e_iload2 dX1_storeHearsAsking_39 ?_
    refine e_vIF (M' := mX1_stateOf) fX1_stateOf lkX1_80 (w_stateOf h b w X hR (t := t) (s := s) ht hs) rfl rfl dX1_storeHearsAsking_40 rfl rfl (by decide) (Nat.le_of_ble_eq_true rfl) rfl ?_
    rintro _ _ ⟨rfl, rfl⟩
    refine e_iconst (z := 3) dX1_storeHearsAsking_43 ?_
    refine e_icmp_neN 51 dX1_storeHearsAsking_44 (by decide) (by omega) (by omega) (fun hc44 => ?_) (fun hc44 => ?_)
    · refine e_iconst (z := 1) dX1_storeHearsAsking_51 ?_
      refine e_iload2 dX1_storeHearsAsking_52 ?_
      refine e_iconst (z := 1) dX1_storeHearsAsking_53 ?_
      refine e_iload1 dX1_storeHearsAsking_54 ?_
      refine e_ishl dX1_storeHearsAsking_55 ?_
      rw [b_one _ hs]
      refine e_vVF (M' := mX1_send) fX1_send lkX1_150 (w_send h b w _ hR (by first | exact hwn | (rw [m_become_wn]; exact hwn)) (kd := 1) (t := t) (mk := 2 ^ s) (by decide) ht (b_two s hs)) rfl rfl dX1_storeHearsAsking_56 rfl rfl (by decide) (Nat.le_of_ble_eq_true rfl) rfl ?_
      rintro _ ⟨w2, hR2, rfl⟩
      rw [m_sendN_one _ _ _ hs] at hR2
      refine e_vret dX1_storeHearsAsking_59 rfl ?_
      exact ⟨rfl, rfl, w2, by rw [m_ask, if_neg hc6, if_neg hc44]; exact hR2, rfl⟩
    · refine e_iconst (z := 2) dX1_storeHearsAsking_47 ?_
      refine e_goto 52 dX1_storeHearsAsking_48 (by decide) ?_
      refine e_iload2 dX1_storeHearsAsking_52 ?_
      refine e_iconst (z := 1) dX1_storeHearsAsking_53 ?_
      refine e_iload1 dX1_storeHearsAsking_54 ?_
      refine e_ishl dX1_storeHearsAsking_55 ?_
      rw [b_one _ hs]
      refine e_vVF (M' := mX1_send) fX1_send lkX1_150 (w_send h b w _ hR (by first | exact hwn | (rw [m_become_wn]; exact hwn)) (kd := 2) (t := t) (mk := 2 ^ s) (by decide) ht (b_two s hs)) rfl rfl dX1_storeHearsAsking_56 rfl rfl (by decide) (Nat.le_of_ble_eq_true rfl) rfl ?_
      rintro _ ⟨w2, hR2, rfl⟩
      rw [m_sendN_one _ _ _ hs] at hR2
      refine e_vret dX1_storeHearsAsking_59 rfl ?_
      exact ⟨rfl, rfl, w2, by rw [m_ask, if_neg hc6, if_pos hc44]; exact hR2, rfl⟩
  · refine e_aload0 dX1_storeHearsAsking_9 ?_
    refine e_iload1 dX1_storeHearsAsking_10 ?_
    refine e_aload0 dX1_storeHearsAsking_11 ?_
    refine e_iload2 dX1_storeHearsAsking_12 ?_
    refine e_iload1 dX1_storeHearsAsking_13 ?_
    refine e_vIF (M' := mX1_shareOf) fX1_shareOf lkX1_83 (w_shareOf h b w X hR (t := t) (s := s) ht hs) rfl rfl dX1_storeHearsAsking_14 rfl rfl (by decide) (Nat.le_of_ble_eq_true rfl) rfl ?_
    rintro _ _ ⟨rfl, rfl⟩
    refine e_vIF (M' := mX1_wouldTake) fX1_wouldTake lkX1_90 (w_wouldTake h b w X hR I (s := s) (sh := m_share X t s) hs) rfl rfl dX1_storeHearsAsking_17 rfl rfl (by decide) (Nat.le_of_ble_eq_true rfl) rfl ?_
    rintro _ _ ⟨rfl, rfl⟩
    generalize hB : m_would X s (m_share X t s) = B0
    have hb0 : B0.toNat < 2 := by cases B0 <;> decide
    refine e_istore3 dX1_storeHearsAsking_20 rfl (by decide) ?_
    refine e_aload0 dX1_storeHearsAsking_21 ?_
    refine e_iload1 dX1_storeHearsAsking_22 ?_
    refine e_iload3 dX1_storeHearsAsking_23 ?_
    refine e_if_eqN 31 dX1_storeHearsAsking_24 (by decide) (by omega) (fun hc24 => ?_) (fun hc24 => ?_)
    · have hB0 : B0 = false := by cases B0 <;> first | rfl | exact absurd hc24 (by decide)
      refine e_iconst (z := 2) dX1_storeHearsAsking_31 ?_
      refine e_iload2 dX1_storeHearsAsking_32 ?_
      refine e_vVF (M' := mX1_storeWrites) fX1_storeWrites lkX1_147 (w_storeWrites h b w X hR (s := s) (kd := 2) (t := t) hs (by decide) (by decide) ht (hl (by omega)) hL) rfl rfl dX1_storeHearsAsking_33 rfl rfl (by decide) (Nat.le_of_ble_eq_true rfl) rfl ?_
      rintro _ ⟨w1, hR1, rfl⟩
      rw [m_kds.2.2] at hR1
      refine e_aload0 dX1_storeHearsAsking_36 ?_
      refine e_aload0 dX1_storeHearsAsking_37 ?_
      refine e_iload1 dX1_storeHearsAsking_38 ?_
      refine e_iload2 dX1_storeHearsAsking_39 ?_
      refine e_vIF (M' := mX1_stateOf) fX1_stateOf lkX1_80 (w_stateOf h b w1 _ hR1 (t := t) (s := s) ht hs) rfl rfl dX1_storeHearsAsking_40 rfl rfl (by decide) (Nat.le_of_ble_eq_true rfl) rfl ?_
      rintro _ _ ⟨rfl, rfl⟩
      rw [m_become_st]
      refine e_iconst (z := 3) dX1_storeHearsAsking_43 ?_
      refine e_icmp_neN 51 dX1_storeHearsAsking_44 (by decide) (by omega) (by omega) (fun hc44 => ?_) (fun hc44 => ?_)
      · exact absurd hc44 (by decide)
      · refine e_iconst (z := 2) dX1_storeHearsAsking_47 ?_
        refine e_goto 52 dX1_storeHearsAsking_48 (by decide) ?_
        refine e_iload2 dX1_storeHearsAsking_52 ?_
        refine e_iconst (z := 1) dX1_storeHearsAsking_53 ?_
        refine e_iload1 dX1_storeHearsAsking_54 ?_
        refine e_ishl dX1_storeHearsAsking_55 ?_
        rw [b_one _ hs]
        refine e_vVF (M' := mX1_send) fX1_send lkX1_150 (w_send h b w1 _ hR1 (by first | exact hwn | (rw [m_become_wn]; exact hwn)) (kd := 2) (t := t) (mk := 2 ^ s) (by decide) ht (b_two s hs)) rfl rfl dX1_storeHearsAsking_56 rfl rfl (by decide) (Nat.le_of_ble_eq_true rfl) rfl ?_
        rintro _ ⟨w2, hR2, rfl⟩
        rw [m_sendN_one _ _ _ hs] at hR2
        refine e_vret dX1_storeHearsAsking_59 rfl ?_
        exact ⟨rfl, rfl, w2, by rw [m_ask, if_pos hc6, if_neg (by rw [hB, hB0]; decide)]; exact hR2, rfl⟩
    · have hB0 : B0 = true := by cases B0 <;> first | rfl | exact absurd hc24 (by decide)
      refine e_iconst (z := 4) dX1_storeHearsAsking_27 ?_
      refine e_goto 32 dX1_storeHearsAsking_28 (by decide) ?_
      refine e_iload2 dX1_storeHearsAsking_32 ?_
      refine e_vVF (M' := mX1_storeWrites) fX1_storeWrites lkX1_147 (w_storeWrites h b w X hR (s := s) (kd := 4) (t := t) hs (by decide) (by decide) ht (hl (by omega)) hL) rfl rfl dX1_storeHearsAsking_33 rfl rfl (by decide) (Nat.le_of_ble_eq_true rfl) rfl ?_
      rintro _ ⟨w1, hR1, rfl⟩
      rw [m_kds.1] at hR1
      refine e_aload0 dX1_storeHearsAsking_36 ?_
      refine e_aload0 dX1_storeHearsAsking_37 ?_
      refine e_iload1 dX1_storeHearsAsking_38 ?_
      refine e_iload2 dX1_storeHearsAsking_39 ?_
      refine e_vIF (M' := mX1_stateOf) fX1_stateOf lkX1_80 (w_stateOf h b w1 _ hR1 (t := t) (s := s) ht hs) rfl rfl dX1_storeHearsAsking_40 rfl rfl (by decide) (Nat.le_of_ble_eq_true rfl) rfl ?_
      rintro _ _ ⟨rfl, rfl⟩
      rw [m_become_st]
      refine e_iconst (z := 3) dX1_storeHearsAsking_43 ?_
      refine e_icmp_neN 51 dX1_storeHearsAsking_44 (by decide) (by omega) (by omega) (fun hc44 => ?_) (fun hc44 => ?_)
      · refine e_iconst (z := 1) dX1_storeHearsAsking_51 ?_
        refine e_iload2 dX1_storeHearsAsking_52 ?_
        refine e_iconst (z := 1) dX1_storeHearsAsking_53 ?_
        refine e_iload1 dX1_storeHearsAsking_54 ?_
        refine e_ishl dX1_storeHearsAsking_55 ?_
        rw [b_one _ hs]
        refine e_vVF (M' := mX1_send) fX1_send lkX1_150 (w_send h b w1 _ hR1 (by first | exact hwn | (rw [m_become_wn]; exact hwn)) (kd := 1) (t := t) (mk := 2 ^ s) (by decide) ht (b_two s hs)) rfl rfl dX1_storeHearsAsking_56 rfl rfl (by decide) (Nat.le_of_ble_eq_true rfl) rfl ?_
        rintro _ ⟨w2, hR2, rfl⟩
        rw [m_sendN_one _ _ _ hs] at hR2
        refine e_vret dX1_storeHearsAsking_59 rfl ?_
        exact ⟨rfl, rfl, w2, by rw [m_ask, if_pos hc6, if_pos (by rw [hB, hB0])]; exact hR2, rfl⟩
      · exact absurd hc44 (by decide)
/-- what the clerk does with a message -/
def m_hYes (X : qm) (t s : Nat) : qm := if X.1 7 t = 0 then (if X.1 5 t ||| 2 ^ s = m_part X t then m_decide (xs X 5 t (X.1 5 t ||| 2 ^ s)) t 1 else xs X 5 t (X.1 5 t ||| 2 ^ s)) else X
def m_hNo (X : qm) (t : Nat) : qm := if X.1 7 t = 0 then m_decide X t 2 else X
def m_hDone (X : qm) (t s : Nat) : qm := if X.1 6 t ||| 2 ^ s = m_part X t ∧ X.1 8 t = 0 then xs (m_write (xs X 6 t (X.1 6 t ||| 2 ^ s)) 4 3 t) 8 t 1 else xs X 6 t (X.1 6 t ||| 2 ^ s)
def m_hWhat (X : qm) (t s : Nat) : qm := if X.1 7 t = 0 then X else m_send X (2 + X.1 7 t) t s
def m_takesUp (X : qm) (t : Nat) : qm := if X.1 7 t = 0 then m_decide X t 2 else if X.1 8 t = 0 then m_sendN X (2 + X.1 7 t) t (m_part X t) 4 else X
set_option maxRecDepth 20000 in
set_option maxHeartbeats 4000000 in
theorem w_hearsYes (h : qB) (b : Fin 16) (w : qw) (X : qm) (hR : RelC w X) (I : Inv X) {t s : Nat} (ht : t < 8) (hs : s < 4) (hT : t < X.1 0 0) (hl : X.1 7 t = 0 → X.1 10 4 < 24) (hle : X.1 8 t = 0 → X.1 10 4 < 24) (hL : ∀ s, s < 5 → X.1 10 s ≤ 24) : CtV mX1_clerkHearsYes 2 [qR b 0, qI (nI s), qI (nI t)] (q_put h b (wblk b w)) (fun h2 => ∃ w', RelC w' (m_hYes X t s) ∧ h2 = q_put h b (wblk b w')) := by
  refine ct_of (by decide +kernel) rfl rfl (Nat.le_of_ble_eq_true rfl) ?_
  show Ev mX1_clerkHearsYes 2 0 [some (qR b 0), some (qI (nI s)), some (qI (nI t))] [] 124 (q_put h b (wblk b w)) 0 0 _ _
  refine e_aload0 dX1_clerkHearsYes_0 ?_
  refine e_getfieldF flX1_21 dX1_clerkHearsYes_1 rfl rfl ?_
  refine e_iload2 dX1_clerkHearsYes_4 ?_
  refine e_ialoadN dX1_clerkHearsYes_5 rfl (by omega) (by decide) ?_
  rw [rC4 hR _ ht]
  have ho := (iV4 I _ ht).2.2.2.2.2.1
  first | refine e_if_neN 42 dX1_clerkHearsYes_6 (by decide) (by omega) (fun hc6 => ?_) (fun hc6 => ?_) | refine e_if_ne 42 dX1_clerkHearsYes_6 (by decide) (fun hc6 => ?_) (fun hc6 => ?_)
  · refine e_vret dX1_clerkHearsYes_42 rfl ?_
    first
      | exact ⟨rfl, rfl, w2, by rw [m_hYes, if_pos hc6, if_pos hc33]; exact hR2, rfl⟩
      | exact ⟨rfl, rfl, w, by rw [m_hYes, if_neg hc6]; exact hR, rfl⟩
      | exact ⟨rfl, rfl, _, by rw [m_hYes, if_pos hc6, if_neg hc33]; exact relC_yes hR, rfl⟩
  · refine e_aload0 dX1_clerkHearsYes_9 ?_
    refine e_getfieldF flX1_24 dX1_clerkHearsYes_10 rfl rfl ?_
    refine e_iload2 dX1_clerkHearsYes_13 ?_
    refine e_dup2 dX1_clerkHearsYes_14 rfl rfl ?_
    refine e_ialoadN dX1_clerkHearsYes_15 rfl (by omega) (by decide) ?_
    refine e_iconst (z := 1) dX1_clerkHearsYes_16 ?_
    refine e_iload1 dX1_clerkHearsYes_17 ?_
    refine e_ishl dX1_clerkHearsYes_18 ?_
    refine e_ior dX1_clerkHearsYes_19 ?_
    rw [rC5 hR _ ht, b_or _ (iV4 I _ ht).2.2.2.1 _ hs]
    have hy := b_or4 _ (iV4 I _ ht).2.2.2.1 _ hs
    have hp := m_part_lt I ht
    refine e_iastoreN dX1_clerkHearsYes_20 rfl (by omega) (by decide) ?_
    refine e_aload0 dX1_clerkHearsYes_21 ?_
    refine e_getfieldF flX1_24 dX1_clerkHearsYes_22 rfl rfl ?_
    refine e_iload2 dX1_clerkHearsYes_25 ?_
    refine e_ialoadN dX1_clerkHearsYes_26 rfl (by omega) (by decide) ?_
    rw [upd_same]
    refine e_aload0 dX1_clerkHearsYes_27 ?_
    refine e_getfieldF flX1_15 dX1_clerkHearsYes_28 rfl rfl ?_
    refine e_iload2 dX1_clerkHearsYes_31 ?_
    refine e_ialoadN dX1_clerkHearsYes_32 rfl (by omega) (by decide) ?_
    rw [rC2 hR _ ht, if_pos hT]
    first | refine e_icmp_neN 42 dX1_clerkHearsYes_33 (by decide) (by omega) (by omega) (fun hc33 => ?_) (fun hc33 => ?_) | refine e_icmp_ne 42 dX1_clerkHearsYes_33 (by decide) (fun hc33 => ?_) (fun hc33 => ?_)
    · refine e_vret dX1_clerkHearsYes_42 rfl ?_
      first
        | exact ⟨rfl, rfl, w2, by rw [m_hYes, if_pos hc6, if_pos hc33]; exact hR2, rfl⟩
        | exact ⟨rfl, rfl, w, by rw [m_hYes, if_neg hc6]; exact hR, rfl⟩
        | exact ⟨rfl, rfl, _, by rw [m_hYes, if_pos hc6, if_neg hc33]; exact relC_yes hR, rfl⟩
    · refine e_aload0 dX1_clerkHearsYes_36 ?_
      refine e_iload2 dX1_clerkHearsYes_37 ?_
      refine e_iconst (z := 1) dX1_clerkHearsYes_38 ?_
      refine e_vVF (M' := mX1_decide) fX1_decide lkX1_156 (w_decide h b _ _ (relC_yes hR (t := t) (v := X.1 5 t ||| 2 ^ s)) (by have i2 := iV2 I; exact i2) (t := t) (oc := 1) ht hT (Or.inl rfl) hp (hl hc6) hL) rfl rfl dX1_clerkHearsYes_39 rfl rfl (by decide) (Nat.le_of_ble_eq_true rfl) rfl ?_
      rintro _ ⟨w2, hR2, rfl⟩
      refine e_vret dX1_clerkHearsYes_42 rfl ?_
      first
        | exact ⟨rfl, rfl, w2, by rw [m_hYes, if_pos hc6, if_pos hc33]; exact hR2, rfl⟩
        | exact ⟨rfl, rfl, w, by rw [m_hYes, if_neg hc6]; exact hR, rfl⟩
        | exact ⟨rfl, rfl, _, by rw [m_hYes, if_pos hc6, if_neg hc33]; exact relC_yes hR, rfl⟩
set_option maxRecDepth 20000 in
set_option maxHeartbeats 4000000 in
theorem w_hearsNo (h : qB) (b : Fin 16) (w : qw) (X : qm) (hR : RelC w X) (I : Inv X) {t : Nat} (ht : t < 8) (hT : t < X.1 0 0) (hl : X.1 7 t = 0 → X.1 10 4 < 24) (hle : X.1 8 t = 0 → X.1 10 4 < 24) (hL : ∀ s, s < 5 → X.1 10 s ≤ 24) : CtV mX1_clerkHearsNo 2 [qR b 0, qI (nI t)] (q_put h b (wblk b w)) (fun h2 => ∃ w', RelC w' (m_hNo X t) ∧ h2 = q_put h b (wblk b w')) := by
  refine ct_of (by decide +kernel) rfl rfl (Nat.le_of_ble_eq_true rfl) ?_
  show Ev mX1_clerkHearsNo 2 0 [some (qR b 0), some (qI (nI t))] [] 124 (q_put h b (wblk b w)) 0 0 _ _
  refine e_aload0 dX1_clerkHearsNo_0 ?_
  refine e_getfieldF flX1_21 dX1_clerkHearsNo_1 rfl rfl ?_
  refine e_iload1 dX1_clerkHearsNo_4 ?_
  refine e_ialoadN dX1_clerkHearsNo_5 rfl (by omega) (by decide) ?_
  rw [rC4 hR _ ht]
  have ho := (iV4 I _ ht).2.2.2.2.2.1
  first | refine e_if_neN 15 dX1_clerkHearsNo_6 (by decide) (by omega) (fun hc6 => ?_) (fun hc6 => ?_) | refine e_if_ne 15 dX1_clerkHearsNo_6 (by decide) (fun hc6 => ?_) (fun hc6 => ?_)
  · refine e_vret dX1_clerkHearsNo_15 rfl ?_
    first
      | exact ⟨rfl, rfl, w2, by rw [m_hNo, if_pos hc6]; exact hR2, rfl⟩
      | exact ⟨rfl, rfl, w, by rw [m_hNo, if_neg hc6]; exact hR, rfl⟩
  · refine e_aload0 dX1_clerkHearsNo_9 ?_
    refine e_iload1 dX1_clerkHearsNo_10 ?_
    refine e_iconst (z := 2) dX1_clerkHearsNo_11 ?_
    refine e_vVF (M' := mX1_decide) fX1_decide lkX1_156 (w_decide h b w X hR (iV2 I) (t := t) (oc := 2) ht hT (Or.inr rfl) (m_part_lt I ht) (hl hc6) hL) rfl rfl dX1_clerkHearsNo_12 rfl rfl (by decide) (Nat.le_of_ble_eq_true rfl) rfl ?_
    rintro _ ⟨w2, hR2, rfl⟩
    refine e_vret dX1_clerkHearsNo_15 rfl ?_
    first
      | exact ⟨rfl, rfl, w2, by rw [m_hNo, if_pos hc6]; exact hR2, rfl⟩
      | exact ⟨rfl, rfl, w, by rw [m_hNo, if_neg hc6]; exact hR, rfl⟩
theorem m_mask8_up {X : qm} (I : Inv X) {t : Nat} (ht : t < 8) : m_mask8 (xs X 8 t 1) = m_mask8 X + (1 - m_mask8 X / 2 ^ t % 2) * 2 ^ t := by
  rw [(m_mask8_lt I).2 t ht]
  have h0 := (iV4 I t ht).2.2.2.2.2.2
  unfold m_mask8
  rcases (show t = 0 ∨ t = 1 ∨ t = 2 ∨ t = 3 ∨ t = 4 ∨ t = 5 ∨ t = 6 ∨ t = 7 by omega) with rfl | rfl | rfl | rfl | rfl | rfl | rfl | rfl <;> simp [xs] <;> omega
theorem relC_ended {w : qw} {X Y : qm} (hR : RelC w Y) {t : Nat} {x : Int32} (hx : x = nI (m_mask8 (xs Y 8 t 1))) : RelC (wt w 7 (fun _ => x)) (xs Y 8 t 1) := by
  subst hx
  exact ⟨by simpa [wt, xs, m_part, m_share, m_mask5] using rC0 hR, by simpa [wt, xs, m_part, m_share, m_mask5] using rC1 hR, by simpa [wt, xs, m_part, m_share, m_mask5] using rC2 hR, by simpa [wt, xs, m_part, m_share, m_mask5] using rC3 hR, by simpa [wt, xs, m_part, m_share, m_mask5] using rC4 hR, by simpa [wt, xs, m_part, m_share, m_mask5] using rC5 hR, by simpa [wt, xs, m_part, m_share, m_mask5] using rC6 hR, by simp [wt], by simpa [wt, xs, m_part, m_share, m_mask5] using rC8 hR, by simpa [wt, xs, m_part, m_share, m_mask5] using rC9 hR, by simpa [wt, xs, m_part, m_share, m_mask5] using rC10 hR, by simpa [wt, xs, m_part, m_share, m_mask5] using rC11 hR, by simpa [wt, xs, m_part, m_share, m_mask5] using rC12 hR, by simpa [wt, xs, m_part, m_share, m_mask5] using rC13 hR, by simpa [wt, xs, m_part, m_share, m_mask5] using rC14 hR, by simpa [wt, xs, m_part, m_share, m_mask5] using rC15 hR, by simpa [wt, xs, m_part, m_share, m_mask5] using rC16 hR, by simpa [wt, xs, m_part, m_share, m_mask5] using rC17 hR⟩
set_option maxRecDepth 20000 in
set_option maxHeartbeats 4000000 in
theorem w_hearsDone (h : qB) (b : Fin 16) (w : qw) (X : qm) (hR : RelC w X) (I : Inv X) {t s : Nat} (ht : t < 8) (hs : s < 4) (hT : t < X.1 0 0) (hl : X.1 7 t = 0 → X.1 10 4 < 24) (hle : X.1 8 t = 0 → X.1 10 4 < 24) (hL : ∀ s, s < 5 → X.1 10 s ≤ 24) : CtV mX1_clerkHearsDone 2 [qR b 0, qI (nI s), qI (nI t)] (q_put h b (wblk b w)) (fun h2 => ∃ w', RelC w' (m_hDone X t s) ∧ h2 = q_put h b (wblk b w')) := by
  refine ct_of (by decide +kernel) rfl rfl (Nat.le_of_ble_eq_true rfl) ?_
  show Ev mX1_clerkHearsDone 2 0 [some (qR b 0), some (qI (nI s)), some (qI (nI t))] [] 124 (q_put h b (wblk b w)) 0 0 _ _
  refine e_aload0 dX1_clerkHearsDone_0 ?_
  refine e_getfieldF flX1_27 dX1_clerkHearsDone_1 rfl rfl ?_
  refine e_iload2 dX1_clerkHearsDone_4 ?_
  refine e_dup2 dX1_clerkHearsDone_5 rfl rfl ?_
  refine e_ialoadN dX1_clerkHearsDone_6 rfl (by omega) (by decide) ?_
  refine e_iconst (z := 1) dX1_clerkHearsDone_7 ?_
  refine e_iload1 dX1_clerkHearsDone_8 ?_
  refine e_ishl dX1_clerkHearsDone_9 ?_
  refine e_ior dX1_clerkHearsDone_10 ?_
  rw [rC6 hR _ ht, b_or _ (iV4 I _ ht).2.2.2.2.1 _ hs]
  have hy := b_or4 _ (iV4 I _ ht).2.2.2.2.1 _ hs
  have hp := m_part_lt I ht
  refine e_iastoreN dX1_clerkHearsDone_11 rfl (by omega) (by decide) ?_
  refine e_aload0 dX1_clerkHearsDone_12 ?_
  refine e_getfieldF flX1_27 dX1_clerkHearsDone_13 rfl rfl ?_
  refine e_iload2 dX1_clerkHearsDone_16 ?_
  refine e_ialoadN dX1_clerkHearsDone_17 rfl (by omega) (by decide) ?_
  rw [upd_same]
  refine e_aload0 dX1_clerkHearsDone_18 ?_
  refine e_getfieldF flX1_15 dX1_clerkHearsDone_19 rfl rfl ?_
  refine e_iload2 dX1_clerkHearsDone_22 ?_
  refine e_ialoadN dX1_clerkHearsDone_23 rfl (by omega) (by decide) ?_
  rw [rC2 hR _ ht, if_pos hT]
  first | refine e_icmp_neN 54 dX1_clerkHearsDone_24 (by decide) (by omega) (by omega) (fun hc24 => ?_) (fun hc24 => ?_) | refine e_icmp_ne 54 dX1_clerkHearsDone_24 (by decide) (fun hc24 => ?_) (fun hc24 => ?_)
  · refine e_vret dX1_clerkHearsDone_54 rfl ?_
    first
      | exact ⟨rfl, rfl, _, by rw [m_hDone, if_pos ⟨hc24, (by cases B0 <;> simp at hB hc32 <;> omega)⟩]; exact relC_ended (X := X) hR2 rfl, rfl⟩
      | exact ⟨rfl, rfl, _, by rw [m_hDone, if_neg (by rintro ⟨a, a2⟩; first | exact hc24 a | (cases B0 <;> simp at hB hc32 <;> omega))]; exact relC_done hR, rfl⟩
  · refine e_aload0 dX1_clerkHearsDone_27 ?_
    refine e_iload2 dX1_clerkHearsDone_28 ?_
    refine e_vIF (M' := mX1_isOver) fX1_isOver lkX1_159 (w_isOver h b _ _ (relC_done hR (t := t) (v := X.1 6 t ||| 2 ^ s)) (fun k hk => (iV4 I k hk).2.2.2.2.2.2) (k := t) ht) rfl rfl dX1_clerkHearsDone_29 rfl rfl (by decide) (Nat.le_of_ble_eq_true rfl) rfl ?_
    rintro _ _ ⟨rfl, rfl⟩
    have he := (iV4 I _ ht).2.2.2.2.2.2
    rw [show (xs X 6 t (X.1 6 t ||| 2 ^ s)).1 8 t = X.1 8 t from rfl]
    generalize hB : decide (X.1 8 t = 1) = B0
    have hb0 : B0.toNat < 2 := by cases B0 <;> decide
    first | refine e_if_neN 54 dX1_clerkHearsDone_32 (by decide) (by omega) (fun hc32 => ?_) (fun hc32 => ?_) | refine e_if_ne 54 dX1_clerkHearsDone_32 (by decide) (fun hc32 => ?_) (fun hc32 => ?_)
    · refine e_vret dX1_clerkHearsDone_54 rfl ?_
      first
        | exact ⟨rfl, rfl, _, by rw [m_hDone, if_pos ⟨hc24, (by cases B0 <;> simp at hB hc32 <;> omega)⟩]; exact relC_ended (X := X) hR2 rfl, rfl⟩
        | exact ⟨rfl, rfl, _, by rw [m_hDone, if_neg (by rintro ⟨a, a2⟩; first | exact hc24 a | (cases B0 <;> simp at hB hc32 <;> omega))]; exact relC_done hR, rfl⟩
    · refine e_aload0 dX1_clerkHearsDone_35 ?_
      refine e_iconst (z := 4) dX1_clerkHearsDone_36 ?_
      refine e_iconst (z := 3) dX1_clerkHearsDone_37 ?_
      refine e_iload2 dX1_clerkHearsDone_38 ?_
      refine e_vVF (M' := mX1_write) fX1_write lkX1_140 (w_write h b _ _ (relC_done hR (t := t) (v := X.1 6 t ||| 2 ^ s)) (s := 4) (kd := 3) (t := t) (by decide) (by decide) ht (hle (by cases B0 <;> simp at hB hc32 <;> omega)) hL) rfl rfl dX1_clerkHearsDone_39 rfl rfl (by decide) (Nat.le_of_ble_eq_true rfl) rfl ?_
      rintro _ ⟨w2, hR2, rfl⟩
      refine e_aload0 dX1_clerkHearsDone_42 ?_
      refine e_dup dX1_clerkHearsDone_43 rfl ?_
      refine e_getfieldF flX1_58 dX1_clerkHearsDone_44 rfl rfl ?_
      refine e_iconst (z := 1) dX1_clerkHearsDone_47 ?_
      refine e_iload2 dX1_clerkHearsDone_48 ?_
      refine e_ishl dX1_clerkHearsDone_49 ?_
      refine e_ior dX1_clerkHearsDone_50 ?_
      rw [rC7 hR2, show m_mask8 (m_write (xs X 6 t (X.1 6 t ||| 2 ^ s)) 4 3 t) = m_mask8 X from rfl, b_ee _ (m_mask8_lt I).1 _ ht, ← m_mask8_up I ht]
      refine e_putfieldF flX1_58 dX1_clerkHearsDone_51 rfl (Nat.le_of_ble_eq_true rfl) (fun _ => rfl) (fun _ => rfl) ?_
      refine e_vret dX1_clerkHearsDone_54 rfl ?_
      first
        | exact ⟨rfl, rfl, _, by rw [m_hDone, if_pos ⟨hc24, (by cases B0 <;> simp at hB hc32 <;> omega)⟩]; exact relC_ended (X := X) hR2 rfl, rfl⟩
        | exact ⟨rfl, rfl, _, by rw [m_hDone, if_neg (by rintro ⟨a, a2⟩; first | exact hc24 a | (cases B0 <;> simp at hB hc32 <;> omega))]; exact relC_done hR, rfl⟩
set_option maxRecDepth 20000 in
set_option maxHeartbeats 4000000 in
theorem w_hearsWhat (h : qB) (b : Fin 16) (w : qw) (X : qm) (hR : RelC w X) (I : Inv X) {t s : Nat} (ht : t < 8) (hs : s < 4) (hT : t < X.1 0 0) (hl : X.1 7 t = 0 → X.1 10 4 < 24) (hle : X.1 8 t = 0 → X.1 10 4 < 24) (hL : ∀ s, s < 5 → X.1 10 s ≤ 24) : CtV mX1_clerkHearsWhatNow 2 [qR b 0, qI (nI s), qI (nI t)] (q_put h b (wblk b w)) (fun h2 => ∃ w', RelC w' (m_hWhat X t s) ∧ h2 = q_put h b (wblk b w')) := by
  refine ct_of (by decide +kernel) rfl rfl (Nat.le_of_ble_eq_true rfl) ?_
  show Ev mX1_clerkHearsWhatNow 2 0 [some (qR b 0), some (qI (nI s)), some (qI (nI t))] [] 124 (q_put h b (wblk b w)) 0 0 _ _
  refine e_aload0 dX1_clerkHearsWhatNow_0 ?_
  refine e_getfieldF flX1_21 dX1_clerkHearsWhatNow_1 rfl rfl ?_
  refine e_iload2 dX1_clerkHearsWhatNow_4 ?_
  refine e_ialoadN dX1_clerkHearsWhatNow_5 rfl (by omega) (by decide) ?_
  rw [rC4 hR _ ht]
  have ho := (iV4 I _ ht).2.2.2.2.2.1
  first | refine e_if_eqN 22 dX1_clerkHearsWhatNow_6 (by decide) (by omega) (fun hc6 => ?_) (fun hc6 => ?_) | refine e_if_eq 22 dX1_clerkHearsWhatNow_6 (by decide) (fun hc6 => ?_) (fun hc6 => ?_)
  · refine e_vret dX1_clerkHearsWhatNow_22 rfl ?_
    first
      | exact ⟨rfl, rfl, w2, by rw [m_hWhat, if_neg hc6]; exact hR2, rfl⟩
      | exact ⟨rfl, rfl, w, by rw [m_hWhat, if_pos hc6]; exact hR, rfl⟩
  · refine e_aload0 dX1_clerkHearsWhatNow_9 ?_
    refine e_aload0 dX1_clerkHearsWhatNow_10 ?_
    refine e_iload2 dX1_clerkHearsWhatNow_11 ?_
    refine e_vIF (M' := mX1_orderFor) fX1_orderFor lkX1_153 (w_orderFor h b w X hR (t := t) ht (by omega)) rfl rfl dX1_clerkHearsWhatNow_12 rfl rfl (by decide) (Nat.le_of_ble_eq_true rfl) rfl ?_
    rintro _ _ ⟨rfl, rfl⟩
    refine e_iload2 dX1_clerkHearsWhatNow_15 ?_
    refine e_iconst (z := 1) dX1_clerkHearsWhatNow_16 ?_
    refine e_iload1 dX1_clerkHearsWhatNow_17 ?_
    refine e_ishl dX1_clerkHearsWhatNow_18 ?_
    rw [b_one _ hs]
    refine e_vVF (M' := mX1_send) fX1_send lkX1_150 (w_send h b w X hR (iV2 I) (kd := 2 + X.1 7 t) (t := t) (mk := 2 ^ s) (by omega) ht (b_two s hs)) rfl rfl dX1_clerkHearsWhatNow_19 rfl rfl (by decide) (Nat.le_of_ble_eq_true rfl) rfl ?_
    rintro _ ⟨w2, hR2, rfl⟩
    rw [m_sendN_one _ _ _ hs] at hR2
    refine e_vret dX1_clerkHearsWhatNow_22 rfl ?_
    first
      | exact ⟨rfl, rfl, w2, by rw [m_hWhat, if_neg hc6]; exact hR2, rfl⟩
      | exact ⟨rfl, rfl, w, by rw [m_hWhat, if_pos hc6]; exact hR, rfl⟩
set_option maxRecDepth 20000 in
set_option maxHeartbeats 4000000 in
theorem w_takesUp (h : qB) (b : Fin 16) (w : qw) (X : qm) (hR : RelC w X) (I : Inv X) {t : Nat} (ht : t < 8) (hT : t < X.1 0 0) (hl : X.1 7 t = 0 → X.1 10 4 < 24) (hle : X.1 8 t = 0 → X.1 10 4 < 24) (hL : ∀ s, s < 5 → X.1 10 s ≤ 24) : CtV mX1_clerkTakesUp 2 [qR b 0, qI (nI t)] (q_put h b (wblk b w)) (fun h2 => ∃ w', RelC w' (m_takesUp X t) ∧ h2 = q_put h b (wblk b w')) := by
  refine ct_of (by decide +kernel) rfl rfl (Nat.le_of_ble_eq_true rfl) ?_
  show Ev mX1_clerkTakesUp 2 0 [some (qR b 0), some (qI (nI t))] [] 124 (q_put h b (wblk b w)) 0 0 _ _
  refine e_aload0 dX1_clerkTakesUp_0 ?_
  refine e_getfieldF flX1_21 dX1_clerkTakesUp_1 rfl rfl ?_
  refine e_iload1 dX1_clerkTakesUp_4 ?_
  refine e_ialoadN dX1_clerkTakesUp_5 rfl (by omega) (by decide) ?_
  rw [rC4 hR _ ht]
  have ho := (iV4 I _ ht).2.2.2.2.2.1
  first | refine e_if_neN 18 dX1_clerkTakesUp_6 (by decide) (by omega) (fun hc6 => ?_) (fun hc6 => ?_) | refine e_if_ne 18 dX1_clerkTakesUp_6 (by decide) (fun hc6 => ?_) (fun hc6 => ?_)
  · refine e_aload0 dX1_clerkTakesUp_18 ?_
    refine e_iload1 dX1_clerkTakesUp_19 ?_
    refine e_vIF (M' := mX1_isOver) fX1_isOver lkX1_159 (w_isOver h b w X hR (fun k hk => (iV4 I k hk).2.2.2.2.2.2) (k := t) ht) rfl rfl dX1_clerkTakesUp_20 rfl rfl (by decide) (Nat.le_of_ble_eq_true rfl) rfl ?_
    rintro _ _ ⟨rfl, rfl⟩
    have he := (iV4 I _ ht).2.2.2.2.2.2
    generalize hB : decide (X.1 8 t = 1) = B0
    have hb0 : B0.toNat < 2 := by cases B0 <;> decide
    first | refine e_if_neN 42 dX1_clerkTakesUp_23 (by decide) (by omega) (fun hc23 => ?_) (fun hc23 => ?_) | refine e_if_ne 42 dX1_clerkTakesUp_23 (by decide) (fun hc23 => ?_) (fun hc23 => ?_)
    · refine e_vret dX1_clerkTakesUp_42 rfl ?_
      first
        | exact ⟨rfl, rfl, w2, by rw [m_takesUp, if_pos hc6]; exact hR2, rfl⟩
        | exact ⟨rfl, rfl, w2, by rw [m_takesUp, if_neg hc6, if_pos (by cases B0 <;> simp at hB hc23 <;> omega)]; exact hR2, rfl⟩
        | exact ⟨rfl, rfl, w, by rw [m_takesUp, if_neg hc6, if_neg (by cases B0 <;> simp at hB hc23 <;> omega)]; exact hR, rfl⟩
    · refine e_aload0 dX1_clerkTakesUp_26 ?_
      refine e_aload0 dX1_clerkTakesUp_27 ?_
      refine e_iload1 dX1_clerkTakesUp_28 ?_
      refine e_vIF (M' := mX1_orderFor) fX1_orderFor lkX1_153 (w_orderFor h b w X hR (t := t) ht (by omega)) rfl rfl dX1_clerkTakesUp_29 rfl rfl (by decide) (Nat.le_of_ble_eq_true rfl) rfl ?_
      rintro _ _ ⟨rfl, rfl⟩
      refine e_iload1 dX1_clerkTakesUp_32 ?_
      refine e_aload0 dX1_clerkTakesUp_33 ?_
      refine e_getfieldF flX1_15 dX1_clerkTakesUp_34 rfl rfl ?_
      refine e_iload1 dX1_clerkTakesUp_37 ?_
      refine e_ialoadN dX1_clerkTakesUp_38 rfl (by omega) (by decide) ?_
      rw [rC2 hR _ ht, if_pos hT]
      refine e_vVF (M' := mX1_send) fX1_send lkX1_150 (w_send h b w X hR (iV2 I) (kd := 2 + X.1 7 t) (t := t) (mk := m_part X t) (by omega) ht (m_part_lt I ht)) rfl rfl dX1_clerkTakesUp_39 rfl rfl (by decide) (Nat.le_of_ble_eq_true rfl) rfl ?_
      rintro _ ⟨w2, hR2, rfl⟩
      refine e_vret dX1_clerkTakesUp_42 rfl ?_
      first
        | exact ⟨rfl, rfl, w2, by rw [m_takesUp, if_pos hc6]; exact hR2, rfl⟩
        | exact ⟨rfl, rfl, w2, by rw [m_takesUp, if_neg hc6, if_pos (by cases B0 <;> simp at hB hc23 <;> omega)]; exact hR2, rfl⟩
        | exact ⟨rfl, rfl, w, by rw [m_takesUp, if_neg hc6, if_neg (by cases B0 <;> simp at hB hc23 <;> omega)]; exact hR, rfl⟩
  · refine e_aload0 dX1_clerkTakesUp_9 ?_
    refine e_iload1 dX1_clerkTakesUp_10 ?_
    refine e_iconst (z := 2) dX1_clerkTakesUp_11 ?_
    refine e_vVF (M' := mX1_decide) fX1_decide lkX1_156 (w_decide h b w X hR (iV2 I) (t := t) (oc := 2) ht hT (Or.inr rfl) (m_part_lt I ht) (hl hc6) hL) rfl rfl dX1_clerkTakesUp_12 rfl rfl (by decide) (Nat.le_of_ble_eq_true rfl) rfl ?_
    rintro _ ⟨w2, hR2, rfl⟩
    refine e_goto 42 dX1_clerkTakesUp_15 (by decide) ?_
    refine e_vret dX1_clerkTakesUp_42 rfl ?_
    first
      | exact ⟨rfl, rfl, w2, by rw [m_takesUp, if_pos hc6]; exact hR2, rfl⟩
      | exact ⟨rfl, rfl, w2, by rw [m_takesUp, if_neg hc6, if_pos (by cases B0 <;> simp at hB hc23 <;> omega)]; exact hR2, rfl⟩
      | exact ⟨rfl, rfl, w, by rw [m_takesUp, if_neg hc6, if_neg (by cases B0 <;> simp at hB hc23 <;> omega)]; exact hR, rfl⟩
