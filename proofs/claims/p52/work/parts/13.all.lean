def m_all (X : qm) (f to sz : Nat) : Nat → Bool
  | 0 => true
  | n + 1 => m_all X f to sz n && (decide (m_sh f to sz n = 0) || m_would X n (m_sh f to sz n))
theorem m_all_mono (X : qm) (f to sz : Nat) {n k : Nat} (h : m_all X f to sz n = false) (hk : n ≤ k) : m_all X f to sz k = false := by
  induction k with
  | zero => rw [show n = 0 by omega] at h; exact h
  | succ k ih =>
    rcases Nat.lt_or_ge n (k + 1) with q | q
    · simp [m_all, ih (by omega)]
    · rw [show n = k + 1 by omega] at h; exact h
set_option maxRecDepth 20000 in
set_option maxHeartbeats 4000000 in
theorem w_allWouldTake (h : qB) (b : Fin 16) (w : qw) (X : qm) (hR : RelC w X) (I : Inv X) {f to sz : Nat} (hf : f < 4) (hto : to < 16) : CtI mX1_allWouldTake 2 [qR b 0, qI (nI f), qI (nI to), qI (nI sz)] (q_put h b (wblk b w)) (fun r h2 => r = q_b (m_all X f to sz 4) ∧ h2 = q_put h b (wblk b w)) := by
  refine ct_of (by decide +kernel) rfl rfl (Nat.le_of_ble_eq_true rfl) ?_
  show Ev mX1_allWouldTake 2 0 [some (qR b 0), some (qI (nI f)), some (qI (nI to)), some (qI (nI sz)), none, none] [] 124 (q_put h b (wblk b w)) 0 0 _ _
  refine e_iconst (z := 0) dX1_allWouldTake_0 ?_
  refine e_istore4 dX1_allWouldTake_1 rfl (by decide) ?_
  have H : ∀ (m i : Nat), i ≤ 4 → m = 4 - i → m_all X f to sz i = true → Ev mX1_allWouldTake 2 3 [some (qR b 0), some (qI (nI f)), some (qI (nI to)), some (qI (nI sz)), some (qI (nI i)), none] [] 124 (q_put h b (wblk b w)) 0 0 (fun r n h' => ∃ x, r = some (qI x) ∧ n = 124 ∧ ((fun r h2 => r = q_b (m_all X f to sz 4) ∧ h2 = q_put h b (wblk b w))) x h') qNo := by
    intro m
    induction m using Nat.strongRecOn with
    | _ m ih =>
    intro i hi hm hv
    refine e_iload4 dX1_allWouldTake_3 ?_
    refine e_iconst (z := 4) dX1_allWouldTake_5 ?_
    first | refine e_icmp_geN 43 dX1_allWouldTake_6 (by decide) (by omega) (by omega) (fun hc6 => ?_) (fun hc6 => ?_) | refine e_icmp_ge 43 dX1_allWouldTake_6 (by decide) (fun hc6 => ?_) (fun hc6 => ?_)
    · obtain rfl : i = 4 := by omega
      refine e_iconst (z := 1) dX1_allWouldTake_43 ?_
      refine e_zret dX1_allWouldTake_44 rfl (by first | rfl | exact q_nar _) ?_
      exact ⟨_, rfl, rfl, q_b1 hv, rfl⟩
    · refine e_iload1 dX1_allWouldTake_9 ?_
      refine e_iload2 dX1_allWouldTake_10 ?_
      refine e_iload3 dX1_allWouldTake_11 ?_
      refine e_iload4 dX1_allWouldTake_12 ?_
      refine e_nI (M' := mX2_shareIn) fX2_shareIn lkX1_86 (w_shareIn (q_put h b (wblk b w)) (f := f) (to := to) (sz := sz) (s := i) hf hto (by omega)) rfl rfl dX1_allWouldTake_14 (by decide) (Nat.le_of_ble_eq_true rfl) rfl ?_
      rintro _ _ ⟨rfl, rfl⟩
      refine e_istore5 dX1_allWouldTake_17 rfl (by decide) ?_
      refine e_iload5 dX1_allWouldTake_19 ?_
      first | refine e_if_eqN 37 dX1_allWouldTake_21 (by decide) (by omega) (fun hc21 => ?_) (fun hc21 => ?_) | refine e_if_eq 37 dX1_allWouldTake_21 (by decide) (fun hc21 => ?_) (fun hc21 => ?_)
      · first | refine e_iinc4N (z := 1) dX1_allWouldTake_37 rfl (by decide) ?_ | refine e_iinc4 dX1_allWouldTake_37 rfl rfl (by decide) ?_
        refine e_goto 3 dX1_allWouldTake_40 (by decide) ?_
        refine e_drop5 ?_
        exact ih _ (by omega) (i + 1) (by omega) rfl (by first | (simp [m_all, hv, hc21]; done) | (cases B0 <;> simp_all [m_all]; done))
      · refine e_aload0 dX1_allWouldTake_24 ?_
        refine e_iload4 dX1_allWouldTake_25 ?_
        refine e_iload5 dX1_allWouldTake_27 ?_
        refine e_vIF (M' := mX1_wouldTake) fX1_wouldTake lkX1_90 (w_wouldTake h b w X hR I (s := i) (sh := m_sh f to sz i) (by omega)) rfl rfl dX1_allWouldTake_29 rfl rfl (by decide) (Nat.le_of_ble_eq_true rfl) rfl ?_
        rintro _ _ ⟨rfl, rfl⟩
        generalize hB : m_would X i (m_sh f to sz i) = B0
        have hb0 : B0.toNat < 2 := by cases B0 <;> decide
        first | refine e_if_neN 37 dX1_allWouldTake_32 (by decide) (by omega) (fun hc32 => ?_) (fun hc32 => ?_) | refine e_if_ne 37 dX1_allWouldTake_32 (by decide) (fun hc32 => ?_) (fun hc32 => ?_)
        · first | refine e_iinc4N (z := 1) dX1_allWouldTake_37 rfl (by decide) ?_ | refine e_iinc4 dX1_allWouldTake_37 rfl rfl (by decide) ?_
          refine e_goto 3 dX1_allWouldTake_40 (by decide) ?_
          refine e_drop5 ?_
          exact ih _ (by omega) (i + 1) (by omega) rfl (by first | (simp [m_all, hv, hc21]; done) | (cases B0 <;> simp_all [m_all]; done))
        · refine e_iconst (z := 0) dX1_allWouldTake_35 ?_
          refine e_zret dX1_allWouldTake_36 rfl (by first | rfl | exact q_nar _) ?_
          refine ⟨_, rfl, rfl, q_b0 ?_, rfl⟩
          have hB0 : B0 = false := by cases B0 <;> simp_all
          have h1 : m_all X f to sz (i + 1) = false := by simp [m_all, hc21, hB, hB0]
          exact m_all_mono X f to sz h1 (by omega)
  exact H _ 0 (Nat.zero_le _) rfl rfl
