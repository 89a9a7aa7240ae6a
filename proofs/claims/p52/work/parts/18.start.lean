/-! A TRANSFER IS BEGUN; A WORLD IS COPIED -/
theorem relC_begin {w : qw} {X : qm} (hR : RelC w X) {f to sz : Nat} (hT : X.1 0 0 < 8) {g : Nat → Int32} (hg : ∀ s t, s < 4 → t < 8 → g (s * 8 + t) = if t = X.1 0 0 then m_sh f to sz s else w 3 (s * 8 + t)) : RelC (wt (wt (wt (wt w 1 (upd (w 1) (X.1 0 0) (nI sz))) 2 (upd (w 2) (X.1 0 0) (nI (to ||| 2 ^ f)))) 3 g) 0 (fun _ => nI (X.1 0 0 + 1))) (xs (xs (xs (xs X 0 0 (X.1 0 0 + 1)) 2 (X.1 0 0) f) 3 (X.1 0 0) to) 4 (X.1 0 0) sz) := by
  exact ⟨by simp [wt, xs], fun t ht => by
      have h3 := rC1 hR t ht
      by_cases q : t = X.1 0 0
      · simp [wt, xs, upd, q]
      · simp [wt, xs, upd, q, h3], fun t ht => by
      have h3 := rC2 hR t ht
      by_cases q : t = X.1 0 0
      · simp [wt, xs, upd, q, m_part]
      · by_cases q2 : t < X.1 0 0
        · have : t < X.1 0 0 + 1 := by omega
          simp [wt, xs, upd, q, m_part, h3, q2, this]
        · have : ¬ t < X.1 0 0 + 1 := by omega
          simp [wt, xs, upd, q, m_part, h3, q2, this], fun s t hs ht => by
      have h3 := rC3 hR s t hs ht
      show g (s * 8 + t) = _
      rw [hg s t hs ht]
      by_cases q : t = X.1 0 0
      · simp [m_share, xs, q]
      · simp [m_share, xs, q, h3], by simpa [wt, xs, m_mask5, m_mask8] using rC4 hR, by simpa [wt, xs, m_mask5, m_mask8] using rC5 hR, by simpa [wt, xs, m_mask5, m_mask8] using rC6 hR, by simpa [wt, xs, m_mask5, m_mask8] using rC7 hR, by simpa [wt, xs, m_mask5, m_mask8] using rC8 hR, by simpa [wt, xs, m_mask5, m_mask8] using rC9 hR, by simpa [wt, xs, m_mask5, m_mask8] using rC10 hR, by simpa [wt, xs, m_mask5, m_mask8] using rC11 hR, by simpa [wt, xs, m_mask5, m_mask8] using rC12 hR, by simpa [wt, xs, m_mask5, m_mask8] using rC13 hR, by simpa [wt, xs, m_mask5, m_mask8] using rC14 hR, by simpa [wt, xs, m_mask5, m_mask8] using rC15 hR, by simpa [wt, xs, m_mask5, m_mask8] using rC16 hR, by simpa [wt, xs, m_mask5, m_mask8] using rC17 hR⟩
set_option maxRecDepth 20000 in
set_option maxHeartbeats 4000000 in
theorem w_start (h : qB) (b : Fin 16) (w : qw) (X : qm) (hR : RelC w X) (hJ : J X) {f to sz : Nat} (hT : X.1 0 0 < 8) (hf : f < 4) (hto : to < 16) : CtI mX1_start 2 [qR b 0, qI (nI f), qI (nI to), qI (nI sz)] (q_put h b (wblk b w)) (fun r h2 => r = nI (X.1 0 0) ∧ ∃ w', RelC w' (m_begin X f to sz) ∧ h2 = q_put h b (wblk b w')) := by
  refine ct_of (by decide +kernel) rfl rfl (Nat.le_of_ble_eq_true rfl) ?_
  show Ev mX1_start 2 0 [some (qR b 0), some (qI (nI f)), some (qI (nI to)), some (qI (nI sz)), none, none] [] 124 (q_put h b (wblk b w)) 0 0 _ _
  refine e_aload0 dX1_start_0 ?_
  refine e_getfieldF flX1_49 dX1_start_1 rfl rfl ?_
  rw [rC0 hR]
  refine e_istore4 dX1_start_4 rfl (by decide) ?_
  refine e_aload0 dX1_start_6 ?_
  refine e_getfieldF flX1_9 dX1_start_7 rfl rfl ?_
  refine e_iload4 dX1_start_10 ?_
  refine e_iload3 dX1_start_12 ?_
  refine e_iastoreN dX1_start_13 rfl (by omega) (by decide) ?_
  refine e_aload0 dX1_start_14 ?_
  refine e_getfieldF flX1_15 dX1_start_15 rfl rfl ?_
  refine e_iload4 dX1_start_18 ?_
  refine e_iload2 dX1_start_20 ?_
  refine e_iconst (z := 1) dX1_start_21 ?_
  refine e_iload1 dX1_start_22 ?_
  refine e_ishl dX1_start_23 ?_
  refine e_ior dX1_start_24 ?_
  rw [b_or _ hto _ hf]
  refine e_iastoreN dX1_start_25 rfl (by omega) (by decide) ?_
  refine e_iconst (z := 0) dX1_start_26 ?_
  refine e_istore5 dX1_start_27 rfl (by decide) ?_
  have H : ∀ (m i : Nat) (g : Nat → Int32), i ≤ 4 → m = 4 - i → (∀ s t, s < 4 → t < 8 → g (s * 8 + t) = if t = X.1 0 0 ∧ s < i then m_sh f to sz s else w 3 (s * 8 + t)) → Ev mX1_start 2 29 [some (qR b 0), some (qI (nI f)), some (qI (nI to)), some (qI (nI sz)), some (qI (nI (X.1 0 0))), some (qI (nI i))] [] 124 (q_put h b (wblk b (wt (wt (wt w 1 (upd (w 1) (X.1 0 0) (nI sz))) 2 (upd (w 2) (X.1 0 0) (nI (to ||| 2 ^ f)))) 3 g))) 0 0 (fun r n h' => ∃ x, r = some (qI x) ∧ n = 124 ∧ ((fun r h2 => r = nI (X.1 0 0) ∧ ∃ w', RelC w' (m_begin X f to sz) ∧ h2 = q_put h b (wblk b w'))) x h') qNo := by
    intro m
    induction m using Nat.strongRecOn with
    | _ m ih =>
    intro i g hi hm hg
    refine e_iload5 dX1_start_29 ?_
    refine e_iconst (z := 4) dX1_start_31 ?_
    first | refine e_icmp_geN 62 dX1_start_32 (by decide) (by omega) (by omega) (fun hc32 => ?_) (fun hc32 => ?_) | refine e_icmp_ge 62 dX1_start_32 (by decide) (fun hc32 => ?_) (fun hc32 => ?_)
    · refine e_aload0 dX1_start_62 ?_
      refine e_dup dX1_start_63 rfl ?_
      refine e_getfieldF flX1_49 dX1_start_64 rfl rfl ?_
      refine e_iconst (z := 1) dX1_start_67 ?_
      rw [show (wt (wt (wt w 1 (upd (w 1) (X.1 0 0) (nI sz))) 2 (upd (w 2) (X.1 0 0) (nI (to ||| 2 ^ f)))) 3 g) 0 0 = nI (X.1 0 0) from (show w 0 0 = _ from rC0 hR)]
      first | refine e_iaddN dX1_start_68 ?_ | refine e_iadd dX1_start_68 ?_
      refine e_putfieldF flX1_49 dX1_start_69 rfl (Nat.le_of_ble_eq_true rfl) (fun _ => rfl) (fun _ => rfl) ?_
      refine e_aload0 dX1_start_72 ?_
      refine e_iconst (z := 4) dX1_start_73 ?_
      refine e_iconst (z := 0) dX1_start_74 ?_
      refine e_iload4 dX1_start_75 ?_
      refine e_vVF (M' := mX1_write) fX1_write lkX1_140 (w_write h b _ _ (relC_begin hR (f := f) (to := to) (sz := sz) hT (g := g) (fun s t hs ht => by rw [hg s t hs ht]; congr 1; simp; omega)) (s := 4) (kd := 0) (t := X.1 0 0) (by decide) (by decide) hT (by have q := j_lenT hJ hT; exact q) (by have q := j_L hJ; exact q)) rfl rfl dX1_start_77 rfl rfl (by decide) (Nat.le_of_ble_eq_true rfl) rfl ?_
      rintro _ ⟨w4, hR4, rfl⟩
      refine e_aload0 dX1_start_80 ?_
      refine e_iconst (z := 0) dX1_start_81 ?_
      refine e_iload4 dX1_start_82 ?_
      refine e_aload0 dX1_start_84 ?_
      refine e_getfieldF flX1_15 dX1_start_85 rfl rfl ?_
      refine e_iload4 dX1_start_88 ?_
      refine e_ialoadN dX1_start_90 rfl (by omega) (by decide) ?_
      rw [rC2 hR4 _ hT, show (if X.1 0 0 < (m_write (xs (xs (xs (xs X 0 0 (X.1 0 0 + 1)) 2 (X.1 0 0) f) 3 (X.1 0 0) to) 4 (X.1 0 0) sz) 4 0 (X.1 0 0)).1 0 0 then m_part (m_write (xs (xs (xs (xs X 0 0 (X.1 0 0 + 1)) 2 (X.1 0 0) f) 3 (X.1 0 0) to) 4 (X.1 0 0) sz) 4 0 (X.1 0 0)) (X.1 0 0) else 0) = to ||| 2 ^ f by simp [m_part, m_write, xs]]
      refine e_vVF (M' := mX1_send) fX1_send lkX1_150 (w_send h b w4 _ hR4 (by have i2 := iV2 hJ.1; exact i2) (kd := 0) (t := X.1 0 0) (mk := to ||| 2 ^ f) (by decide) hT (b_or4 _ hto _ hf)) rfl rfl dX1_start_91 rfl rfl (by decide) (Nat.le_of_ble_eq_true rfl) rfl ?_
      rintro _ ⟨w5, hR5, rfl⟩
      refine e_iload4 dX1_start_94 ?_
      refine e_iret dX1_start_96 rfl ?_
      exact ⟨_, rfl, rfl, rfl, w5, hR5, rfl⟩
    · refine e_aload0 dX1_start_35 ?_
      refine e_getfieldF flX1_18 dX1_start_36 rfl rfl ?_
      refine e_iload5 dX1_start_39 ?_
      refine e_bipush (v := nI 8) dX1_start_41 (by decide) ?_
      first | refine e_imulN dX1_start_43 ?_ | refine e_imul dX1_start_43 ?_
      refine e_iload4 dX1_start_44 ?_
      first | refine e_iaddN dX1_start_46 ?_ | refine e_iadd dX1_start_46 ?_
      refine e_iload1 dX1_start_47 ?_
      refine e_iload2 dX1_start_48 ?_
      refine e_iload3 dX1_start_49 ?_
      refine e_iload5 dX1_start_50 ?_
      refine e_nI (M' := mX2_shareIn) fX2_shareIn lkX1_86 (w_shareIn _ (f := f) (to := to) (sz := sz) (s := i) hf hto (by omega)) rfl rfl dX1_start_52 (by decide) (Nat.le_of_ble_eq_true rfl) rfl ?_
      rintro _ _ ⟨rfl, rfl⟩
      refine e_iastoreN dX1_start_55 rfl (by omega) (by decide) ?_
      first | refine e_iinc5N (z := 1) dX1_start_56 rfl (by decide) ?_ | refine e_iinc5 dX1_start_56 rfl rfl (by decide) ?_
      refine e_goto 29 dX1_start_59 (by decide) ?_
      refine ih _ (by omega) (i + 1) (upd g (i * 8 + X.1 0 0) (m_sh f to sz i)) (by omega) rfl (fun s t hs ht => ?_)
      by_cases q : t = X.1 0 0 ∧ s = i
      · rw [q.1, q.2, upd_same, if_pos ⟨rfl, by omega⟩]
      · rw [upd_ne (by omega), hg s t hs ht]
        by_cases q2 : t = X.1 0 0 ∧ s < i
        · rw [if_pos q2, if_pos ⟨q2.1, by omega⟩]
        · rw [if_neg q2, if_neg (by omega)]
  exact H _ 0 (w 3) (Nat.zero_le _) rfl (fun s t _ _ => by rw [if_neg (by omega)])
