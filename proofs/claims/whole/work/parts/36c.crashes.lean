theorem relR_crash {sf : Nat → Int32} {X : qm} (hR : RelR sf X) (hW : WK X) {k : Nat} (hk : k < 5) {sf2 : Nat → Int32}
    (h1 : ∀ j, j < 256 → sf2 j = if j = k then nI 0 else if k = 4 ∧ (∃ t, t < X.1 0 0 ∧ (j = 14 + 7 * t + 3 ∨ j = 14 + 7 * t + 4)) then nI 0 else sf j) : RelR sf2 (m_crash X k) := by
  have hw := hW.2.2
  have h0 := hW.1
  have h4 := hW.2.1
  have H : ∀ j, j < 256 → ¬ j = k → ¬ (14 ≤ j ∧ j < 70) → sf2 j = sf j := fun j a b c => by
    rw [h1 j a, if_neg b, if_neg]
    rintro ⟨-, t, d, e⟩
    omega
  refine ⟨fun j hj => ?_, fun s hs => ?_, ?_, ?_, ?_, ?_, ?_, fun t j ht hj => ?_, fun s t hs ht => ?_, fun s hs => ?_, fun s j hs hj => ?_, fun j hj => ?_⟩
  · by_cases q : j = k
    · rw [h1 j (by omega), if_pos q]; simp [m_crash, q]
    · rw [H j (by omega) q (by omega), rR0 hR j hj]; simp [m_crash, q]
  · rw [H _ (by omega) (by omega) (by omega), rR1 hR s hs]; simp [m_crash]
  · rw [H _ (by omega) (by omega) (by omega), rR2 hR]; simp [m_crash]
  · rw [H _ (by omega) (by omega) (by omega), rR3 hR]; simp [m_crash]
  · rw [H _ (by omega) (by omega) (by omega), rR4 hR]; simp [m_crash]
  · rw [H _ (by omega) (by omega) (by omega), rR5 hR]; simp [m_crash]
  · rw [H _ (by omega) (by omega) (by omega), rR6 hR]; simp [m_crash]
  · rw [h1 _ (by omega), if_neg (by omega)]
    have e1 : ¬ j + 2 = 1 := by omega
    by_cases q : k = 4 ∧ t < X.1 0 0 ∧ (j = 3 ∨ j = 4)
    · rw [if_pos ⟨q.1, t, q.2.1, by omega⟩]
      have e2 : (j + 2 = 5 ∨ j + 2 = 6) ∧ k = 4 ∧ t < X.1 0 0 := ⟨by omega, q.1, q.2.1⟩
      simp only [m_crash]
      rw [if_neg (fun c => e1 c.1), if_pos e2]
    · rw [if_neg (by rintro ⟨a, t2, b, c⟩; exact q ⟨a, by omega, by omega⟩), rR7 hR t j ht hj]
      have e2 : ¬ ((j + 2 = 5 ∨ j + 2 = 6) ∧ k = 4 ∧ t < X.1 0 0) := by rintro ⟨a, b, c⟩; exact q ⟨b, c, by omega⟩
      simp only [m_crash]
      rw [if_neg (fun c => e1 c.1), if_neg e2]
  · rw [H _ (by omega) (by omega) (by omega), rR8 hR s t hs ht]; simp [m_crash]
  · rw [H _ (by omega) (by omega) (by omega), rR9 hR s hs]; simp [m_crash]
  · have hj : j < X.1 10 s := by simpa [m_crash] using hj
    have hl2 : X.1 10 s ≤ 24 ∧ (s < 4 → X.1 10 s ≤ 16) := ⟨(Nat.lt_or_ge s 4).elim (fun q => Nat.le_trans (hw.1 s q) (by decide)) (fun q => by rw [show s = 4 by omega]; exact hw.2.1), fun q => hw.1 s q⟩
    rw [H _ (by omega) (by omega) (by omega), rR10 hR s j hs hj]; simp [m_crash]
  · have hj : j < X.1 0 4 := by simpa [m_crash] using hj
    rw [H _ (by omega) (by omega) (by omega), rR11 hR j hj]; simp [m_crash]
def m_ups5 (X : qm) : Nat → Nat
  | 0 => 0
  | n + 1 => m_ups5 X n + X.1 1 n
theorem m_ups5_eq {X : qm} (h : ∀ k, k < 5 → X.1 1 k ≤ 1) : m_ups5 X 5 = m_bits5 (m_mask5 X) := by
  have h0 := h 0 (by decide); have h1 := h 1 (by decide); have h2 := h 2 (by decide); have h3 := h 3 (by decide); have h4 := h 4 (by decide)
  simp only [m_ups5, m_bits5, m_mask5, m_bits]
  omega
set_option maxRecDepth 20000 in
set_option maxHeartbeats 4000000 in
theorem r_crashes (h : qB) (th : Int32) (sf asd sts snp txt rdd : Nat → Int32) (cnt hq len pt iw rm : Int32) (X : qm) (hR : RelR sf X) (hJ : J X) {k : Nat} (hk : k < 5) : CtI mX3_crashes 1 [qR 11 0, qI (nI k)] (q_put h 11 (oR th sf asd sts snp txt rdd cnt hq len pt iw rm)) (fun r h2 => r = nI (m_bits5 (m_mask5 (m_crash X k))) ∧ ∃ sf', RelR sf' (m_crash X k) ∧ h2 = q_put h 11 (oR th sf' asd sts snp txt rdd cnt hq len pt iw rm)) := by
  have hW := wk_J hJ
  have h0 := hW.1
  refine ct_of (by decide +kernel) rfl rfl (Nat.le_of_ble_eq_true rfl) ?_
  show Ev mX3_crashes 1 0 [some (qR 11 0), some (qI (nI k)), none, none] [] 132 (q_put h 11 (oR th sf asd sts snp txt rdd cnt hq len pt iw rm)) 0 0 _ _
  refine e_aload0 dX3_crashes_0 ?_
  refine e_getfieldF flX3_7 dX3_crashes_1 rfl rfl ?_
  refine e_iconst (z := 0) dX3_crashes_4 ?_
  refine e_iload1 dX3_crashes_5 ?_
  first | refine e_iaddN dX3_crashes_6 ?_ | refine e_iadd dX3_crashes_6 ?_
  refine e_iconst (z := 0) dX3_crashes_7 ?_
  refine e_iastoreN dX3_crashes_8 rfl (by omega) (by decide) ?_
  refine e_iconst (z := 0) dX3_crashes_9 ?_
  refine e_istore2 dX3_crashes_10 rfl (by decide) ?_
  have H : ∀ (m i : Nat) (sf2 : Nat → Int32), i ≤ X.1 0 0 → m = X.1 0 0 - i → (∀ j, j < 256 → sf2 j = if j = k then nI 0 else if k = 4 ∧ (∃ t, t < i ∧ (j = 14 + 7 * t + 3 ∨ j = 14 + 7 * t + 4)) then nI 0 else sf j) → Ev mX3_crashes 1 11 [some (qR 11 0), some (qI (nI k)), some (qI (nI i)), none] [] 132 (q_put h 11 (oR th sf2 asd sts snp txt rdd cnt hq len pt iw rm)) 0 0 (fun r n h' => ∃ x, r = some (qI x) ∧ n = 132 ∧ ((fun r h2 => r = nI (m_bits5 (m_mask5 (m_crash X k))) ∧ ∃ sf', RelR sf' (m_crash X k) ∧ h2 = q_put h 11 (oR th sf' asd sts snp txt rdd cnt hq len pt iw rm))) x h') qNo := by
    intro m
    induction m using Nat.strongRecOn with
    | _ m ih =>
    intro i sf2 hi hm hI
    refine e_iload2 dX3_crashes_11 ?_
    refine e_aload0 dX3_crashes_12 ?_
    refine e_getfieldF flX3_7 dX3_crashes_13 rfl rfl ?_
    refine e_bipush (v := nI 9) dX3_crashes_16 (by decide) ?_
    refine e_ialoadN dX3_crashes_18 rfl (by omega) (by decide) ?_
    rw [show sf2 9 = nI (X.1 0 0) by rw [hI 9 (by decide), if_neg (by omega), if_neg (by rintro ⟨-, t, d, e⟩; omega)]; exact rR2 hR]
    refine e_icmp_geN 47 dX3_crashes_19 (by decide) (by omega) (by omega) (fun hc19 => ?_) (fun hc19 => ?_)
    · obtain rfl : i = X.1 0 0 := by omega
      have hI2 := hI
      have hR2 := relR_crash hR hW hk hI2
      have hJ2 := j_crash hJ k
      refine e_iconst (z := 0) dX3_crashes_47 ?_
      refine e_istore2 dX3_crashes_48 rfl (by decide) ?_
      refine e_iconst (z := 0) dX3_crashes_49 ?_
      refine e_istore3 dX3_crashes_50 rfl (by decide) ?_
      have H : ∀ (m i : Nat) (v : Nat), i ≤ 5 → m = 5 - i → v = m_ups5 (m_crash X k) i → Ev mX3_crashes 1 51 [some (qR 11 0), some (qI (nI k)), some (qI (nI v)), some (qI (nI i))] [] 132 (q_put h 11 (oR th sf2 asd sts snp txt rdd cnt hq len pt iw rm)) 0 0 (fun r n h' => ∃ x, r = some (qI x) ∧ n = 132 ∧ ((fun r h2 => r = nI (m_bits5 (m_mask5 (m_crash X k))) ∧ ∃ sf', RelR sf' (m_crash X k) ∧ h2 = q_put h 11 (oR th sf' asd sts snp txt rdd cnt hq len pt iw rm))) x h') qNo := by
        intro m
        induction m using Nat.strongRecOn with
        | _ m ih =>
        intro i v hi hm hv
        refine e_iload3 dX3_crashes_51 ?_
        refine e_iconst (z := 5) dX3_crashes_52 ?_
        first | refine e_icmp_geN 73 dX3_crashes_53 (by decide) (by omega) (by omega) (fun hc53 => ?_) (fun hc53 => ?_) | refine e_icmp_ge 73 dX3_crashes_53 (by decide) (fun hc53 => ?_) (fun hc53 => ?_)
        · refine e_iload2 dX3_crashes_73 ?_
          refine e_iret dX3_crashes_74 rfl ?_
          obtain rfl : i = 5 := by omega
          exact ⟨_, rfl, rfl, by rw [hv, m_ups5_eq (iV3 hJ2.1)], sf2, hR2, rfl⟩
        · refine e_iload2 dX3_crashes_56 ?_
          refine e_aload0 dX3_crashes_57 ?_
          refine e_getfieldF flX3_7 dX3_crashes_58 rfl rfl ?_
          refine e_iconst (z := 0) dX3_crashes_61 ?_
          refine e_iload3 dX3_crashes_62 ?_
          first | refine e_iaddN dX3_crashes_63 ?_ | refine e_iadd dX3_crashes_63 ?_
          refine e_ialoadN dX3_crashes_64 rfl (by omega) (by decide) ?_
          rw [Nat.zero_add i, rR0 hR2 i (by omega)]
          first | refine e_iaddN dX3_crashes_65 ?_ | refine e_iadd dX3_crashes_65 ?_
          refine e_istore2 dX3_crashes_66 rfl (by decide) ?_
          first | refine e_iinc3N (z := 1) dX3_crashes_67 rfl (by decide) ?_ | refine e_iinc3 dX3_crashes_67 rfl rfl (by decide) ?_
          refine e_goto 51 dX3_crashes_70 (by decide) ?_
          exact ih _ (by omega) (i + 1) _ (by omega) rfl (by rw [m_ups5, hv])
      exact H _ 0 _ (Nat.zero_le _) rfl rfl
    · refine e_iload1 dX3_crashes_22 ?_
      refine e_iconst (z := 4) dX3_crashes_23 ?_
      refine e_icmp_neN 47 dX3_crashes_24 (by decide) (by omega) (by decide) (fun hc24 => ?_) (fun hc24 => ?_)
      · have hI2 : ∀ j, j < 256 → sf2 j = if j = k then nI 0 else if k = 4 ∧ (∃ t, t < X.1 0 0 ∧ (j = 14 + 7 * t + 3 ∨ j = 14 + 7 * t + 4)) then nI 0 else sf j := fun j hj => by
            rw [hI j hj]
            by_cases q : j = k
            · rw [if_pos q, if_pos q]
            · rw [if_neg q, if_neg q, if_neg (fun c => hc24 c.1), if_neg (fun c => hc24 c.1)]
        have hR2 := relR_crash hR hW hk hI2
        have hJ2 := j_crash hJ k
        refine e_iconst (z := 0) dX3_crashes_47 ?_
        refine e_istore2 dX3_crashes_48 rfl (by decide) ?_
        refine e_iconst (z := 0) dX3_crashes_49 ?_
        refine e_istore3 dX3_crashes_50 rfl (by decide) ?_
        have H : ∀ (m i : Nat) (v : Nat), i ≤ 5 → m = 5 - i → v = m_ups5 (m_crash X k) i → Ev mX3_crashes 1 51 [some (qR 11 0), some (qI (nI k)), some (qI (nI v)), some (qI (nI i))] [] 132 (q_put h 11 (oR th sf2 asd sts snp txt rdd cnt hq len pt iw rm)) 0 0 (fun r n h' => ∃ x, r = some (qI x) ∧ n = 132 ∧ ((fun r h2 => r = nI (m_bits5 (m_mask5 (m_crash X k))) ∧ ∃ sf', RelR sf' (m_crash X k) ∧ h2 = q_put h 11 (oR th sf' asd sts snp txt rdd cnt hq len pt iw rm))) x h') qNo := by
          intro m
          induction m using Nat.strongRecOn with
          | _ m ih =>
          intro i v hi hm hv
          refine e_iload3 dX3_crashes_51 ?_
          refine e_iconst (z := 5) dX3_crashes_52 ?_
          first | refine e_icmp_geN 73 dX3_crashes_53 (by decide) (by omega) (by omega) (fun hc53 => ?_) (fun hc53 => ?_) | refine e_icmp_ge 73 dX3_crashes_53 (by decide) (fun hc53 => ?_) (fun hc53 => ?_)
          · refine e_iload2 dX3_crashes_73 ?_
            refine e_iret dX3_crashes_74 rfl ?_
            obtain rfl : i = 5 := by omega
            exact ⟨_, rfl, rfl, by rw [hv, m_ups5_eq (iV3 hJ2.1)], sf2, hR2, rfl⟩
          · refine e_iload2 dX3_crashes_56 ?_
            refine e_aload0 dX3_crashes_57 ?_
            refine e_getfieldF flX3_7 dX3_crashes_58 rfl rfl ?_
            refine e_iconst (z := 0) dX3_crashes_61 ?_
            refine e_iload3 dX3_crashes_62 ?_
            first | refine e_iaddN dX3_crashes_63 ?_ | refine e_iadd dX3_crashes_63 ?_
            refine e_ialoadN dX3_crashes_64 rfl (by omega) (by decide) ?_
            rw [Nat.zero_add i, rR0 hR2 i (by omega)]
            first | refine e_iaddN dX3_crashes_65 ?_ | refine e_iadd dX3_crashes_65 ?_
            refine e_istore2 dX3_crashes_66 rfl (by decide) ?_
            first | refine e_iinc3N (z := 1) dX3_crashes_67 rfl (by decide) ?_ | refine e_iinc3 dX3_crashes_67 rfl rfl (by decide) ?_
            refine e_goto 51 dX3_crashes_70 (by decide) ?_
            exact ih _ (by omega) (i + 1) _ (by omega) rfl (by rw [m_ups5, hv])
        exact H _ 0 _ (Nat.zero_le _) rfl rfl
      · have hc24 : 4 = k := hc24.symm
        refine e_aload0 dX3_crashes_27 ?_
        refine e_iload2 dX3_crashes_28 ?_
        refine e_iconst (z := 3) dX3_crashes_29 ?_
        refine e_iconst (z := 0) dX3_crashes_30 ?_
        refine e_vVF (M' := mX3_lay) fX3_lay lkX3_64 (r_lay h th sf2 asd sts snp txt rdd cnt hq len pt iw rm (t := i) (j := 3) (v := nI 0) (by omega) (by decide)) rfl rfl dX3_crashes_31 rfl rfl (by decide) (Nat.le_of_ble_eq_true rfl) rfl ?_
        rintro _ rfl
        refine e_aload0 dX3_crashes_34 ?_
        refine e_iload2 dX3_crashes_35 ?_
        refine e_iconst (z := 4) dX3_crashes_36 ?_
        refine e_iconst (z := 0) dX3_crashes_37 ?_
        refine e_vVF (M' := mX3_lay) fX3_lay lkX3_64 (r_lay h th (upd sf2 (14 + 7 * i + 3) (nI 0)) asd sts snp txt rdd cnt hq len pt iw rm (t := i) (j := 4) (v := nI 0) (by omega) (by decide)) rfl rfl dX3_crashes_38 rfl rfl (by decide) (Nat.le_of_ble_eq_true rfl) rfl ?_
        rintro _ rfl
        first | refine e_iinc2N (z := 1) dX3_crashes_41 rfl (by decide) ?_ | refine e_iinc2 dX3_crashes_41 rfl rfl (by decide) ?_
        refine e_goto 11 dX3_crashes_44 (by decide) ?_
        refine ih _ (by omega) (i + 1) _ (by omega) rfl (fun j hj => ?_)
        by_cases q4 : j = 14 + 7 * i + 4
        · rw [q4, upd_same, if_neg (by omega), if_pos ⟨hc24.symm, i, by omega, by omega⟩]
        · by_cases q3 : j = 14 + 7 * i + 3
          · rw [upd_ne q4, q3, upd_same, if_neg (by omega), if_pos ⟨hc24.symm, i, by omega, by omega⟩]
          · rw [upd_ne q4, upd_ne q3, hI j hj]
            by_cases q : j = k
            · rw [if_pos q, if_pos q]
            · rw [if_neg q, if_neg q]
              by_cases q2 : k = 4 ∧ (∃ t, t < i ∧ (j = 14 + 7 * t + 3 ∨ j = 14 + 7 * t + 4))
              · rw [if_pos q2, if_pos (by obtain ⟨a, t, b, c⟩ := q2; exact ⟨a, t, by omega, c⟩)]
              · rw [if_neg q2, if_neg (by rintro ⟨a, t, b, c⟩; exact q2 ⟨a, t, by omega, c⟩)]
  exact H _ 0 _ (Nat.zero_le _) rfl (fun j hj => by
    by_cases q : j = k
    · rw [q, Nat.zero_add, upd_same, if_pos rfl]
    · rw [Nat.zero_add, upd_ne q, if_neg q, if_neg (by rintro ⟨-, t, d, e⟩; omega)])
