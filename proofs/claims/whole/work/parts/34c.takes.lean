theorem b_dv32 : ∀ r, r < 224 → nI r / nI 32 = nI (r / 32) := by decide +kernel
theorem b_dv4 : ∀ r, r < 224 → nI r / nI 4 = nI (r / 4) := by decide +kernel
theorem b_rm4 : ∀ r, r < 224 → nI r - nI r / nI 4 * nI 4 = nI (r % 4) := by decide +kernel
theorem b_rm8 : ∀ r, r < 224 → nI (r / 4) - nI (r / 4) / nI 8 * nI 8 = nI (r / 4 % 8) := by decide +kernel
theorem b_dv8 : ∀ r, r < 40 → nI r / nI 8 = nI (r / 8) := by decide +kernel
theorem b_rm8r : ∀ r, r < 40 → nI r - nI r / nI 8 * nI 8 = nI (r % 8) := by decide +kernel
theorem upd_plus0 {f : Nat → Int32} {i : Nat} : upd f i (f i + nI 0) = f := by rw [show f i + nI 0 = f i from Int32.add_zero _, upd_self]
theorem relR_take {sf sf2 : Nat → Int32} {X : qm} (hR : RelR sf X) (hW : WK X) {p : Nat} (hp : p < X.1 0 4) (h1 : ∀ j, j < 195 → ¬ j = 13 → sf2 j = sf j) (h2 : sf2 13 = nI (X.1 0 4 - 1))
    (h3 : ∀ k, k + 1 < X.1 0 4 → sf2 (195 + k) = if p ≤ k then sf (195 + (k + 1)) else sf (195 + k)) : RelR sf2 (m_takeOut X p) := by
  have hw := hW.2.2
  refine ⟨fun k hk => ?_, fun s hs => ?_, ?_, ?_, ?_, ?_, ?_, fun t j ht hj => ?_, fun s t hs ht => ?_, fun s hs => ?_, fun s k hs hk => ?_, fun k hk => ?_⟩
  · rw [h1 k (by omega) (by omega), rR0 hR k hk]; simp [m_takeOut]
  · rw [h1 _ (by omega) (by omega), rR1 hR s hs]; simp [m_takeOut]
  · rw [h1 _ (by omega) (by omega), rR2 hR]; simp [m_takeOut]
  · rw [h1 _ (by omega) (by omega), rR3 hR]; simp [m_takeOut]
  · rw [h1 _ (by omega) (by omega), rR4 hR]; simp [m_takeOut]
  · rw [h1 _ (by omega) (by omega), rR5 hR]; simp [m_takeOut]
  · rw [h2]; simp [m_takeOut]
  · rw [h1 _ (by omega) (by omega), rR7 hR t j ht hj]
    have e : ¬ j + 2 = 12 := by omega
    simp [m_takeOut, e]
  · rw [h1 _ (by omega) (by omega), rR8 hR s t hs ht]; simp [m_takeOut]
  · rw [h1 _ (by omega) (by omega), rR9 hR s hs]; simp [m_takeOut]
  · have hk : k < X.1 10 s := by simpa [m_takeOut] using hk
    have hl2 : X.1 10 s ≤ 24 ∧ (s < 4 → X.1 10 s ≤ 16) := ⟨(Nat.lt_or_ge s 4).elim (fun q => Nat.le_trans (hw.1 s q) (by decide)) (fun q => by rw [show s = 4 by omega]; exact hw.2.1), fun q => hw.1 s q⟩
    rw [h1 _ (by omega) (by omega), rR10 hR s k hs hk]; simp [m_takeOut]
  · have hk : k < X.1 0 4 - 1 := by simpa [m_takeOut] using hk
    rw [h3 k (by omega)]
    by_cases q : p ≤ k
    · rw [if_pos q, rR11 hR (k + 1) (by omega)]
      have e : ¬ k < p := by omega
      simp [m_takeOut, e]
    · rw [if_neg q, rR11 hR k (by omega)]
      have e : k < p := by omega
      simp [m_takeOut, e]
set_option maxRecDepth 20000 in
set_option maxHeartbeats 4000000 in
theorem r_isUpFor (h : qB) (th : Int32) (sf asd sts snp txt rdd : Nat → Int32) (cnt hq len pt iw rm : Int32) (X : qm) (hR : RelR sf X) (hJ : J X) {p : Nat} (hp : p < X.1 0 4) : CtI mX3_isUpFor 1 [qR 11 0, qI (nI p)] (q_put h 11 (oR th sf asd sts snp txt rdd cnt hq len pt iw rm)) (fun r h2 => r = q_b (m_isUp X p) ∧ h2 = q_put h 11 (oR th sf asd sts snp txt rdd cnt hq len pt iw rm)) := by
  have hm := (iV10 hJ.1 p hp)
  have i2 := iV2 hJ.1
  have i3 := iV3 hJ.1
  refine ct_of (by decide +kernel) rfl rfl (Nat.le_of_ble_eq_true rfl) ?_
  show Ev mX3_isUpFor 1 0 [some (qR 11 0), some (qI (nI p)), none] [] 132 (q_put h 11 (oR th sf asd sts snp txt rdd cnt hq len pt iw rm)) 0 0 _ _
  refine e_aload0 dX3_isUpFor_0 ?_
  refine e_getfieldF flX3_7 dX3_isUpFor_1 rfl rfl ?_
  refine e_sipush (v := nI 195) dX3_isUpFor_4 (by decide) ?_
  refine e_iload1 dX3_isUpFor_7 ?_
  first | refine e_iaddN dX3_isUpFor_8 ?_ | refine e_iadd dX3_isUpFor_8 ?_
  refine e_ialoadN dX3_isUpFor_9 rfl (by omega) (by decide) ?_
  rw [rR11 hR p hp]
  refine e_istore2 dX3_isUpFor_10 rfl (by decide) ?_
  refine e_aload0 dX3_isUpFor_11 ?_
  refine e_getfieldF flX3_7 dX3_isUpFor_12 rfl rfl ?_
  refine e_iconst (z := 0) dX3_isUpFor_15 ?_
  refine e_iload2 dX3_isUpFor_16 ?_
  refine e_bipush (v := nI 32) dX3_isUpFor_17 (by decide) ?_
  refine e_idiv dX3_isUpFor_19 (by decide) ?_
  rw [b_dv32 _ hm.1]
  refine e_sI (M' := mX3_goesToStore) fX3_goesToStore lkX3_84 (r_goesToStore _ (k := X.1 12 p / 32) (by omega)) rfl rfl dX3_isUpFor_20 (by decide) (Nat.le_of_ble_eq_true rfl) rfl ?_
  rintro _ _ ⟨rfl, rfl⟩
  by_cases hgo : (X.1 12 p / 32 = 0 ∨ X.1 12 p / 32 = 3 ∨ X.1 12 p / 32 = 4)
  · rw [decide_eq_true hgo]
    refine e_if_eqN 32 dX3_isUpFor_23 (by decide) (by decide) (fun q => absurd q (by decide)) (fun _ => ?_)
    refine e_iload2 dX3_isUpFor_26 ?_
    refine e_iconst (z := 4) dX3_isUpFor_27 ?_
    refine e_irem dX3_isUpFor_28 (by decide) ?_
    rw [b_rm4 _ hm.1]
    refine e_goto 33 dX3_isUpFor_29 (by decide) ?_
    first | refine e_iaddN dX3_isUpFor_33 ?_ | refine e_iadd dX3_isUpFor_33 ?_
    refine e_ialoadN dX3_isUpFor_34 rfl (by omega) (by decide) ?_
    rw [Nat.zero_add, rR0 hR _ (by omega)]
    have hu := i3 (X.1 12 p % 4) (by omega)
    have hD : m_isUp X p = decide (X.1 1 (X.1 12 p % 4) = 1) := by rw [m_isUp, if_pos hgo]
    rw [hD]
    refine e_iconst (z := 1) dX3_isUpFor_35 ?_
    first | refine e_icmp_neN 43 dX3_isUpFor_36 (by decide) (by omega) (by omega) (fun hc36 => ?_) (fun hc36 => ?_) | refine e_icmp_ne 43 dX3_isUpFor_36 (by decide) (fun hc36 => ?_) (fun hc36 => ?_)
    · refine e_iconst (z := 0) dX3_isUpFor_43 ?_
      refine e_zret dX3_isUpFor_44 rfl (by first | rfl | exact q_nar _) ?_
      first
        | exact ⟨_, rfl, rfl, by rw [decide_eq_true hc36]; rfl, rfl⟩
        | exact ⟨_, rfl, rfl, by rw [decide_eq_false hc36]; rfl, rfl⟩
    · refine e_iconst (z := 1) dX3_isUpFor_39 ?_
      refine e_goto 44 dX3_isUpFor_40 (by decide) ?_
      refine e_zret dX3_isUpFor_44 rfl (by first | rfl | exact q_nar _) ?_
      first
        | exact ⟨_, rfl, rfl, by rw [decide_eq_true hc36]; rfl, rfl⟩
        | exact ⟨_, rfl, rfl, by rw [decide_eq_false hc36]; rfl, rfl⟩
  · rw [decide_eq_false hgo]
    refine e_if_eqN 32 dX3_isUpFor_23 (by decide) (by decide) (fun _ => ?_) (fun q => absurd rfl q)
    refine e_iconst (z := 4) dX3_isUpFor_32 ?_
    first | refine e_iaddN dX3_isUpFor_33 ?_ | refine e_iadd dX3_isUpFor_33 ?_
    refine e_ialoadN dX3_isUpFor_34 rfl (by omega) (by decide) ?_
    rw [Nat.zero_add, rR0 hR _ (by omega)]
    have hu := i3 4 (by omega)
    have hD : m_isUp X p = decide (X.1 1 4 = 1) := by rw [m_isUp, if_neg hgo]
    rw [hD]
    refine e_iconst (z := 1) dX3_isUpFor_35 ?_
    first | refine e_icmp_neN 43 dX3_isUpFor_36 (by decide) (by omega) (by omega) (fun hc36 => ?_) (fun hc36 => ?_) | refine e_icmp_ne 43 dX3_isUpFor_36 (by decide) (fun hc36 => ?_) (fun hc36 => ?_)
    · refine e_iconst (z := 0) dX3_isUpFor_43 ?_
      refine e_zret dX3_isUpFor_44 rfl (by first | rfl | exact q_nar _) ?_
      first
        | exact ⟨_, rfl, rfl, by rw [decide_eq_true hc36]; rfl, rfl⟩
        | exact ⟨_, rfl, rfl, by rw [decide_eq_false hc36]; rfl, rfl⟩
    · refine e_iconst (z := 1) dX3_isUpFor_39 ?_
      refine e_goto 44 dX3_isUpFor_40 (by decide) ?_
      refine e_zret dX3_isUpFor_44 rfl (by first | rfl | exact q_nar _) ?_
      first
        | exact ⟨_, rfl, rfl, by rw [decide_eq_true hc36]; rfl, rfl⟩
        | exact ⟨_, rfl, rfl, by rw [decide_eq_false hc36]; rfl, rfl⟩
set_option maxRecDepth 20000 in
set_option maxHeartbeats 4000000 in
theorem r_takes (h : qB) (th : Int32) (sf asd sts snp txt rdd : Nat → Int32) (cnt hq len pt iw rm : Int32) (X : qm) (hR : RelR sf X) (hW : WK X) {p : Nat} (hp : p < X.1 0 4) : CtI mX3_takes 0 [qR 11 0, qI (nI p)] (q_put h 11 (oR th sf asd sts snp txt rdd cnt hq len pt iw rm)) (fun r h2 => r = nI (X.1 12 p) ∧ ∃ sf', RelR sf' (m_takeOut X p) ∧ h2 = q_put h 11 (oR th sf' asd sts snp txt rdd cnt hq len pt iw rm)) := by
  have hw := hW.2.1
  refine ct_of (by decide +kernel) rfl rfl (Nat.le_of_ble_eq_true rfl) ?_
  show Ev mX3_takes 0 0 [some (qR 11 0), some (qI (nI p)), none, none] [] 132 (q_put h 11 (oR th sf asd sts snp txt rdd cnt hq len pt iw rm)) 0 0 _ _
  refine e_aload0 dX3_takes_0 ?_
  refine e_getfieldF flX3_7 dX3_takes_1 rfl rfl ?_
  refine e_sipush (v := nI 195) dX3_takes_4 (by decide) ?_
  refine e_iload1 dX3_takes_7 ?_
  first | refine e_iaddN dX3_takes_8 ?_ | refine e_iadd dX3_takes_8 ?_
  refine e_ialoadN dX3_takes_9 rfl (by omega) (by decide) ?_
  rw [rR11 hR p hp]
  refine e_istore2 dX3_takes_10 rfl (by decide) ?_
  refine e_aload0 dX3_takes_11 ?_
  refine e_getfieldF flX3_7 dX3_takes_12 rfl rfl ?_
  refine e_bipush (v := nI 13) dX3_takes_15 (by decide) ?_
  refine e_dup2 dX3_takes_17 rfl rfl ?_
  refine e_ialoadN dX3_takes_18 rfl (by omega) (by decide) ?_
  rw [rR6 hR]
  refine e_iconst (z := 1) dX3_takes_19 ?_
  refine e_isubN dX3_takes_20 (by omega) ?_
  refine e_iastoreN dX3_takes_21 rfl (by omega) (by decide) ?_
  refine e_iload1 dX3_takes_22 ?_
  refine e_istore3 dX3_takes_23 rfl (by decide) ?_
  have H : ∀ (m i : Nat) (sf2 : Nat → Int32), p ≤ i → i ≤ X.1 0 4 - 1 → m = X.1 0 4 - 1 - i → (∀ j, j < 256 → sf2 j = if j = 13 then nI (X.1 0 4 - 1) else if 195 + p ≤ j ∧ j < 195 + i then sf (j + 1) else sf j) → Ev mX3_takes 0 24 [some (qR 11 0), some (qI (nI p)), some (qI (nI (X.1 12 p))), some (qI (nI i))] [] 132 (q_put h 11 (oR th sf2 asd sts snp txt rdd cnt hq len pt iw rm)) 0 0 (fun r n h' => ∃ x, r = some (qI x) ∧ n = 132 ∧ ((fun r h2 => r = nI (X.1 12 p) ∧ ∃ sf', RelR sf' (m_takeOut X p) ∧ h2 = q_put h 11 (oR th sf' asd sts snp txt rdd cnt hq len pt iw rm))) x h') qNo := by
    intro m
    induction m using Nat.strongRecOn with
    | _ m ih =>
    intro i sf2 hpi hi hm hI
    refine e_iload3 dX3_takes_24 ?_
    refine e_aload0 dX3_takes_25 ?_
    refine e_getfieldF flX3_7 dX3_takes_26 rfl rfl ?_
    refine e_bipush (v := nI 13) dX3_takes_29 (by decide) ?_
    refine e_ialoadN dX3_takes_31 rfl (by omega) (by decide) ?_
    rw [hI 13 (by decide), if_pos rfl]
    first | refine e_icmp_geN 63 dX3_takes_32 (by decide) (by omega) (by omega) (fun hc32 => ?_) (fun hc32 => ?_) | refine e_icmp_ge 63 dX3_takes_32 (by decide) (fun hc32 => ?_) (fun hc32 => ?_)
    · refine e_aload0 dX3_takes_63 ?_
      refine e_getfieldF flX3_7 dX3_takes_64 rfl rfl ?_
      refine e_sipush (v := nI 195) dX3_takes_67 (by decide) ?_
      refine e_aload0 dX3_takes_70 ?_
      refine e_getfieldF flX3_7 dX3_takes_71 rfl rfl ?_
      refine e_bipush (v := nI 13) dX3_takes_74 (by decide) ?_
      refine e_ialoadN dX3_takes_76 rfl (by omega) (by decide) ?_
      rw [hI 13 (by decide), if_pos rfl]
      first | refine e_iaddN dX3_takes_77 ?_ | refine e_iadd dX3_takes_77 ?_
      refine e_iconst (z := 0) dX3_takes_78 ?_
      refine e_iastoreN dX3_takes_79 rfl (by omega) (by decide) ?_
      refine e_iload2 dX3_takes_80 ?_
      refine e_iret dX3_takes_81 rfl ?_
      refine ⟨_, rfl, rfl, rfl, _, relR_take hR hW hp (fun j h1 h2 => ?_) ?_ (fun k hk => ?_), rfl⟩
      · rw [upd_ne (by omega), hI j (by omega), if_neg h2, if_neg (by omega)]
      · rw [upd_ne (by omega), hI 13 (by decide), if_pos rfl]
      · rw [upd_ne (by omega), hI _ (by omega), if_neg (by omega)]
        by_cases q : p ≤ k
        · rw [if_pos q, if_pos (by omega)]; rfl
        · rw [if_neg q, if_neg (by omega)]
    · refine e_aload0 dX3_takes_35 ?_
      refine e_getfieldF flX3_7 dX3_takes_36 rfl rfl ?_
      refine e_sipush (v := nI 195) dX3_takes_39 (by decide) ?_
      refine e_iload3 dX3_takes_42 ?_
      first | refine e_iaddN dX3_takes_43 ?_ | refine e_iadd dX3_takes_43 ?_
      refine e_aload0 dX3_takes_44 ?_
      refine e_getfieldF flX3_7 dX3_takes_45 rfl rfl ?_
      refine e_sipush (v := nI 195) dX3_takes_48 (by decide) ?_
      refine e_iload3 dX3_takes_51 ?_
      first | refine e_iaddN dX3_takes_52 ?_ | refine e_iadd dX3_takes_52 ?_
      refine e_iconst (z := 1) dX3_takes_53 ?_
      first | refine e_iaddN dX3_takes_54 ?_ | refine e_iadd dX3_takes_54 ?_
      refine e_ialoadN dX3_takes_55 rfl (by omega) (by decide) ?_
      refine e_iastoreN dX3_takes_56 rfl (by omega) (by decide) ?_
      first | refine e_iinc3N (z := 1) dX3_takes_57 rfl (by decide) ?_ | refine e_iinc3 dX3_takes_57 rfl rfl (by decide) ?_
      refine e_goto 24 dX3_takes_60 (by decide) ?_
      refine ih _ (by omega) (i + 1) _ (by omega) (by omega) rfl (fun j hj => ?_)
      by_cases q : j = 195 + i
      · rw [q, upd_same, hI _ (by omega), if_neg (by omega), if_neg (by omega), if_neg (by omega), if_pos (by omega)]
      · rw [upd_ne q, hI j hj]
        by_cases q3 : j = 13
        · rw [if_pos q3, if_pos q3]
        · rw [if_neg q3, if_neg q3]
          by_cases q4 : 195 + p ≤ j ∧ j < 195 + i
          · rw [if_pos q4, if_pos (by omega)]
          · rw [if_neg q4, if_neg (by omega)]
  exact H _ p _ (Nat.le_refl _) (by omega) rfl (fun j hj => by
    by_cases q : j = 13
    · rw [q, upd_same, if_pos rfl]
    · rw [upd_ne q, if_neg q, if_neg (by omega)])
