/-! THE MODEL'S PROGRAM: messages are delivered -/
theorem m_share_ne {X : qm} (hJ : J X) {t s : Nat} (hT : t < X.1 0 0) (hs : s < 4) (hp : m_part X t / 2 ^ s % 2 = 1) : ¬ m_share X t s = 0 := by
  have h8 : t < 8 := Nat.lt_of_lt_of_le hT (iV1 hJ.1)
  obtain ⟨a2, a3, a4, -⟩ := iV4 hJ.1 t h8
  obtain ⟨b1, b2, b3⟩ := hJ.2.2.2.2.2.2 t hT
  unfold m_part at hp
  unfold m_share
  generalize X.1 2 t = f at *
  generalize X.1 3 t = to at *
  generalize X.1 4 t = sz at *
  have e1 : ∀ to, to < 16 → ¬ (1 ≤ to ∧ ¬ (1 ≤ m_bits to ∧ m_bits to < 5)) := by decide +kernel
  have e2 : ∀ sz, sz < 51 → ∀ m, m < 5 → ¬ (1 ≤ sz ∧ 1 ≤ m ∧ -nI sz * nI m = 0) := by decide +kernel
  have e3 : ∀ sz, sz < 51 → ¬ (1 ≤ sz ∧ nI sz = 0) := by decide +kernel
  have e4 : ∀ f, f < 4 → ∀ to, to < 16 → ∀ s, s < 4 → ¬ ((to ||| 2 ^ f) / 2 ^ s % 2 = 1 ∧ ¬ s = f ∧ ¬ to / 2 ^ s % 2 = 1) := by decide +kernel
  have d1 : 1 ≤ m_bits to ∧ m_bits to < 5 := Classical.byContradiction (fun q => e1 to a3 ⟨b2, q⟩)
  unfold m_sh
  by_cases q : s = f
  · rw [if_pos q]
    exact fun c => e2 sz (by omega) _ d1.2 ⟨b3, d1.1, c⟩
  · rw [if_neg q, if_pos (Classical.byContradiction (fun r => e4 f a2 to a3 s hs ⟨hp, q, r⟩))]
    exact fun c => e3 sz (by omega) ⟨b3, c⟩
set_option maxRecDepth 20000 in
set_option maxHeartbeats 4000000 in
theorem r_delivers (h : qB) (th : Int32) (sf asd sts snp txt rdd : Nat → Int32) (cnt hq len pt iw rm : Int32) (X : qm) (hR : RelR sf X) (hJ : J X) {p : Nat} (hp : p < X.1 0 4) : CtI mX3_delivers 5 [qR 11 0, qI (nI p)] (q_put h 11 (oR th sf asd sts snp txt rdd cnt hq len pt iw rm)) (fun r h2 => r = q_b (m_isUp X p) ∧ ∃ sf', RelR sf' (m_deliver X p) ∧ h2 = q_put h 11 (oR th sf' asd sts snp txt rdd cnt hq len pt iw rm)) := by
  have hW := wk_J hJ
  have i10 := iV10 hJ.1 p hp
  have hJ1 := j_takeOut hJ hp
  have hW1 := wk_J hJ1
  refine ct_of (by decide +kernel) rfl rfl (Nat.le_of_ble_eq_true rfl) ?_
  show Ev mX3_delivers 5 0 [some (qR 11 0), some (qI (nI p)), none, none] [] 132 (q_put h 11 (oR th sf asd sts snp txt rdd cnt hq len pt iw rm)) 0 0 _ _
  refine e_aload0 dX3_delivers_0 ?_
  refine e_iload1 dX3_delivers_1 ?_
  refine e_vIF (M' := mX3_isUpFor) fX3_isUpFor lkX3_88 (r_isUpFor h th sf asd sts snp txt rdd cnt hq len pt iw rm X hR hJ (p := p) hp) rfl rfl dX3_delivers_2 rfl rfl (by decide) (Nat.le_of_ble_eq_true rfl) rfl ?_
  rintro _ _ ⟨rfl, rfl⟩
  refine e_istore2 dX3_delivers_5 rfl (by decide) ?_
  refine e_aload0 dX3_delivers_6 ?_
  refine e_iload1 dX3_delivers_7 ?_
  refine e_vIF (M' := mX3_takes) fX3_takes lkX3_91 (r_takes h th sf asd sts snp txt rdd cnt hq len pt iw rm X hR hW (p := p) hp) rfl rfl dX3_delivers_8 rfl rfl (by decide) (Nat.le_of_ble_eq_true rfl) rfl ?_
  rintro _ _ ⟨rfl, sf2, hR2, rfl⟩
  refine e_istore3 dX3_delivers_11 rfl (by decide) ?_
  cases hB : m_isUp X p
  · skip
    refine e_aload0 dX3_delivers_12 ?_
    refine e_getfieldF flX3_7 dX3_delivers_13 rfl rfl ?_
    refine e_bipush (v := nI 11) dX3_delivers_16 (by decide) ?_
    refine e_dup2 dX3_delivers_18 rfl rfl ?_
    refine e_ialoadN dX3_delivers_19 rfl (by omega) (by decide) ?_
    refine e_iload2 dX3_delivers_20 ?_
    refine e_if_eqN 28 dX3_delivers_21 (by decide) (by first | omega | decide) (fun hc21 => ?_) (fun q => absurd rfl q)
    refine e_iconst (z := 0) dX3_delivers_28 ?_
    refine e_iadd dX3_delivers_29 ?_
    refine e_iastoreN dX3_delivers_30 rfl (by decide) (by decide) ?_
    show Ev _ _ _ _ _ _ (q_put h 11 (oR th (upd sf2 11 (sf2 11 + nI 0)) asd sts snp txt rdd cnt hq len pt iw rm)) _ _ _ _
    rw [upd_plus0]
    refine e_aload0 dX3_delivers_31 ?_
    refine e_getfieldF flX3_7 dX3_delivers_32 rfl rfl ?_
    refine e_bipush (v := nI 12) dX3_delivers_35 (by decide) ?_
    refine e_dup2 dX3_delivers_37 rfl rfl ?_
    refine e_ialoadN dX3_delivers_38 rfl (by omega) (by decide) ?_
    rw [show sf2 12 = nI (X.1 0 3) from rR5 (X := m_takeOut X p) hR2]
    refine e_iload2 dX3_delivers_39 ?_
    refine e_if_eqN 47 dX3_delivers_40 (by decide) (by first | omega | decide) (fun hc40 => ?_) (fun q => absurd rfl q)
    refine e_iconst (z := 1) dX3_delivers_47 ?_
    first | refine e_iaddN dX3_delivers_48 ?_ | refine e_iadd dX3_delivers_48 ?_
    refine e_iastoreN dX3_delivers_49 rfl (by omega) (by decide) ?_
    refine e_iload2 dX3_delivers_50 ?_
    refine e_if_eqN 84 dX3_delivers_51 (by decide) (by first | omega | decide) (fun hc51 => ?_) (fun q => absurd rfl q)
    refine e_iload2 dX3_delivers_84 ?_
    refine e_if_eqN 105 dX3_delivers_85 (by decide) (by first | omega | decide) (fun hc85 => ?_) (fun q => absurd rfl q)
    refine e_iload2 dX3_delivers_105 ?_
    refine e_zret dX3_delivers_106 rfl (by first | rfl | exact q_nar _) ?_
    exact ⟨_, rfl, rfl, rfl, _, by rw [m_deliver, if_neg (by rw [hB]; decide)]; exact relR_lost hR2, rfl⟩
  · skip
    refine e_aload0 dX3_delivers_12 ?_
    refine e_getfieldF flX3_7 dX3_delivers_13 rfl rfl ?_
    refine e_bipush (v := nI 11) dX3_delivers_16 (by decide) ?_
    refine e_dup2 dX3_delivers_18 rfl rfl ?_
    refine e_ialoadN dX3_delivers_19 rfl (by omega) (by decide) ?_
    rw [show sf2 11 = nI (X.1 0 2) from rR4 (X := m_takeOut X p) hR2]
    refine e_iload2 dX3_delivers_20 ?_
    refine e_if_eqN 28 dX3_delivers_21 (by decide) (by first | omega | decide) (fun q => absurd q (by decide)) (fun hc21 => ?_)
    refine e_iconst (z := 1) dX3_delivers_24 ?_
    refine e_goto 29 dX3_delivers_25 (by decide) ?_
    first | refine e_iaddN dX3_delivers_29 ?_ | refine e_iadd dX3_delivers_29 ?_
    refine e_iastoreN dX3_delivers_30 rfl (by omega) (by decide) ?_
    refine e_aload0 dX3_delivers_31 ?_
    refine e_getfieldF flX3_7 dX3_delivers_32 rfl rfl ?_
    refine e_bipush (v := nI 12) dX3_delivers_35 (by decide) ?_
    refine e_dup2 dX3_delivers_37 rfl rfl ?_
    refine e_ialoadN dX3_delivers_38 rfl (by omega) (by decide) ?_
    refine e_iload2 dX3_delivers_39 ?_
    refine e_if_eqN 47 dX3_delivers_40 (by decide) (by first | omega | decide) (fun q => absurd q (by decide)) (fun hc40 => ?_)
    refine e_iconst (z := 0) dX3_delivers_43 ?_
    refine e_goto 48 dX3_delivers_44 (by decide) ?_
    refine e_iadd dX3_delivers_48 ?_
    refine e_iastoreN dX3_delivers_49 rfl (by decide) (by decide) ?_
    show Ev _ _ _ _ _ _ (q_put h 11 (oR th (upd (upd sf2 11 (nI (X.1 0 2 + 1))) 12 ((upd sf2 11 (nI (X.1 0 2 + 1))) 12 + nI 0)) asd sts snp txt rdd cnt hq len pt iw rm)) _ _ _ _
    rw [upd_plus0]
    have hR3 : RelR (upd sf2 11 (nI (X.1 0 2 + 1))) (xs (m_takeOut X p) 0 2 (X.1 0 2 + 1)) := relR_handled hR2
    have hJ3 : J (xs (m_takeOut X p) 0 2 (X.1 0 2 + 1)) := j_counter hJ1 (Or.inr (Or.inl rfl))
    have hW3 := wk_J hJ3
    refine e_iload2 dX3_delivers_50 ?_
    refine e_if_eqN 84 dX3_delivers_51 (by decide) (by first | omega | decide) (fun q => absurd q (by decide)) (fun hc51 => ?_)
    refine e_iload3 dX3_delivers_54 ?_
    refine e_bipush (v := nI 32) dX3_delivers_55 (by decide) ?_
    refine e_idiv dX3_delivers_57 (by decide) ?_
    rw [b_dv32 _ i10.1]
    refine e_sI (M' := mX3_goesToStore) fX3_goesToStore lkX3_84 (r_goesToStore _ (k := X.1 12 p / 32) (by omega)) rfl rfl dX3_delivers_58 (by decide) (Nat.le_of_ble_eq_true rfl) rfl ?_
    rintro _ _ ⟨rfl, rfl⟩
    have hT : (X.1 12 p / 4 % 8) < (xs (m_takeOut X p) 0 2 (X.1 0 2 + 1)).1 0 0 := i10.2
    have h9 : ∀ t, t < 8 → (xs (m_takeOut X p) 0 2 (X.1 0 2 + 1)).1 9 (8 * (X.1 12 p % 4) + t) ≤ 3 := fun t ht => (iV6 hJ3.1 (X.1 12 p % 4) t (by omega) ht).1
    have h10 : (xs (m_takeOut X p) 0 2 (X.1 0 2 + 1)).1 9 (8 * (X.1 12 p % 4) + (X.1 12 p / 4 % 8)) < 2 → (xs (m_takeOut X p) 0 2 (X.1 0 2 + 1)).1 10 (X.1 12 p % 4) < 16 := fun q => j_cS_lt hJ3 (s := (X.1 12 p % 4)) (t := (X.1 12 p / 4 % 8)) (by omega) (by omega) (by omega)
    have hv := iV4 hJ3.1 (X.1 12 p / 4 % 8) (by omega)
    have hD : m_deliver X p = m_hears (xs (m_takeOut X p) 0 2 (X.1 0 2 + 1)) (X.1 12 p / 32) (X.1 12 p / 4 % 8) (X.1 12 p % 4) := by rw [m_deliver, if_pos hB]
    by_cases hgo : (X.1 12 p / 32 = 0 ∨ X.1 12 p / 32 = 3 ∨ X.1 12 p / 32 = 4)
    · rw [decide_eq_true hgo]
      refine e_if_eqN 84 dX3_delivers_61 (by decide) (by decide) (fun q => absurd q (by decide)) (fun _ => ?_)
      refine e_aload0 dX3_delivers_64 ?_
      refine e_iload3 dX3_delivers_65 ?_
      refine e_bipush (v := nI 32) dX3_delivers_66 (by decide) ?_
      refine e_idiv dX3_delivers_68 (by decide) ?_
      rw [b_dv32 _ i10.1]
      refine e_iload3 dX3_delivers_69 ?_
      refine e_iconst (z := 4) dX3_delivers_70 ?_
      refine e_idiv dX3_delivers_71 (by decide) ?_
      rw [b_dv4 _ i10.1]
      refine e_bipush (v := nI 8) dX3_delivers_72 (by decide) ?_
      refine e_irem dX3_delivers_74 (by decide) ?_
      rw [b_rm8 _ i10.1]
      refine e_iload3 dX3_delivers_75 ?_
      refine e_iconst (z := 4) dX3_delivers_76 ?_
      refine e_irem dX3_delivers_77 (by decide) ?_
      rw [b_rm4 _ i10.1]
      rcases (show X.1 12 p / 32 = 0 ∨ X.1 12 p / 32 = 3 ∨ X.1 12 p / 32 = 4 by omega) with hk0 | hk0 | hk0
      · rw [hk0]
        refine e_vVF (M' := mX3_atStore) fX3_atStore lkX3_94 (r_at0 h th (upd sf2 11 (nI (X.1 0 2 + 1))) asd sts snp txt rdd cnt hq len pt iw rm (xs (m_takeOut X p) 0 2 (X.1 0 2 + 1)) hR3 hW3 (t := (X.1 12 p / 4 % 8)) (s := (X.1 12 p % 4)) (by omega) (by omega) h9 h10 (fun _ => m_share_ne hJ3 hT (by omega) (hJ.2.2.2.2.2.1 p hp hk0))) rfl rfl dX3_delivers_78 rfl rfl (by decide) (Nat.le_of_ble_eq_true rfl) rfl ?_
        rintro _ ⟨sf4, hR4, rfl⟩
        refine e_goto 105 dX3_delivers_81 (by decide) ?_
        refine e_iload2 dX3_delivers_105 ?_
        refine e_zret dX3_delivers_106 rfl (by first | rfl | exact q_nar _) ?_
        exact ⟨_, rfl, rfl, rfl, sf4, by rw [hD, hk0]; exact hR4, rfl⟩
      · rw [hk0]
        refine e_vVF (M' := mX3_atStore) fX3_atStore lkX3_94 (r_at3 h th (upd sf2 11 (nI (X.1 0 2 + 1))) asd sts snp txt rdd cnt hq len pt iw rm (xs (m_takeOut X p) 0 2 (X.1 0 2 + 1)) hR3 hW3 (t := (X.1 12 p / 4 % 8)) (s := (X.1 12 p % 4)) (by omega) (by omega) h9 h10) rfl rfl dX3_delivers_78 rfl rfl (by decide) (Nat.le_of_ble_eq_true rfl) rfl ?_
        rintro _ ⟨sf4, hR4, rfl⟩
        refine e_goto 105 dX3_delivers_81 (by decide) ?_
        refine e_iload2 dX3_delivers_105 ?_
        refine e_zret dX3_delivers_106 rfl (by first | rfl | exact q_nar _) ?_
        exact ⟨_, rfl, rfl, rfl, sf4, by rw [hD, hk0]; exact hR4, rfl⟩
      · rw [hk0]
        refine e_vVF (M' := mX3_atStore) fX3_atStore lkX3_94 (r_at4 h th (upd sf2 11 (nI (X.1 0 2 + 1))) asd sts snp txt rdd cnt hq len pt iw rm (xs (m_takeOut X p) 0 2 (X.1 0 2 + 1)) hR3 hW3 (t := (X.1 12 p / 4 % 8)) (s := (X.1 12 p % 4)) (by omega) (by omega) h9 h10) rfl rfl dX3_delivers_78 rfl rfl (by decide) (Nat.le_of_ble_eq_true rfl) rfl ?_
        rintro _ ⟨sf4, hR4, rfl⟩
        refine e_goto 105 dX3_delivers_81 (by decide) ?_
        refine e_iload2 dX3_delivers_105 ?_
        refine e_zret dX3_delivers_106 rfl (by first | rfl | exact q_nar _) ?_
        exact ⟨_, rfl, rfl, rfl, sf4, by rw [hD, hk0]; exact hR4, rfl⟩
    · rw [decide_eq_false hgo]
      refine e_if_eqN 84 dX3_delivers_61 (by decide) (by decide) (fun _ => ?_) (fun q => absurd rfl q)
      refine e_iload2 dX3_delivers_84 ?_
      refine e_if_eqN 105 dX3_delivers_85 (by decide) (by first | omega | decide) (fun q => absurd q (by decide)) (fun hc85 => ?_)
      refine e_aload0 dX3_delivers_88 ?_
      refine e_iload3 dX3_delivers_89 ?_
      refine e_bipush (v := nI 32) dX3_delivers_90 (by decide) ?_
      refine e_idiv dX3_delivers_92 (by decide) ?_
      rw [b_dv32 _ i10.1]
      refine e_iload3 dX3_delivers_93 ?_
      refine e_iconst (z := 4) dX3_delivers_94 ?_
      refine e_idiv dX3_delivers_95 (by decide) ?_
      rw [b_dv4 _ i10.1]
      refine e_bipush (v := nI 8) dX3_delivers_96 (by decide) ?_
      refine e_irem dX3_delivers_98 (by decide) ?_
      rw [b_rm8 _ i10.1]
      refine e_iload3 dX3_delivers_99 ?_
      refine e_iconst (z := 4) dX3_delivers_100 ?_
      refine e_irem dX3_delivers_101 (by decide) ?_
      rw [b_rm4 _ i10.1]
      rcases (show X.1 12 p / 32 = 1 ∨ X.1 12 p / 32 = 2 ∨ X.1 12 p / 32 = 5 ∨ X.1 12 p / 32 = 6 by omega) with hk0 | hk0 | hk0 | hk0
      · rw [hk0]
        refine e_vVF (M' := mX3_atClerk) fX3_atClerk lkX3_97 (r_c1 h th (upd sf2 11 (nI (X.1 0 2 + 1))) asd sts snp txt rdd cnt hq len pt iw rm (xs (m_takeOut X p) 0 2 (X.1 0 2 + 1)) hR3 hW3 (t := (X.1 12 p / 4 % 8)) (s := (X.1 12 p % 4)) (by omega) (by omega) hv.2.2.2.1 hv.2.2.2.2.1 hv.2.2.2.2.2.1 hv.2.2.2.2.2.2 (j_len7 hJ3 hT) (j_len8 hJ3 hT)) rfl rfl dX3_delivers_102 rfl rfl (by decide) (Nat.le_of_ble_eq_true rfl) rfl ?_
        rintro _ ⟨sf4, hR4, rfl⟩
        refine e_iload2 dX3_delivers_105 ?_
        refine e_zret dX3_delivers_106 rfl (by first | rfl | exact q_nar _) ?_
        exact ⟨_, rfl, rfl, rfl, sf4, by rw [hD, hk0]; exact hR4, rfl⟩
      · rw [hk0]
        refine e_vVF (M' := mX3_atClerk) fX3_atClerk lkX3_97 (r_c2 h th (upd sf2 11 (nI (X.1 0 2 + 1))) asd sts snp txt rdd cnt hq len pt iw rm (xs (m_takeOut X p) 0 2 (X.1 0 2 + 1)) hR3 hW3 (t := (X.1 12 p / 4 % 8)) (s := (X.1 12 p % 4)) (by omega) (by omega) hv.2.2.2.1 hv.2.2.2.2.1 hv.2.2.2.2.2.1 hv.2.2.2.2.2.2 (j_len7 hJ3 hT) (j_len8 hJ3 hT)) rfl rfl dX3_delivers_102 rfl rfl (by decide) (Nat.le_of_ble_eq_true rfl) rfl ?_
        rintro _ ⟨sf4, hR4, rfl⟩
        refine e_iload2 dX3_delivers_105 ?_
        refine e_zret dX3_delivers_106 rfl (by first | rfl | exact q_nar _) ?_
        exact ⟨_, rfl, rfl, rfl, sf4, by rw [hD, hk0]; exact hR4, rfl⟩
      · rw [hk0]
        refine e_vVF (M' := mX3_atClerk) fX3_atClerk lkX3_97 (r_c5 h th (upd sf2 11 (nI (X.1 0 2 + 1))) asd sts snp txt rdd cnt hq len pt iw rm (xs (m_takeOut X p) 0 2 (X.1 0 2 + 1)) hR3 hW3 (t := (X.1 12 p / 4 % 8)) (s := (X.1 12 p % 4)) (by omega) (by omega) hv.2.2.2.1 hv.2.2.2.2.1 hv.2.2.2.2.2.1 hv.2.2.2.2.2.2 (j_len7 hJ3 hT) (j_len8 hJ3 hT)) rfl rfl dX3_delivers_102 rfl rfl (by decide) (Nat.le_of_ble_eq_true rfl) rfl ?_
        rintro _ ⟨sf4, hR4, rfl⟩
        refine e_iload2 dX3_delivers_105 ?_
        refine e_zret dX3_delivers_106 rfl (by first | rfl | exact q_nar _) ?_
        exact ⟨_, rfl, rfl, rfl, sf4, by rw [hD, hk0]; exact hR4, rfl⟩
      · rw [hk0]
        refine e_vVF (M' := mX3_atClerk) fX3_atClerk lkX3_97 (r_c6 h th (upd sf2 11 (nI (X.1 0 2 + 1))) asd sts snp txt rdd cnt hq len pt iw rm (xs (m_takeOut X p) 0 2 (X.1 0 2 + 1)) hR3 hW3 (t := (X.1 12 p / 4 % 8)) (s := (X.1 12 p % 4)) (by omega) (by omega) hv.2.2.2.1 hv.2.2.2.2.1 hv.2.2.2.2.2.1 hv.2.2.2.2.2.2 (j_len7 hJ3 hT) (j_len8 hJ3 hT)) rfl rfl dX3_delivers_102 rfl rfl (by decide) (Nat.le_of_ble_eq_true rfl) rfl ?_
        rintro _ ⟨sf4, hR4, rfl⟩
        refine e_iload2 dX3_delivers_105 ?_
        refine e_zret dX3_delivers_106 rfl (by first | rfl | exact q_nar _) ?_
        exact ⟨_, rfl, rfl, rfl, sf4, by rw [hD, hk0]; exact hR4, rfl⟩
