/-! THE MODEL'S PROGRAM: what stores do -/
theorem r_of0 (h : qB) (th : Int32) (sf asd sts snp txt rdd : Nat → Int32) (cnt hq len pt iw rm : Int32) (X : qm) (hR : RelR sf X) {t : Nat} (ht : t < 8) : CtI mX3_of 0 [qR 11 0, qI (nI t), qI (nI 0)] (q_put h 11 (oR th sf asd sts snp txt rdd cnt hq len pt iw rm)) (fun r h2 => r = nI (X.1 2 t) ∧ h2 = q_put h 11 (oR th sf asd sts snp txt rdd cnt hq len pt iw rm)) := r_of h th sf asd sts snp txt rdd cnt hq len pt iw rm X hR ht (by decide)
theorem r_of1 (h : qB) (th : Int32) (sf asd sts snp txt rdd : Nat → Int32) (cnt hq len pt iw rm : Int32) (X : qm) (hR : RelR sf X) {t : Nat} (ht : t < 8) : CtI mX3_of 0 [qR 11 0, qI (nI t), qI (nI 1)] (q_put h 11 (oR th sf asd sts snp txt rdd cnt hq len pt iw rm)) (fun r h2 => r = nI (X.1 3 t) ∧ h2 = q_put h 11 (oR th sf asd sts snp txt rdd cnt hq len pt iw rm)) := r_of h th sf asd sts snp txt rdd cnt hq len pt iw rm X hR ht (by decide)
theorem r_of2 (h : qB) (th : Int32) (sf asd sts snp txt rdd : Nat → Int32) (cnt hq len pt iw rm : Int32) (X : qm) (hR : RelR sf X) {t : Nat} (ht : t < 8) : CtI mX3_of 0 [qR 11 0, qI (nI t), qI (nI 2)] (q_put h 11 (oR th sf asd sts snp txt rdd cnt hq len pt iw rm)) (fun r h2 => r = nI (X.1 4 t) ∧ h2 = q_put h 11 (oR th sf asd sts snp txt rdd cnt hq len pt iw rm)) := r_of h th sf asd sts snp txt rdd cnt hq len pt iw rm X hR ht (by decide)
theorem r_of3 (h : qB) (th : Int32) (sf asd sts snp txt rdd : Nat → Int32) (cnt hq len pt iw rm : Int32) (X : qm) (hR : RelR sf X) {t : Nat} (ht : t < 8) : CtI mX3_of 0 [qR 11 0, qI (nI t), qI (nI 3)] (q_put h 11 (oR th sf asd sts snp txt rdd cnt hq len pt iw rm)) (fun r h2 => r = nI (X.1 5 t) ∧ h2 = q_put h 11 (oR th sf asd sts snp txt rdd cnt hq len pt iw rm)) := r_of h th sf asd sts snp txt rdd cnt hq len pt iw rm X hR ht (by decide)
theorem r_of4 (h : qB) (th : Int32) (sf asd sts snp txt rdd : Nat → Int32) (cnt hq len pt iw rm : Int32) (X : qm) (hR : RelR sf X) {t : Nat} (ht : t < 8) : CtI mX3_of 0 [qR 11 0, qI (nI t), qI (nI 4)] (q_put h 11 (oR th sf asd sts snp txt rdd cnt hq len pt iw rm)) (fun r h2 => r = nI (X.1 6 t) ∧ h2 = q_put h 11 (oR th sf asd sts snp txt rdd cnt hq len pt iw rm)) := r_of h th sf asd sts snp txt rdd cnt hq len pt iw rm X hR ht (by decide)
theorem r_of5 (h : qB) (th : Int32) (sf asd sts snp txt rdd : Nat → Int32) (cnt hq len pt iw rm : Int32) (X : qm) (hR : RelR sf X) {t : Nat} (ht : t < 8) : CtI mX3_of 0 [qR 11 0, qI (nI t), qI (nI 5)] (q_put h 11 (oR th sf asd sts snp txt rdd cnt hq len pt iw rm)) (fun r h2 => r = nI (X.1 7 t) ∧ h2 = q_put h 11 (oR th sf asd sts snp txt rdd cnt hq len pt iw rm)) := r_of h th sf asd sts snp txt rdd cnt hq len pt iw rm X hR ht (by decide)
theorem r_of6 (h : qB) (th : Int32) (sf asd sts snp txt rdd : Nat → Int32) (cnt hq len pt iw rm : Int32) (X : qm) (hR : RelR sf X) {t : Nat} (ht : t < 8) : CtI mX3_of 0 [qR 11 0, qI (nI t), qI (nI 6)] (q_put h 11 (oR th sf asd sts snp txt rdd cnt hq len pt iw rm)) (fun r h2 => r = nI (X.1 8 t) ∧ h2 = q_put h 11 (oR th sf asd sts snp txt rdd cnt hq len pt iw rm)) := r_of h th sf asd sts snp txt rdd cnt hq len pt iw rm X hR ht (by decide)
theorem m_take_y {X : qm} {s i : Nat} {sh : Int32} (h : ((¬ 0 ≤ sh ∧ ¬ 0 ≤ m_share X i s) ∨ (0 ≤ sh ∧ ¬ m_share X i s ≤ 0)) ∧ X.1 9 (8 * s + i) = 1) : m_takeSum X s sh i + m_share X i s = m_takeSum X s sh (i + 1) := by rw [m_takeSum, if_pos h]
theorem m_take_z {X : qm} {s i : Nat} {sh : Int32} (h : ¬ (((¬ 0 ≤ sh ∧ ¬ 0 ≤ m_share X i s) ∨ (0 ≤ sh ∧ ¬ m_share X i s ≤ 0)) ∧ X.1 9 (8 * s + i) = 1)) : m_takeSum X s sh i + nI 0 = m_takeSum X s sh (i + 1) := by rw [m_takeSum, if_neg h]; exact Int32.add_zero _
theorem i_le_anti {x : Int32} (h1 : x ≤ 0) (h2 : 0 ≤ x) : x = 0 := by
  rw [Int32.le_iff_toInt_le] at h1 h2
  exact Int32.toInt_inj.mp (by show x.toInt = (0 : Int32).toInt; omega)
theorem i_lt_le {x : Int32} (h1 : ¬ 0 ≤ x) : x ≤ 0 := by
  rw [Int32.le_iff_toInt_le] at h1 ⊢
  show x.toInt ≤ (0 : Int32).toInt
  omega
theorem i_lt_nle {x : Int32} (h1 : x < 0) : ¬ 0 ≤ x := Int32.not_le.mpr h1
theorem i_nle_lt {x : Int32} (h1 : ¬ 0 ≤ x) : x < 0 := Int32.not_le.mp h1
theorem m_would_in {X : qm} {s : Nat} {sh : Int32} : decide (¬ m_takeSum X s sh (X.1 0 0) < nI 0 ∧ ¬ nI 999 < m_takeSum X s sh (X.1 0 0)) = m_would X s sh := rfl
set_option maxRecDepth 20000 in
set_option maxHeartbeats 4000000 in
theorem r_canTake (h : qB) (th : Int32) (sf asd sts snp txt rdd : Nat → Int32) (cnt hq len pt iw rm : Int32) (X : qm) (hR : RelR sf X) (hW : WK X) {s : Nat} (hst0 : ∀ t, t < 8 → X.1 9 (8 * s + t) ≤ 3) {sh : Int32} (hs : s < 4) (hne : ¬ sh = 0) : CtI mX3_canTake 3 [qR 11 0, qI (nI s), qI sh] (q_put h 11 (oR th sf asd sts snp txt rdd cnt hq len pt iw rm)) (fun r h2 => r = q_b (m_would X s sh) ∧ h2 = q_put h 11 (oR th sf asd sts snp txt rdd cnt hq len pt iw rm)) := by
  refine ct_of (by decide +kernel) rfl rfl (Nat.le_of_ble_eq_true rfl) ?_
  show Ev mX3_canTake 3 0 [some (qR 11 0), some (qI (nI s)), some (qI sh), none, none, none] [] 132 (q_put h 11 (oR th sf asd sts snp txt rdd cnt hq len pt iw rm)) 0 0 _ _
  refine e_aload0 dX3_canTake_0 ?_
  refine e_getfieldF flX3_7 dX3_canTake_1 rfl rfl ?_
  refine e_iconst (z := 5) dX3_canTake_4 ?_
  refine e_iload1 dX3_canTake_5 ?_
  first | refine e_iaddN dX3_canTake_6 ?_ | refine e_iadd dX3_canTake_6 ?_
  refine e_ialoadN dX3_canTake_7 rfl (by omega) (by decide) ?_
  rw [rR1 hR _ hs]
  have i1 := hW.1
  refine e_iload2 dX3_canTake_8 ?_
  first | refine e_iaddN dX3_canTake_9 ?_ | refine e_iadd dX3_canTake_9 ?_
  refine e_istore3 dX3_canTake_10 rfl (by decide) ?_
  refine e_iconst (z := 0) dX3_canTake_11 ?_
  refine e_istore4 dX3_canTake_12 rfl (by decide) ?_
  have H : ∀ (m i : Nat) (v : Int32), i ≤ X.1 0 0 → m = X.1 0 0 - i → v = m_takeSum X s sh i → Ev mX3_canTake 3 14 [some (qR 11 0), some (qI (nI s)), some (qI sh), some (qI v), some (qI (nI i)), none] [] 132 (q_put h 11 (oR th sf asd sts snp txt rdd cnt hq len pt iw rm)) 0 0 (fun r n h' => ∃ x, r = some (qI x) ∧ n = 132 ∧ ((fun r h2 => r = q_b (m_would X s sh) ∧ h2 = q_put h 11 (oR th sf asd sts snp txt rdd cnt hq len pt iw rm))) x h') qNo := by
    intro m
    induction m using Nat.strongRecOn with
    | _ m ih =>
    intro i v hi hm hv
    refine e_iload4 dX3_canTake_14 ?_
    refine e_aload0 dX3_canTake_16 ?_
    refine e_getfieldF flX3_7 dX3_canTake_17 rfl rfl ?_
    refine e_bipush (v := nI 9) dX3_canTake_20 (by decide) ?_
    refine e_ialoadN dX3_canTake_22 rfl (by omega) (by decide) ?_
    rw [rR2 hR]
    first | refine e_icmp_geN 83 dX3_canTake_23 (by decide) (by omega) (by omega) (fun hc23 => ?_) (fun hc23 => ?_) | refine e_icmp_ge 83 dX3_canTake_23 (by decide) (fun hc23 => ?_) (fun hc23 => ?_)
    · obtain rfl : i = X.1 0 0 := by omega
      subst hv
      refine e_iload3 dX3_canTake_83 ?_
      refine e_iconst (z := 0) dX3_canTake_84 ?_
      refine e_sipush (v := nI 999) dX3_canTake_85 (by decide) ?_
      refine e_sI (M' := mX3_in) fX3_in lkX3_32 (r_in _ _ _ _) rfl rfl dX3_canTake_88 (by decide) (Nat.le_of_ble_eq_true rfl) rfl ?_
      rintro _ _ ⟨rfl, rfl⟩
      rw [m_would_in]
      refine e_zret dX3_canTake_91 rfl (by first | rfl | exact q_nar _) ?_
      exact ⟨_, rfl, rfl, rfl, rfl⟩
    · refine e_aload0 dX3_canTake_26 ?_
      refine e_iload1 dX3_canTake_27 ?_
      refine e_iload4 dX3_canTake_28 ?_
      refine e_vIF (M' := mX3_stateIn) fX3_stateIn lkX3_51 (r_stateIn h th sf asd sts snp txt rdd cnt hq len pt iw rm X hR (s := s) (t := i) hs (by omega)) rfl rfl dX3_canTake_30 rfl rfl (by decide) (Nat.le_of_ble_eq_true rfl) rfl ?_
      rintro _ _ ⟨rfl, rfl⟩
      have hst := (hst0 i (by omega))
      refine e_iconst (z := 1) dX3_canTake_33 ?_
      first | refine e_icmp_neN 47 dX3_canTake_34 (by decide) (by omega) (by omega) (fun hc34 => ?_) (fun hc34 => ?_) | refine e_icmp_ne 47 dX3_canTake_34 (by decide) (fun hc34 => ?_) (fun hc34 => ?_)
      · refine e_iconst (z := 0) dX3_canTake_47 ?_
        refine e_istore5 dX3_canTake_48 rfl (by decide) ?_
        refine e_iload3 dX3_canTake_50 ?_
        refine e_iload2 dX3_canTake_51 ?_
        refine e_if_ge 60 dX3_canTake_52 (by decide) (fun hc52 => ?_) (fun hc52 => ?_)
        · refine e_iload2 dX3_canTake_60 ?_
          refine e_if_le 74 dX3_canTake_61 (by decide) (fun hc61 => ?_) (fun hc61 => ?_)
          · refine e_iconst (z := 0) dX3_canTake_74 ?_
            first | refine e_iaddN dX3_canTake_75 ?_ | refine e_iadd dX3_canTake_75 ?_
            refine e_istore3 dX3_canTake_76 rfl (by decide) ?_
            first | refine e_iinc4N (z := 1) dX3_canTake_77 rfl (by decide) ?_ | refine e_iinc4 dX3_canTake_77 rfl rfl (by decide) ?_
            refine e_goto 14 dX3_canTake_80 (by decide) ?_
            refine e_drop5 ?_
            exact ih _ (by omega) (i + 1) _ (by omega) rfl (by subst hv; first | exact m_take_z (fun c => hc34 c.2) | exact m_take_y ⟨Or.inl ⟨hc52, i_lt_nle hc57⟩, hc34⟩ | exact m_take_y ⟨Or.inr ⟨hc52, hc66⟩, hc34⟩ | exact absurd (i_le_anti hc61 hc52) hne | exact absurd (i_lt_le hc52) hc61 | exact m_take_z (fun c => c.1.elim (fun a => hc57 (i_nle_lt a.2)) (fun a => hc52 a.1)) | exact m_take_z (fun c => c.1.elim (fun a => a.1 hc52) (fun a => a.2 hc66)))
          · refine e_iload5 dX3_canTake_64 ?_
            refine e_if_le 74 dX3_canTake_66 (by decide) (fun hc66 => ?_) (fun hc66 => ?_)
            · refine e_iconst (z := 0) dX3_canTake_74 ?_
              first | refine e_iaddN dX3_canTake_75 ?_ | refine e_iadd dX3_canTake_75 ?_
              refine e_istore3 dX3_canTake_76 rfl (by decide) ?_
              first | refine e_iinc4N (z := 1) dX3_canTake_77 rfl (by decide) ?_ | refine e_iinc4 dX3_canTake_77 rfl rfl (by decide) ?_
              refine e_goto 14 dX3_canTake_80 (by decide) ?_
              refine e_drop5 ?_
              exact ih _ (by omega) (i + 1) _ (by omega) rfl (by subst hv; first | exact m_take_z (fun c => hc34 c.2) | exact m_take_y ⟨Or.inl ⟨hc52, i_lt_nle hc57⟩, hc34⟩ | exact m_take_y ⟨Or.inr ⟨hc52, hc66⟩, hc34⟩ | exact absurd (i_le_anti hc61 hc52) hne | exact absurd (i_lt_le hc52) hc61 | exact m_take_z (fun c => c.1.elim (fun a => hc57 (i_nle_lt a.2)) (fun a => hc52 a.1)) | exact m_take_z (fun c => c.1.elim (fun a => a.1 hc52) (fun a => a.2 hc66)))
            · refine e_iload5 dX3_canTake_69 ?_
              refine e_goto 75 dX3_canTake_71 (by decide) ?_
              first | refine e_iaddN dX3_canTake_75 ?_ | refine e_iadd dX3_canTake_75 ?_
              refine e_istore3 dX3_canTake_76 rfl (by decide) ?_
              first | refine e_iinc4N (z := 1) dX3_canTake_77 rfl (by decide) ?_ | refine e_iinc4 dX3_canTake_77 rfl rfl (by decide) ?_
              refine e_goto 14 dX3_canTake_80 (by decide) ?_
              refine e_drop5 ?_
              exact ih _ (by omega) (i + 1) _ (by omega) rfl (by subst hv; first | exact m_take_z (fun c => hc34 c.2) | exact m_take_y ⟨Or.inl ⟨hc52, i_lt_nle hc57⟩, hc34⟩ | exact m_take_y ⟨Or.inr ⟨hc52, hc66⟩, hc34⟩ | exact absurd (i_le_anti hc61 hc52) hne | exact absurd (i_lt_le hc52) hc61 | exact m_take_z (fun c => c.1.elim (fun a => hc57 (i_nle_lt a.2)) (fun a => hc52 a.1)) | exact m_take_z (fun c => c.1.elim (fun a => a.1 hc52) (fun a => a.2 hc66)))
        · refine e_iload5 dX3_canTake_55 ?_
          refine e_if_lt 69 dX3_canTake_57 (by decide) (fun hc57 => ?_) (fun hc57 => ?_)
          · refine e_iload5 dX3_canTake_69 ?_
            refine e_goto 75 dX3_canTake_71 (by decide) ?_
            first | refine e_iaddN dX3_canTake_75 ?_ | refine e_iadd dX3_canTake_75 ?_
            refine e_istore3 dX3_canTake_76 rfl (by decide) ?_
            first | refine e_iinc4N (z := 1) dX3_canTake_77 rfl (by decide) ?_ | refine e_iinc4 dX3_canTake_77 rfl rfl (by decide) ?_
            refine e_goto 14 dX3_canTake_80 (by decide) ?_
            refine e_drop5 ?_
            exact ih _ (by omega) (i + 1) _ (by omega) rfl (by subst hv; first | exact m_take_z (fun c => hc34 c.2) | exact m_take_y ⟨Or.inl ⟨hc52, i_lt_nle hc57⟩, hc34⟩ | exact m_take_y ⟨Or.inr ⟨hc52, hc66⟩, hc34⟩ | exact absurd (i_le_anti hc61 hc52) hne | exact absurd (i_lt_le hc52) hc61 | exact m_take_z (fun c => c.1.elim (fun a => hc57 (i_nle_lt a.2)) (fun a => hc52 a.1)) | exact m_take_z (fun c => c.1.elim (fun a => a.1 hc52) (fun a => a.2 hc66)))
          · refine e_iload2 dX3_canTake_60 ?_
            refine e_if_le 74 dX3_canTake_61 (by decide) (fun hc61 => ?_) (fun hc61 => ?_)
            · refine e_iconst (z := 0) dX3_canTake_74 ?_
              first | refine e_iaddN dX3_canTake_75 ?_ | refine e_iadd dX3_canTake_75 ?_
              refine e_istore3 dX3_canTake_76 rfl (by decide) ?_
              first | refine e_iinc4N (z := 1) dX3_canTake_77 rfl (by decide) ?_ | refine e_iinc4 dX3_canTake_77 rfl rfl (by decide) ?_
              refine e_goto 14 dX3_canTake_80 (by decide) ?_
              refine e_drop5 ?_
              exact ih _ (by omega) (i + 1) _ (by omega) rfl (by subst hv; first | exact m_take_z (fun c => hc34 c.2) | exact m_take_y ⟨Or.inl ⟨hc52, i_lt_nle hc57⟩, hc34⟩ | exact m_take_y ⟨Or.inr ⟨hc52, hc66⟩, hc34⟩ | exact absurd (i_le_anti hc61 hc52) hne | exact absurd (i_lt_le hc52) hc61 | exact m_take_z (fun c => c.1.elim (fun a => hc57 (i_nle_lt a.2)) (fun a => hc52 a.1)) | exact m_take_z (fun c => c.1.elim (fun a => a.1 hc52) (fun a => a.2 hc66)))
            · refine e_iload5 dX3_canTake_64 ?_
              refine e_if_le 74 dX3_canTake_66 (by decide) (fun hc66 => ?_) (fun hc66 => ?_)
              · refine e_iconst (z := 0) dX3_canTake_74 ?_
                first | refine e_iaddN dX3_canTake_75 ?_ | refine e_iadd dX3_canTake_75 ?_
                refine e_istore3 dX3_canTake_76 rfl (by decide) ?_
                first | refine e_iinc4N (z := 1) dX3_canTake_77 rfl (by decide) ?_ | refine e_iinc4 dX3_canTake_77 rfl rfl (by decide) ?_
                refine e_goto 14 dX3_canTake_80 (by decide) ?_
                refine e_drop5 ?_
                exact ih _ (by omega) (i + 1) _ (by omega) rfl (by subst hv; first | exact m_take_z (fun c => hc34 c.2) | exact m_take_y ⟨Or.inl ⟨hc52, i_lt_nle hc57⟩, hc34⟩ | exact m_take_y ⟨Or.inr ⟨hc52, hc66⟩, hc34⟩ | exact absurd (i_le_anti hc61 hc52) hne | exact absurd (i_lt_le hc52) hc61 | exact m_take_z (fun c => c.1.elim (fun a => hc57 (i_nle_lt a.2)) (fun a => hc52 a.1)) | exact m_take_z (fun c => c.1.elim (fun a => a.1 hc52) (fun a => a.2 hc66)))
              · refine e_iload5 dX3_canTake_69 ?_
                refine e_goto 75 dX3_canTake_71 (by decide) ?_
                first | refine e_iaddN dX3_canTake_75 ?_ | refine e_iadd dX3_canTake_75 ?_
                refine e_istore3 dX3_canTake_76 rfl (by decide) ?_
                first | refine e_iinc4N (z := 1) dX3_canTake_77 rfl (by decide) ?_ | refine e_iinc4 dX3_canTake_77 rfl rfl (by decide) ?_
                refine e_goto 14 dX3_canTake_80 (by decide) ?_
                refine e_drop5 ?_
                exact ih _ (by omega) (i + 1) _ (by omega) rfl (by subst hv; first | exact m_take_z (fun c => hc34 c.2) | exact m_take_y ⟨Or.inl ⟨hc52, i_lt_nle hc57⟩, hc34⟩ | exact m_take_y ⟨Or.inr ⟨hc52, hc66⟩, hc34⟩ | exact absurd (i_le_anti hc61 hc52) hne | exact absurd (i_lt_le hc52) hc61 | exact m_take_z (fun c => c.1.elim (fun a => hc57 (i_nle_lt a.2)) (fun a => hc52 a.1)) | exact m_take_z (fun c => c.1.elim (fun a => a.1 hc52) (fun a => a.2 hc66)))
      · refine e_aload0 dX3_canTake_37 ?_
        refine e_iload4 dX3_canTake_38 ?_
        refine e_iload1 dX3_canTake_40 ?_
        refine e_vIF (M' := mX3_shareIn) fX3_shareIn lkX3_54 (r_shareIn h th sf asd sts snp txt rdd cnt hq len pt iw rm X hR (t := i) (s := s) (hW.2.2.2.2 i (by omega)).1 (hW.2.2.2.2 i (by omega)).2 (by omega) hs) rfl rfl dX3_canTake_41 rfl rfl (by decide) (Nat.le_of_ble_eq_true rfl) rfl ?_
        rintro _ _ ⟨rfl, rfl⟩
        refine e_goto 48 dX3_canTake_44 (by decide) ?_
        refine e_istore5 dX3_canTake_48 rfl (by decide) ?_
        refine e_iload3 dX3_canTake_50 ?_
        refine e_iload2 dX3_canTake_51 ?_
        refine e_if_ge 60 dX3_canTake_52 (by decide) (fun hc52 => ?_) (fun hc52 => ?_)
        · refine e_iload2 dX3_canTake_60 ?_
          refine e_if_le 74 dX3_canTake_61 (by decide) (fun hc61 => ?_) (fun hc61 => ?_)
          · refine e_iconst (z := 0) dX3_canTake_74 ?_
            first | refine e_iaddN dX3_canTake_75 ?_ | refine e_iadd dX3_canTake_75 ?_
            refine e_istore3 dX3_canTake_76 rfl (by decide) ?_
            first | refine e_iinc4N (z := 1) dX3_canTake_77 rfl (by decide) ?_ | refine e_iinc4 dX3_canTake_77 rfl rfl (by decide) ?_
            refine e_goto 14 dX3_canTake_80 (by decide) ?_
            refine e_drop5 ?_
            exact ih _ (by omega) (i + 1) _ (by omega) rfl (by subst hv; first | exact m_take_z (fun c => hc34 c.2) | exact m_take_y ⟨Or.inl ⟨hc52, i_lt_nle hc57⟩, hc34⟩ | exact m_take_y ⟨Or.inr ⟨hc52, hc66⟩, hc34⟩ | exact absurd (i_le_anti hc61 hc52) hne | exact absurd (i_lt_le hc52) hc61 | exact m_take_z (fun c => c.1.elim (fun a => hc57 (i_nle_lt a.2)) (fun a => hc52 a.1)) | exact m_take_z (fun c => c.1.elim (fun a => a.1 hc52) (fun a => a.2 hc66)))
          · refine e_iload5 dX3_canTake_64 ?_
            refine e_if_le 74 dX3_canTake_66 (by decide) (fun hc66 => ?_) (fun hc66 => ?_)
            · refine e_iconst (z := 0) dX3_canTake_74 ?_
              first | refine e_iaddN dX3_canTake_75 ?_ | refine e_iadd dX3_canTake_75 ?_
              refine e_istore3 dX3_canTake_76 rfl (by decide) ?_
              first | refine e_iinc4N (z := 1) dX3_canTake_77 rfl (by decide) ?_ | refine e_iinc4 dX3_canTake_77 rfl rfl (by decide) ?_
              refine e_goto 14 dX3_canTake_80 (by decide) ?_
              refine e_drop5 ?_
              exact ih _ (by omega) (i + 1) _ (by omega) rfl (by subst hv; first | exact m_take_z (fun c => hc34 c.2) | exact m_take_y ⟨Or.inl ⟨hc52, i_lt_nle hc57⟩, hc34⟩ | exact m_take_y ⟨Or.inr ⟨hc52, hc66⟩, hc34⟩ | exact absurd (i_le_anti hc61 hc52) hne | exact absurd (i_lt_le hc52) hc61 | exact m_take_z (fun c => c.1.elim (fun a => hc57 (i_nle_lt a.2)) (fun a => hc52 a.1)) | exact m_take_z (fun c => c.1.elim (fun a => a.1 hc52) (fun a => a.2 hc66)))
            · refine e_iload5 dX3_canTake_69 ?_
              refine e_goto 75 dX3_canTake_71 (by decide) ?_
              first | refine e_iaddN dX3_canTake_75 ?_ | refine e_iadd dX3_canTake_75 ?_
              refine e_istore3 dX3_canTake_76 rfl (by decide) ?_
              first | refine e_iinc4N (z := 1) dX3_canTake_77 rfl (by decide) ?_ | refine e_iinc4 dX3_canTake_77 rfl rfl (by decide) ?_
              refine e_goto 14 dX3_canTake_80 (by decide) ?_
              refine e_drop5 ?_
              exact ih _ (by omega) (i + 1) _ (by omega) rfl (by subst hv; first | exact m_take_z (fun c => hc34 c.2) | exact m_take_y ⟨Or.inl ⟨hc52, i_lt_nle hc57⟩, hc34⟩ | exact m_take_y ⟨Or.inr ⟨hc52, hc66⟩, hc34⟩ | exact absurd (i_le_anti hc61 hc52) hne | exact absurd (i_lt_le hc52) hc61 | exact m_take_z (fun c => c.1.elim (fun a => hc57 (i_nle_lt a.2)) (fun a => hc52 a.1)) | exact m_take_z (fun c => c.1.elim (fun a => a.1 hc52) (fun a => a.2 hc66)))
        · refine e_iload5 dX3_canTake_55 ?_
          refine e_if_lt 69 dX3_canTake_57 (by decide) (fun hc57 => ?_) (fun hc57 => ?_)
          · refine e_iload5 dX3_canTake_69 ?_
            refine e_goto 75 dX3_canTake_71 (by decide) ?_
            first | refine e_iaddN dX3_canTake_75 ?_ | refine e_iadd dX3_canTake_75 ?_
            refine e_istore3 dX3_canTake_76 rfl (by decide) ?_
            first | refine e_iinc4N (z := 1) dX3_canTake_77 rfl (by decide) ?_ | refine e_iinc4 dX3_canTake_77 rfl rfl (by decide) ?_
            refine e_goto 14 dX3_canTake_80 (by decide) ?_
            refine e_drop5 ?_
            exact ih _ (by omega) (i + 1) _ (by omega) rfl (by subst hv; first | exact m_take_z (fun c => hc34 c.2) | exact m_take_y ⟨Or.inl ⟨hc52, i_lt_nle hc57⟩, hc34⟩ | exact m_take_y ⟨Or.inr ⟨hc52, hc66⟩, hc34⟩ | exact absurd (i_le_anti hc61 hc52) hne | exact absurd (i_lt_le hc52) hc61 | exact m_take_z (fun c => c.1.elim (fun a => hc57 (i_nle_lt a.2)) (fun a => hc52 a.1)) | exact m_take_z (fun c => c.1.elim (fun a => a.1 hc52) (fun a => a.2 hc66)))
          · refine e_iload2 dX3_canTake_60 ?_
            refine e_if_le 74 dX3_canTake_61 (by decide) (fun hc61 => ?_) (fun hc61 => ?_)
            · refine e_iconst (z := 0) dX3_canTake_74 ?_
              first | refine e_iaddN dX3_canTake_75 ?_ | refine e_iadd dX3_canTake_75 ?_
              refine e_istore3 dX3_canTake_76 rfl (by decide) ?_
              first | refine e_iinc4N (z := 1) dX3_canTake_77 rfl (by decide) ?_ | refine e_iinc4 dX3_canTake_77 rfl rfl (by decide) ?_
              refine e_goto 14 dX3_canTake_80 (by decide) ?_
              refine e_drop5 ?_
              exact ih _ (by omega) (i + 1) _ (by omega) rfl (by subst hv; first | exact m_take_z (fun c => hc34 c.2) | exact m_take_y ⟨Or.inl ⟨hc52, i_lt_nle hc57⟩, hc34⟩ | exact m_take_y ⟨Or.inr ⟨hc52, hc66⟩, hc34⟩ | exact absurd (i_le_anti hc61 hc52) hne | exact absurd (i_lt_le hc52) hc61 | exact m_take_z (fun c => c.1.elim (fun a => hc57 (i_nle_lt a.2)) (fun a => hc52 a.1)) | exact m_take_z (fun c => c.1.elim (fun a => a.1 hc52) (fun a => a.2 hc66)))
            · refine e_iload5 dX3_canTake_64 ?_
              refine e_if_le 74 dX3_canTake_66 (by decide) (fun hc66 => ?_) (fun hc66 => ?_)
              · refine e_iconst (z := 0) dX3_canTake_74 ?_
                first | refine e_iaddN dX3_canTake_75 ?_ | refine e_iadd dX3_canTake_75 ?_
                refine e_istore3 dX3_canTake_76 rfl (by decide) ?_
                first | refine e_iinc4N (z := 1) dX3_canTake_77 rfl (by decide) ?_ | refine e_iinc4 dX3_canTake_77 rfl rfl (by decide) ?_
                refine e_goto 14 dX3_canTake_80 (by decide) ?_
                refine e_drop5 ?_
                exact ih _ (by omega) (i + 1) _ (by omega) rfl (by subst hv; first | exact m_take_z (fun c => hc34 c.2) | exact m_take_y ⟨Or.inl ⟨hc52, i_lt_nle hc57⟩, hc34⟩ | exact m_take_y ⟨Or.inr ⟨hc52, hc66⟩, hc34⟩ | exact absurd (i_le_anti hc61 hc52) hne | exact absurd (i_lt_le hc52) hc61 | exact m_take_z (fun c => c.1.elim (fun a => hc57 (i_nle_lt a.2)) (fun a => hc52 a.1)) | exact m_take_z (fun c => c.1.elim (fun a => a.1 hc52) (fun a => a.2 hc66)))
              · refine e_iload5 dX3_canTake_69 ?_
                refine e_goto 75 dX3_canTake_71 (by decide) ?_
                first | refine e_iaddN dX3_canTake_75 ?_ | refine e_iadd dX3_canTake_75 ?_
                refine e_istore3 dX3_canTake_76 rfl (by decide) ?_
                first | refine e_iinc4N (z := 1) dX3_canTake_77 rfl (by decide) ?_ | refine e_iinc4 dX3_canTake_77 rfl rfl (by decide) ?_
                refine e_goto 14 dX3_canTake_80 (by decide) ?_
                refine e_drop5 ?_
                exact ih _ (by omega) (i + 1) _ (by omega) rfl (by subst hv; first | exact m_take_z (fun c => hc34 c.2) | exact m_take_y ⟨Or.inl ⟨hc52, i_lt_nle hc57⟩, hc34⟩ | exact m_take_y ⟨Or.inr ⟨hc52, hc66⟩, hc34⟩ | exact absurd (i_le_anti hc61 hc52) hne | exact absurd (i_lt_le hc52) hc61 | exact m_take_z (fun c => c.1.elim (fun a => hc57 (i_nle_lt a.2)) (fun a => hc52 a.1)) | exact m_take_z (fun c => c.1.elim (fun a => a.1 hc52) (fun a => a.2 hc66)))
  exact H _ 0 _ (Nat.zero_le _) rfl rfl
