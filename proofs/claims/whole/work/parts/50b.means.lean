set_option maxRecDepth 20000 in
set_option maxHeartbeats 4000000 in
theorem v_meanSize (h : qB) (pi : Nat → Option qK) (buf : Nat → Int32) (cnt sn len : Int32) (rd : Nat → Int32) (w : Fin 16 → qw) (X : qm) (hR : RelC (w 1) X) (hJ : J X) : CtF mX2_meanSize 0 [qR 0 0] (hK h (oC pi buf cnt sn len rd) w 10) (fun r h2 => r = m_mean X ∧ h2 = hK h (oC pi buf cnt sn len rd) w 10) := by
  have i1 := iV1 hJ.1
  refine ct_of (by decide +kernel) rfl rfl (Nat.le_of_ble_eq_true rfl) ?_
  show Ev mX2_meanSize 0 0 [some (qR 0 0), none, none] [] 132 (hK h (oC pi buf cnt sn len rd) w 10) 0 0 _ _
  refine e_aload0 dX2_meanSize_0 ?_
  refine e_get0 flX2_10 dX2_meanSize_1 rfl rfl ?_
  refine e_getW flX2_175 dX2_meanSize_4 (by decide) (by decide) rfl rfl ?_
  rw [rC0 hR]
  first | refine e_if_neN 12 dX2_meanSize_7 (by decide) (by omega) (fun hc7 => ?_) (fun hc7 => ?_) | refine e_if_ne 12 dX2_meanSize_7 (by decide) (fun hc7 => ?_) (fun hc7 => ?_)
  · refine e_iconst (z := 0) dX2_meanSize_12 ?_
    refine e_istore1 dX2_meanSize_13 rfl (by decide) ?_
    refine e_iconst (z := 0) dX2_meanSize_14 ?_
    refine e_istore2 dX2_meanSize_15 rfl (by decide) ?_
    have H : ∀ (m i : Nat) (v : Nat), i ≤ X.1 0 0 → m = X.1 0 0 - i → v = m_sz X i → Ev mX2_meanSize 0 16 [some (qR 0 0), some (qI (nI v)), some (qI (nI i))] [] 132 (hK h (oC pi buf cnt sn len rd) w 10) 0 0 (fun r n h' => ∃ x, r = some (qF x) ∧ n = 132 ∧ ((fun r h2 => r = m_mean X ∧ h2 = hK h (oC pi buf cnt sn len rd) w 10)) x h') qNo := by
      intro m
      induction m using Nat.strongRecOn with
      | _ m ih =>
      intro i v hi hm hv
      refine e_iload2 dX2_meanSize_16 ?_
      refine e_aload0 dX2_meanSize_17 ?_
      refine e_get0 flX2_10 dX2_meanSize_18 rfl rfl ?_
      refine e_getW flX2_175 dX2_meanSize_21 (by decide) (by decide) rfl rfl ?_
      rw [rC0 hR]
      first | refine e_icmp_geN 45 dX2_meanSize_24 (by decide) (by omega) (by omega) (fun hc24 => ?_) (fun hc24 => ?_) | refine e_icmp_ge 45 dX2_meanSize_24 (by decide) (fun hc24 => ?_) (fun hc24 => ?_)
      · obtain rfl : i = X.1 0 0 := by omega
        subst hv
        refine e_iload1 dX2_meanSize_45 ?_
        refine e_i2f dX2_meanSize_46 ?_
        refine e_aload0 dX2_meanSize_47 ?_
        refine e_get0 flX2_10 dX2_meanSize_48 rfl rfl ?_
        refine e_getW flX2_175 dX2_meanSize_51 (by decide) (by decide) rfl rfl ?_
        rw [rC0 hR]
        refine e_i2f dX2_meanSize_54 ?_
        refine e_fdiv dX2_meanSize_55 (f_chk_of (m_mean_chk hJ hc7)).1 ?_
        refine e_fret dX2_meanSize_56 rfl ?_
        exact ⟨_, rfl, rfl, by unfold m_mean; rw [if_neg hc7]; rfl, rfl⟩
      · refine e_iload1 dX2_meanSize_27 ?_
        refine e_aload0 dX2_meanSize_28 ?_
        refine e_get0 flX2_10 dX2_meanSize_29 rfl rfl ?_
        refine e_getW flX2_252 dX2_meanSize_32 (by decide) (by decide) rfl rfl ?_
        refine e_iload2 dX2_meanSize_35 ?_
        first | refine e_ialoadW dX2_meanSize_36 (by decide) (by decide) rfl (by omega) (by decide) ?_ | refine e_ialoadB dX2_meanSize_36 rfl (by omega) (by decide) ?_
        rw [rC1 hR i (by omega)]
        first | refine e_iaddN dX2_meanSize_37 ?_ | refine e_iadd dX2_meanSize_37 ?_
        refine e_istore1 dX2_meanSize_38 rfl (by decide) ?_
        first | refine e_iinc2N (z := 1) dX2_meanSize_39 rfl (by decide) ?_ | refine e_iinc2 dX2_meanSize_39 rfl rfl (by decide) ?_
        refine e_goto 16 dX2_meanSize_42 (by decide) ?_
        exact ih _ (by omega) (i + 1) _ (by omega) rfl (by rw [m_sz, hv])
    exact H _ 0 _ (Nat.zero_le _) rfl rfl
  · refine e_fconst0 dX2_meanSize_10 ?_
    refine e_fret dX2_meanSize_11 rfl ?_
    exact ⟨_, rfl, rfl, by unfold m_mean; rw [if_pos hc7], rfl⟩
set_option maxRecDepth 20000 in
set_option maxHeartbeats 4000000 in
theorem r_mean (h : qB) (th : Int32) (sf asd sts snp txt rdd : Nat → Int32) (cnt hq len pt iw rm : Int32) (X : qm) (hR : RelR sf X) (hJ : J X) : CtF mX3_mean 1 [qR 11 0] (q_put h 11 (oR th sf asd sts snp txt rdd cnt hq len pt iw rm)) (fun r h2 => r = m_mean X ∧ h2 = q_put h 11 (oR th sf asd sts snp txt rdd cnt hq len pt iw rm)) := by
  have i1 := iV1 hJ.1
  refine ct_of (by decide +kernel) rfl rfl (Nat.le_of_ble_eq_true rfl) ?_
  show Ev mX3_mean 1 0 [some (qR 11 0), none, none] [] 132 (q_put h 11 (oR th sf asd sts snp txt rdd cnt hq len pt iw rm)) 0 0 _ _
  refine e_iconst (z := 0) dX3_mean_0 ?_
  refine e_istore1 dX3_mean_1 rfl (by decide) ?_
  refine e_iconst (z := 0) dX3_mean_2 ?_
  refine e_istore2 dX3_mean_3 rfl (by decide) ?_
  have H : ∀ (m i : Nat) (v : Nat), i ≤ X.1 0 0 → m = X.1 0 0 - i → v = m_sz X i → Ev mX3_mean 1 4 [some (qR 11 0), some (qI (nI v)), some (qI (nI i))] [] 132 (q_put h 11 (oR th sf asd sts snp txt rdd cnt hq len pt iw rm)) 0 0 (fun r n h' => ∃ x, r = some (qF x) ∧ n = 132 ∧ ((fun r h2 => r = m_mean X ∧ h2 = q_put h 11 (oR th sf asd sts snp txt rdd cnt hq len pt iw rm))) x h') qNo := by
    intro m
    induction m using Nat.strongRecOn with
    | _ m ih =>
    intro i v hi hm hv
    refine e_iload2 dX3_mean_4 ?_
    refine e_aload0 dX3_mean_5 ?_
    refine e_getfieldF flX3_7 dX3_mean_6 rfl rfl ?_
    refine e_bipush (v := nI 9) dX3_mean_9 (by decide) ?_
    refine e_ialoadN dX3_mean_11 rfl (by omega) (by decide) ?_
    rw [rR2 hR]
    first | refine e_icmp_geN 30 dX3_mean_12 (by decide) (by omega) (by omega) (fun hc12 => ?_) (fun hc12 => ?_) | refine e_icmp_ge 30 dX3_mean_12 (by decide) (fun hc12 => ?_) (fun hc12 => ?_)
    · obtain rfl : i = X.1 0 0 := by omega
      subst hv
      refine e_aload0 dX3_mean_30 ?_
      refine e_getfieldF flX3_7 dX3_mean_31 rfl rfl ?_
      refine e_bipush (v := nI 9) dX3_mean_34 (by decide) ?_
      refine e_ialoadN dX3_mean_36 rfl (by omega) (by decide) ?_
      rw [rR2 hR]
      first | refine e_if_neN 44 dX3_mean_37 (by decide) (by omega) (fun hc37 => ?_) (fun hc37 => ?_) | refine e_if_ne 44 dX3_mean_37 (by decide) (fun hc37 => ?_) (fun hc37 => ?_)
      · refine e_iload1 dX3_mean_44 ?_
        refine e_i2f dX3_mean_45 ?_
        refine e_aload0 dX3_mean_46 ?_
        refine e_getfieldF flX3_7 dX3_mean_47 rfl rfl ?_
        refine e_bipush (v := nI 9) dX3_mean_50 (by decide) ?_
        refine e_ialoadN dX3_mean_52 rfl (by omega) (by decide) ?_
        rw [rR2 hR]
        refine e_i2f dX3_mean_53 ?_
        refine e_fdiv dX3_mean_54 (f_chk_of (m_mean_chk hJ hc37)).1 ?_
        refine e_fret dX3_mean_55 rfl ?_
        first
          | exact ⟨_, rfl, rfl, by unfold m_mean; rw [if_pos hc37], rfl⟩
          | exact ⟨_, rfl, rfl, by unfold m_mean; rw [if_neg hc37]; rfl, rfl⟩
      · refine e_fconst0 dX3_mean_40 ?_
        refine e_goto 55 dX3_mean_41 (by decide) ?_
        refine e_fret dX3_mean_55 rfl ?_
        first
          | exact ⟨_, rfl, rfl, by unfold m_mean; rw [if_pos hc37], rfl⟩
          | exact ⟨_, rfl, rfl, by unfold m_mean; rw [if_neg hc37]; rfl, rfl⟩
    · refine e_iload1 dX3_mean_15 ?_
      refine e_aload0 dX3_mean_16 ?_
      refine e_iload2 dX3_mean_17 ?_
      refine e_iconst (z := 2) dX3_mean_18 ?_
      refine e_vIF (M' := mX3_of) fX3_of lkX3_39 (r_of2 h th sf asd sts snp txt rdd cnt hq len pt iw rm X hR (t := i) (by omega)) rfl rfl dX3_mean_19 rfl rfl (by decide) (Nat.le_of_ble_eq_true rfl) rfl ?_
      rintro _ _ ⟨rfl, rfl⟩
      first | refine e_iaddN dX3_mean_22 ?_ | refine e_iadd dX3_mean_22 ?_
      refine e_istore1 dX3_mean_23 rfl (by decide) ?_
      first | refine e_iinc2N (z := 1) dX3_mean_24 rfl (by decide) ?_ | refine e_iinc2 dX3_mean_24 rfl rfl (by decide) ?_
      refine e_goto 4 dX3_mean_27 (by decide) ?_
      exact ih _ (by omega) (i + 1) _ (by omega) rfl (by rw [m_sz, hv])
  exact H _ 0 _ (Nat.zero_le _) rfl rfl
set_option maxRecDepth 20000 in
set_option maxHeartbeats 4000000 in
theorem v_bitsOfMean (h : qB) {xx : UInt32} (hx : q_ff xx) : CtI mX2_bitsOfMean 0 [qF xx] (h) (fun r h2 => r = xx.toInt32 ∧ h2 = h) := by
  refine ct_of (by decide +kernel) rfl rfl (Nat.le_of_ble_eq_true rfl) ?_
  show Ev mX2_bitsOfMean 0 0 [some (qF xx), none, none, none] [] 132 (h) 0 0 _ _
  refine e_fload0 dX2_bitsOfMean_0 ?_
  refine e_fconst0 dX2_bitsOfMean_1 ?_
  refine e_fcmp dX2_bitsOfMean_2 ?_
  rcases hx with rfl | hx
  · refine e_if_gt 8 dX2_bitsOfMean_3 (by decide) (fun q => absurd q (by decide +kernel)) (fun _ => ?_)
    refine e_iconst (z := 0) dX2_bitsOfMean_6 ?_
    refine e_iret dX2_bitsOfMean_7 rfl ?_
    exact ⟨_, rfl, rfl, rfl, rfl⟩
  · obtain ⟨-, f2, -, -, -, y, e, f6, f7, f8, f9⟩ := f_chk_of hx
    rw [f2]
    refine e_if_gt 8 dX2_bitsOfMean_3 (by decide) (fun _ => ?_) (fun q => absurd (by decide) q)
    refine e_bipush (v := nI 127) dX2_bitsOfMean_8 (by decide) ?_
    refine e_istore1 dX2_bitsOfMean_10 rfl (by decide) ?_
    refine e_fload0 dX2_bitsOfMean_11 ?_
    refine e_fstore2 dX2_bitsOfMean_12 rfl (by decide) ?_
    refine e_iconst (z := 0) dX2_bitsOfMean_13 ?_
    refine e_istore3 dX2_bitsOfMean_14 rfl (by decide) ?_
    have H : ∀ (m i : Nat) (z : UInt32), i ≤ 8 → m = 8 - i → f_end (8 - i) z (127 + i) = some (y, e) → Ev mX2_bitsOfMean 0 15 [some (qF xx), some (qI (nI (127 + i))), some (qF z), some (qI (nI i))] [] 132 (h) 0 0 (fun r n h' => ∃ x, r = some (qI x) ∧ n = 132 ∧ ((fun r h2 => r = xx.toInt32 ∧ h2 = h)) x h') qNo := by
      intro m
      induction m using Nat.strongRecOn with
      | _ m ih =>
      intro i z hi hm hE
      refine e_iload3 dX2_bitsOfMean_15 ?_
      refine e_bipush (v := nI 127) dX2_bitsOfMean_16 (by decide) ?_
      refine e_icmp_geN 40 dX2_bitsOfMean_18 (by decide) (by first | omega | decide) (by first | omega | decide) (fun q => absurd q (by omega)) (fun hc18 => ?_)
      refine e_fload2 dX2_bitsOfMean_21 ?_
      refine e_fconst2 dX2_bitsOfMean_22 ?_
      refine e_fcmp dX2_bitsOfMean_23 ?_
      by_cases h8 : i = 8
      · rw [h8] at hE
        cases hE
      · rw [show 8 - i = (8 - (i + 1)) + 1 by omega, f_end] at hE
        cases hcm : FP.fcmp z FP.fconst2 with
        | none => rw [hcm] at hE; cases hE
        | some o1 =>
          rw [hcm] at hE
          cases o1 with
          | lt =>
            cases hE
            refine e_if_lt 40 dX2_bitsOfMean_24 (by decide) (fun _ => ?_) (fun q => absurd (by decide) q)
            refine e_iload1 dX2_bitsOfMean_40 ?_
            refine e_bipush (v := nI 23) dX2_bitsOfMean_41 (by decide) ?_
            refine e_ishl dX2_bitsOfMean_43 ?_
            refine e_fload2 dX2_bitsOfMean_44 ?_
            refine e_fconst1 dX2_bitsOfMean_45 ?_
            refine e_fsub dX2_bitsOfMean_46 f7 ?_
            refine e_ldcFW ckX2_410 dX2_bitsOfMean_47 ?_
            refine e_fmul dX2_bitsOfMean_50 f8 ?_
            refine e_f2i dX2_bitsOfMean_51 ?_
            refine e_iadd dX2_bitsOfMean_52 ?_
            refine e_iret dX2_bitsOfMean_53 rfl ?_
            exact ⟨_, rfl, rfl, f9, rfl⟩
          | eq =>
            dsimp only at hE
            by_cases hn : FP.fdiv z FP.fconst2 &&& 0x7fffffff ≤ 0x7f800000
            · rw [if_pos hn] at hE
              refine e_if_lt 40 dX2_bitsOfMean_24 (by decide) (fun q => absurd q (by decide)) (fun _ => ?_)
              refine e_fload2 dX2_bitsOfMean_27 ?_
              refine e_fconst2 dX2_bitsOfMean_28 ?_
              refine e_fdiv dX2_bitsOfMean_29 hn ?_
              refine e_fstore2 dX2_bitsOfMean_30 rfl (by decide) ?_
              first | refine e_iinc1N (z := 1) dX2_bitsOfMean_31 rfl (by decide) ?_ | refine e_iinc1 dX2_bitsOfMean_31 rfl rfl (by decide) ?_
              first | refine e_iinc3N (z := 1) dX2_bitsOfMean_34 rfl (by decide) ?_ | refine e_iinc3 dX2_bitsOfMean_34 rfl rfl (by decide) ?_
              refine e_goto 15 dX2_bitsOfMean_37 (by decide) ?_
              exact ih _ (by omega) (i + 1) _ (by omega) rfl hE
            · rw [if_neg hn] at hE
              cases hE
          | gt =>
            dsimp only at hE
            by_cases hn : FP.fdiv z FP.fconst2 &&& 0x7fffffff ≤ 0x7f800000
            · rw [if_pos hn] at hE
              refine e_if_lt 40 dX2_bitsOfMean_24 (by decide) (fun q => absurd q (by decide)) (fun _ => ?_)
              refine e_fload2 dX2_bitsOfMean_27 ?_
              refine e_fconst2 dX2_bitsOfMean_28 ?_
              refine e_fdiv dX2_bitsOfMean_29 hn ?_
              refine e_fstore2 dX2_bitsOfMean_30 rfl (by decide) ?_
              first | refine e_iinc1N (z := 1) dX2_bitsOfMean_31 rfl (by decide) ?_ | refine e_iinc1 dX2_bitsOfMean_31 rfl rfl (by decide) ?_
              first | refine e_iinc3N (z := 1) dX2_bitsOfMean_34 rfl (by decide) ?_ | refine e_iinc3 dX2_bitsOfMean_34 rfl rfl (by decide) ?_
              refine e_goto 15 dX2_bitsOfMean_37 (by decide) ?_
              exact ih _ (by omega) (i + 1) _ (by omega) rfl hE
            · rw [if_neg hn] at hE
              cases hE
    exact H _ 0 xx (by decide) rfl f6
set_option maxRecDepth 20000 in
set_option maxHeartbeats 4000000 in
theorem j_isNaNF (h : qB) {x : UInt32} (hx : q_ff x) : CtI mJxf58ca_isNaN_12338 0 [qF x] (h) (fun r h2 => r = nI 0 ∧ h2 = h) := by
  refine ct_ofF (by decide +kernel) rfl rfl (Nat.le_of_ble_eq_true rfl) ?_
  show Ev mJxf58ca_isNaN_12338 0 0 [some (qF x)] [] 132 (h) 0 0 _ _
  refine e_fload0 dJxf58ca_isNaN_12338_0 ?_
  refine e_fload0 dJxf58ca_isNaN_12338_1 ?_
  refine e_fcmp dJxf58ca_isNaN_12338_2 ?_
  rw [(q_ff_self hx).1]
  refine e_if_eq 10 dJxf58ca_isNaN_12338_3 (by decide) (fun hc3 => ?_) (fun q => absurd rfl q)
  refine e_iconst (z := 0) dJxf58ca_isNaN_12338_10 ?_
  refine e_zret dJxf58ca_isNaN_12338_11 rfl (by first | rfl | exact q_nar _) ?_
  exact ⟨_, rfl, rfl, rfl, rfl⟩
set_option maxRecDepth 20000 in
set_option maxHeartbeats 4000000 in
theorem j_bitsF (h : qB) {xx : UInt32} (hx : q_ff xx) : CtI mJxf58ca_floatToIntBits_5c35a 1 [qF xx] (h) (fun r h2 => r = xx.toInt32 ∧ h2 = h) := by
  refine ct_ofF (by decide +kernel) rfl rfl (Nat.le_of_ble_eq_true rfl) ?_
  show Ev mJxf58ca_floatToIntBits_5c35a 1 0 [some (qF xx)] [] 132 (h) 0 0 _ _
  refine e_fload0 dJxf58ca_floatToIntBits_5c35a_0 ?_
  refine e_sI (M' := mJxf58ca_isNaN_12338) fJxf58ca_isNaN_12338 lkJxf58ca_59 (j_isNaNF _ hx) rfl rfl dJxf58ca_floatToIntBits_5c35a_1 (by decide) (Nat.le_of_ble_eq_true rfl) rfl ?_
  rintro _ _ ⟨rfl, rfl⟩
  refine e_if_neN 12 dJxf58ca_floatToIntBits_5c35a_4 (by decide) (by first | omega | decide) (fun q => absurd rfl q) (fun hc4 => ?_)
  refine e_fload0 dJxf58ca_floatToIntBits_5c35a_7 ?_
  refine e_rawF w_rawF.2.2.2 (by decide) (by decide) dJxf58ca_floatToIntBits_5c35a_8 ?_
  refine e_iret dJxf58ca_floatToIntBits_5c35a_11 rfl ?_
  exact ⟨_, rfl, rfl, rfl, rfl⟩
