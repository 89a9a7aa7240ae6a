/-! SHARES AND MEANS: rows, and both programs -/
theorem e_ldcFW {M : qM} {d pc : Nat} {L : List (Option qV)} {st : List qV} {n : Nat} {h : qB} {kc ks : Nat} {P : qP} {X : qX} {idx : Nat} {v : UInt32} (hc : Cond.constantFloat M.1.cls idx v ∈ lwA) (dg : decode M.2.1 pc = .ok (.ldc_w idx, 3)) (k : Ev M d (pc + 3) L (qF v :: st) n h kc ks P X) : Ev M d pc L st n h kc ks P X := by
  intro G p l e R s m args below meth c H locs ls C hl hP hz hS cells slots hu hcc hs
  have K := k G p l e R s m args below meth c H locs ls C hl hP hz hS cells slots hu hcc hs
  intro T hT Y
  obtain ⟨t, a, b⟩ := K T hT Y
  refine ⟨t, ?_, b⟩
  obtain ⟨k0, cf, hk, hcf, hcp⟩ := Cond.constantFloat_spec C.2.2.2.1 (C.2.2.2.2.1 _ hc)
  obtain ⟨k', hk', he⟩ := Y.warmed.alike.2.2 _ _ hk
  have hdg : decode c.code pc = .ok (.ldc_w idx, 3) := by rw [C.2.1]; exact dg
  have hx := C.1
  jvm_step Y.here [hx, hdg, ldc_w.wp_float (s := T) (f := F0 m pc ls (st.map (q_v G))) Y.here.top hk' (by rw [he]; exact hcf) hcp]
  exact a
theorem w_rawD : Cond.native (⟨"java/lang/Double", "doubleToRawLongBits", "(D)J"⟩ : MethodName) ∈ lwA ∧ Cond.static (⟨"java/lang/Double", "doubleToRawLongBits", "(D)J"⟩ : MethodName) ∈ lwA ∧ Cond.initialized "java/lang/Double" ∈ lwA ∧ Cond.methodLink RJxe99ae 134 (⟨"java/lang/Double", "doubleToRawLongBits", "(D)J"⟩ : MethodName) ∈ lwA := ⟨List.mem_filter.mpr ⟨List.mem_append_right _ (List.mem_append_right _ (List.mem_append_right _ (List.mem_append_right _ (List.mem_append_right _ (List.mem_append_right _ (List.mem_of_getElem? (i := 192) rfl)))))), rfl⟩, List.mem_filter.mpr ⟨List.mem_append_right _ (List.mem_append_right _ (List.mem_append_right _ (List.mem_append_right _ (List.mem_append_right _ (List.mem_append_right _ (List.mem_of_getElem? (i := 191) rfl)))))), rfl⟩, List.mem_filter.mpr ⟨List.mem_append_right _ (List.mem_append_left _ (List.mem_of_getElem? (i := 13) rfl)), rfl⟩, List.mem_filter.mpr ⟨List.mem_append_right _ (List.mem_append_right _ (List.mem_append_right _ (List.mem_append_right _ (List.mem_append_right _ (List.mem_append_right _ (List.mem_of_getElem? (i := 190) rfl)))))), rfl⟩⟩
theorem w_rawF : Cond.native (⟨"java/lang/Float", "floatToRawIntBits", "(F)I"⟩ : MethodName) ∈ lwA ∧ Cond.static (⟨"java/lang/Float", "floatToRawIntBits", "(F)I"⟩ : MethodName) ∈ lwA ∧ Cond.initialized "java/lang/Float" ∈ lwA ∧ Cond.methodLink RJxf58ca 74 (⟨"java/lang/Float", "floatToRawIntBits", "(F)I"⟩ : MethodName) ∈ lwA := ⟨List.mem_filter.mpr ⟨List.mem_append_right _ (List.mem_append_right _ (List.mem_append_right _ (List.mem_append_right _ (List.mem_append_right _ (List.mem_append_right _ (List.mem_of_getElem? (i := 202) rfl)))))), rfl⟩, List.mem_filter.mpr ⟨List.mem_append_right _ (List.mem_append_right _ (List.mem_append_right _ (List.mem_append_right _ (List.mem_append_right _ (List.mem_append_right _ (List.mem_of_getElem? (i := 201) rfl)))))), rfl⟩, List.mem_filter.mpr ⟨List.mem_append_right _ (List.mem_append_left _ (List.mem_of_getElem? (i := 14) rfl)), rfl⟩, List.mem_filter.mpr ⟨List.mem_append_right _ (List.mem_append_right _ (List.mem_append_right _ (List.mem_append_right _ (List.mem_append_right _ (List.mem_append_right _ (List.mem_of_getElem? (i := 200) rfl)))))), rfl⟩⟩
theorem e_rawD {M : qM} {d pc : Nat} {L : List (Option qV)} {st : List qV} {n : Nat} {h : qB} {kc ks : Nat} {P : qP} {X : qX} {idx : Nat} {v : UInt64} (hm : Cond.methodLink M.1.cls idx (⟨"java/lang/Double", "doubleToRawLongBits", "(D)J"⟩ : MethodName) ∈ lwA) (hd : 1 ≤ d) (hr : q_cats st ≤ 8) (dg : decode M.2.1 pc = .ok (.invokestatic idx, 3)) (k : Ev M d (pc + 3) L (qL v.toInt64 :: st) n h kc ks P X) : Ev M d pc L (qD v :: st) n h kc ks P X := by
  intro G p l e R s m args below meth c H locs ls C hl hP hz hS cells slots hu hcc hs
  obtain ⟨hx, hb, hml, hown, hts, hrt, hlocks, htab, hstr, hnm, hK, hdR, hlR, hsx⟩ := id C
  exact vn_d2l hx hb (hml.trans hl.1.symm) hown (hts _ hm) (hts _ w_rawD.1) (hts _ w_rawD.2.1) (hts _ w_rawD.2.2.1) (by omega) (by rw [q_cats_eq]; omega) dg (k G p l e R s m args below meth c H locs ls C hl hP hz hS cells slots hu hcc hs)
theorem e_rawF {M : qM} {d pc : Nat} {L : List (Option qV)} {st : List qV} {n : Nat} {h : qB} {kc ks : Nat} {P : qP} {X : qX} {idx : Nat} {v : UInt32} (hm : Cond.methodLink M.1.cls idx (⟨"java/lang/Float", "floatToRawIntBits", "(F)I"⟩ : MethodName) ∈ lwA) (hd : 1 ≤ d) (hr : q_cats st ≤ 8) (dg : decode M.2.1 pc = .ok (.invokestatic idx, 3)) (k : Ev M d (pc + 3) L (qI v.toInt32 :: st) n h kc ks P X) : Ev M d pc L (qF v :: st) n h kc ks P X := by
  intro G p l e R s m args below meth c H locs ls C hl hP hz hS cells slots hu hcc hs
  obtain ⟨hx, hb, hml, hown, hts, hrt, hlocks, htab, hstr, hnm, hK, hdR, hlR, hsx⟩ := id C
  exact vn_f2i hx hb (hml.trans hl.1.symm) hown (hts _ hm) (hts _ w_rawF.1) (hts _ w_rawF.2.1) (hts _ w_rawF.2.2.1) (by omega) (by rw [q_cats_eq]; omega) dg (k G p l e R s m args below meth c H locs ls C hl hP hz hS cells slots hu hcc hs)
def m_ls (X : qm) : UInt64 := if X.1 0 1 = 0 then FP.dconst0 else FP.ddiv (FP.i2d (nI (X.1 0 3))) (FP.i2d (nI (X.1 0 1)))
/-- a share is 0, or between the half to the 31st and 1 -/
def q_dd (x : UInt64) : Prop := x = FP.dconst0 ∨ ∃ e t, 992 ≤ e ∧ e ≤ 1023 ∧ t < 4503599627370496 ∧ x = dD e t
theorem q_dd_nn {x : UInt64} (h : q_dd x) : vf_n64 x := by
  rcases h with rfl | ⟨e, t, h0, h1, h2, rfl⟩
  · unfold vf_n64 FP.dconst0; decide
  · exact g_nn h1 h2
theorem q_dd_self {x : UInt64} (h : q_dd x) : FP.dcmp x x = some .eq := by
  rcases h with rfl | ⟨e, t, h0, h1, h2, rfl⟩
  · decide +kernel
  · exact g_self h0 h1 h2
theorem m_ls_dd {X : qm} (h1 : X.1 0 3 ≤ X.1 0 1) (h2 : X.1 0 1 < 2 ^ 31) : q_dd (m_ls X) := by
  unfold m_ls
  by_cases q : X.1 0 1 = 0
  · rw [if_pos q]; exact Or.inl rfl
  · rw [if_neg q]
    by_cases q2 : X.1 0 3 = 0
    · rw [q2]; exact Or.inl (g_zero (by omega) h2)
    · obtain ⟨e, t, a, b, c, d⟩ := g_quot (l := X.1 0 3) (s := X.1 0 1) (by omega) h1 h2
      exact Or.inr ⟨e, t, a, b, c, d⟩
theorem m_ls_nn {X : qm} (h1 : X.1 0 3 ≤ X.1 0 1) (h2 : X.1 0 1 < 2 ^ 31) (q : ¬ X.1 0 1 = 0) : vf_n64 (FP.ddiv (FP.i2d (nI (X.1 0 3))) (FP.i2d (nI (X.1 0 1)))) := by
  have a := q_dd_nn (m_ls_dd h1 h2)
  unfold m_ls at a
  rw [if_neg q] at a
  exact a
theorem cv_gt : Op.cmpValue (some .gt) .g = 1 := rfl
theorem d_bits {e t : Nat} (he : e < 1024) : Int64.ofNat e <<< ((nI 52).toInt64 &&& 63) + Int64.ofNat t = (dD e t).toInt64 := by
  have h : ∀ e, e < 1024 → Int64.ofNat e <<< ((nI 52).toInt64 &&& 63) = Int64.ofNat (e * 4503599627370496) := by decide +kernel
  rw [h e he]
  show _ = Int64.ofNat (e * 4503599627370496 + t)
  exact (Int64.ofNat_add _ _).symm
set_option maxRecDepth 20000 in
set_option maxHeartbeats 4000000 in
theorem v_lostShare (h : qB) (pi : Nat → Option qK) (buf : Nat → Int32) (cnt sn len : Int32) (rd : Nat → Int32) (w : Fin 16 → qw) (X : qm) (hR : RelC (w 1) X) (hJ : J X) (h1 : X.1 0 3 ≤ X.1 0 1) (h2 : X.1 0 1 < 2 ^ 31) : CtD mX2_lostShare 0 [qR 0 0] (hK h (oC pi buf cnt sn len rd) w 10) (fun r h2 => r = m_ls X ∧ h2 = hK h (oC pi buf cnt sn len rd) w 10) := by
  refine ct_of (by decide +kernel) rfl rfl (Nat.le_of_ble_eq_true rfl) ?_
  show Ev mX2_lostShare 0 0 [some (qR 0 0)] [] 132 (hK h (oC pi buf cnt sn len rd) w 10) 0 0 _ _
  refine e_aload0 dX2_lostShare_0 ?_
  refine e_get0 flX2_10 dX2_lostShare_1 rfl rfl ?_
  refine e_getW flX2_236 dX2_lostShare_4 (by decide) (by decide) rfl rfl ?_
  rw [rC15 hR]
  first | refine e_if_neN 12 dX2_lostShare_7 (by decide) (by omega) (fun hc7 => ?_) (fun hc7 => ?_) | refine e_if_ne 12 dX2_lostShare_7 (by decide) (fun hc7 => ?_) (fun hc7 => ?_)
  · refine e_aload0 dX2_lostShare_12 ?_
    refine e_get0 flX2_10 dX2_lostShare_13 rfl rfl ?_
    refine e_getW flX2_242 dX2_lostShare_16 (by decide) (by decide) rfl rfl ?_
    rw [rC17 hR]
    refine e_i2d dX2_lostShare_19 ?_
    refine e_aload0 dX2_lostShare_20 ?_
    refine e_get0 flX2_10 dX2_lostShare_21 rfl rfl ?_
    refine e_getW flX2_236 dX2_lostShare_24 (by decide) (by decide) rfl rfl ?_
    rw [rC15 hR]
    refine e_i2d dX2_lostShare_27 ?_
    refine e_ddiv dX2_lostShare_28 (m_ls_nn h1 h2 hc7) ?_
    refine e_dret dX2_lostShare_29 rfl ?_
    exact ⟨_, rfl, rfl, by unfold m_ls; rw [if_neg hc7], rfl⟩
  · refine e_dconst0 dX2_lostShare_10 ?_
    refine e_dret dX2_lostShare_11 rfl ?_
    exact ⟨_, rfl, rfl, by unfold m_ls; rw [if_pos hc7], rfl⟩
set_option maxRecDepth 20000 in
set_option maxHeartbeats 4000000 in
theorem r_shareLost (h : qB) (th : Int32) (sf asd sts snp txt rdd : Nat → Int32) (cnt hq len pt iw rm : Int32) (X : qm) (hR : RelR sf X) (h1 : X.1 0 3 ≤ X.1 0 1) (h2 : X.1 0 1 < 2 ^ 31) : CtD mX3_shareLost 0 [qR 11 0] (q_put h 11 (oR th sf asd sts snp txt rdd cnt hq len pt iw rm)) (fun r h2 => r = m_ls X ∧ h2 = q_put h 11 (oR th sf asd sts snp txt rdd cnt hq len pt iw rm)) := by
  refine ct_of (by decide +kernel) rfl rfl (Nat.le_of_ble_eq_true rfl) ?_
  show Ev mX3_shareLost 0 0 [some (qR 11 0)] [] 132 (q_put h 11 (oR th sf asd sts snp txt rdd cnt hq len pt iw rm)) 0 0 _ _
  refine e_aload0 dX3_shareLost_0 ?_
  refine e_getfieldF flX3_7 dX3_shareLost_1 rfl rfl ?_
  refine e_bipush (v := nI 10) dX3_shareLost_4 (by decide) ?_
  refine e_ialoadN dX3_shareLost_6 rfl (by omega) (by decide) ?_
  rw [rR3 hR]
  first | refine e_if_neN 14 dX3_shareLost_7 (by decide) (by omega) (fun hc7 => ?_) (fun hc7 => ?_) | refine e_if_ne 14 dX3_shareLost_7 (by decide) (fun hc7 => ?_) (fun hc7 => ?_)
  · refine e_aload0 dX3_shareLost_14 ?_
    refine e_getfieldF flX3_7 dX3_shareLost_15 rfl rfl ?_
    refine e_bipush (v := nI 12) dX3_shareLost_18 (by decide) ?_
    refine e_ialoadN dX3_shareLost_20 rfl (by omega) (by decide) ?_
    rw [rR5 hR]
    refine e_i2d dX3_shareLost_21 ?_
    refine e_aload0 dX3_shareLost_22 ?_
    refine e_getfieldF flX3_7 dX3_shareLost_23 rfl rfl ?_
    refine e_bipush (v := nI 10) dX3_shareLost_26 (by decide) ?_
    refine e_ialoadN dX3_shareLost_28 rfl (by omega) (by decide) ?_
    rw [rR3 hR]
    refine e_i2d dX3_shareLost_29 ?_
    refine e_ddiv dX3_shareLost_30 (m_ls_nn h1 h2 hc7) ?_
    refine e_dret dX3_shareLost_31 rfl ?_
    first
      | exact ⟨_, rfl, rfl, by unfold m_ls; rw [if_pos hc7], rfl⟩
      | exact ⟨_, rfl, rfl, by unfold m_ls; rw [if_neg hc7], rfl⟩
  · refine e_dconst0 dX3_shareLost_10 ?_
    refine e_goto 31 dX3_shareLost_11 (by decide) ?_
    refine e_dret dX3_shareLost_31 rfl ?_
    first
      | exact ⟨_, rfl, rfl, by unfold m_ls; rw [if_pos hc7], rfl⟩
      | exact ⟨_, rfl, rfl, by unfold m_ls; rw [if_neg hc7], rfl⟩
theorem i64_sub {e i : Nat} (h : e + i = 1023) : (1023 : Int64) - Int64.ofNat i = Int64.ofNat e := by
  have h1 : (1023 : Int64) = Int64.ofNat e + Int64.ofNat i := by rw [← Int64.ofNat_add, h]; rfl
  rw [h1, Int64.add_sub_cancel]
theorem i64_dec {i : Nat} : (1023 : Int64) - Int64.ofNat i - 1 = 1023 - Int64.ofNat (i + 1) := by
  rw [Int64.ofNat_add, Int64.sub_eq_add_neg, Int64.sub_eq_add_neg, Int64.sub_eq_add_neg, Int64.neg_add, Int64.sub_eq_add_neg, Int64.add_assoc]
  rfl
set_option maxRecDepth 20000 in
set_option maxHeartbeats 4000000 in
theorem v_bitsOfShare (h : qB) {x : UInt64} (hx : q_dd x) : CtL mX2_bitsOfShare 0 [qD x] (h) (fun r h2 => r = x.toInt64 ∧ h2 = h) := by
  refine ct_of (by decide +kernel) rfl rfl (Nat.le_of_ble_eq_true rfl) ?_
  show Ev mX2_bitsOfShare 0 0 [some (qD x), none, none, none, none, none, none] [] 132 (h) 0 0 _ _
  refine e_dload0 dX2_bitsOfShare_0 ?_
  refine e_dconst0 dX2_bitsOfShare_1 ?_
  refine e_dcmp dX2_bitsOfShare_2 ?_
  rcases hx with rfl | ⟨e, t, h0, h1, ht, rfl⟩
  · refine e_if_gt 8 dX2_bitsOfShare_3 (by decide) (fun q => absurd q (by decide +kernel)) (fun _ => ?_)
    refine e_lconst (v := 0) dX2_bitsOfShare_6 (by decide) ?_
    refine e_lret dX2_bitsOfShare_7 rfl ?_
    exact ⟨_, rfl, rfl, rfl, rfl⟩
  · rw [g_pos h0 h1 ht]
    refine e_if_gt 8 dX2_bitsOfShare_3 (by decide) (fun _ => ?_) (fun q => absurd (by decide) q)
    refine e_ldcL ckX2_404 dX2_bitsOfShare_8 ?_
    refine e_lstore2 dX2_bitsOfShare_11 rfl (by decide) ?_
    refine e_dload0 dX2_bitsOfShare_12 ?_
    refine e_dstore4 dX2_bitsOfShare_13 rfl (by decide) ?_
    refine e_iconst (z := 0) dX2_bitsOfShare_15 ?_
    refine e_istore6 dX2_bitsOfShare_16 rfl (by decide) ?_
    have H : ∀ (m i : Nat), i ≤ 1023 - e → m = 1023 - e - i →  Ev mX2_bitsOfShare 0 18 [some (qD (dD e t)), none, some (qL (1023 - Int64.ofNat i)), none, some (qD (dD (e + i) t)), none, some (qI (nI i))] [] 132 (h) 0 0 (fun r n h' => ∃ x, r = some (qL x) ∧ n = 132 ∧ ((fun r h2 => r = (dD e t).toInt64 ∧ h2 = h)) x h') qNo := by
      intro m
      induction m using Nat.strongRecOn with
      | _ m ih =>
      intro i hi hm
      refine e_iload6 dX2_bitsOfShare_18 ?_
      refine e_sipush (v := nI 1022) dX2_bitsOfShare_20 (by decide) ?_
      refine e_icmp_geN 51 dX2_bitsOfShare_23 (by decide) (by first | omega | decide) (by first | omega | decide) (fun q => absurd q (by omega)) (fun hc23 => ?_)
      refine e_dload4 dX2_bitsOfShare_26 ?_
      refine e_dconst1 dX2_bitsOfShare_28 ?_
      refine e_dcmp dX2_bitsOfShare_29 ?_
      by_cases hlt : e + i < 1023
      · rw [g_lt (by omega) hlt ht]
        refine e_if_ge 51 dX2_bitsOfShare_30 (by decide) (fun q => absurd q (by decide)) (fun _ => ?_)
        refine e_dload4 dX2_bitsOfShare_33 ?_
        refine e_ldcD ckX2_406 dX2_bitsOfShare_35 ?_
        refine e_dmul dX2_bitsOfShare_38 (by rw [g_two (by omega) hlt ht]; exact g_nn (by omega) ht) ?_
        rw [g_two (by omega) hlt ht]
        refine e_dstore4 dX2_bitsOfShare_39 rfl (by decide) ?_
        refine e_lload2 dX2_bitsOfShare_41 ?_
        refine e_lconst (v := 1) dX2_bitsOfShare_42 (by decide) ?_
        refine e_lsub dX2_bitsOfShare_43 ?_
        refine e_lstore2 dX2_bitsOfShare_44 rfl (by decide) ?_
        rw [show 1023 - Int64.ofNat i - 1 = 1023 - Int64.ofNat (i + 1) from i64_dec]
        first | refine e_iinc6N (z := 1) dX2_bitsOfShare_45 rfl (by decide) ?_ | refine e_iinc6 dX2_bitsOfShare_45 rfl rfl (by decide) ?_
        refine e_goto 18 dX2_bitsOfShare_48 (by decide) ?_
        refine (show Ev _ _ _ [some (qD (dD e t)), none, some (qL (1023 - Int64.ofNat (i + 1))), none, some (qD (dD (e + (i + 1)) t)), none, some (qI (nI (i + 1)))] _ _ _ _ _ _ _ from ?_)
        exact ih _ (by omega) (i + 1) (by omega) rfl
      · have he9 : e + i = 1023 := by omega
        rw [he9]
        have hg := g_end ht
        refine e_if_ge 51 dX2_bitsOfShare_30 (by decide) (fun _ => ?_) (fun q => absurd (by rcases g_ge ht with c | c <;> rw [c] <;> decide) q)
        refine e_lload2 dX2_bitsOfShare_51 ?_
        refine e_bipush (v := nI 52) dX2_bitsOfShare_52 (by decide) ?_
        refine e_lshl dX2_bitsOfShare_54 ?_
        refine e_dload4 dX2_bitsOfShare_55 ?_
        refine e_dconst1 dX2_bitsOfShare_57 ?_
        refine e_dsub dX2_bitsOfShare_58 hg.1 ?_
        refine e_ldcD ckX2_408 dX2_bitsOfShare_59 ?_
        refine e_dmul dX2_bitsOfShare_62 hg.2.1 ?_
        refine e_d2l dX2_bitsOfShare_63 ?_
        refine e_ladd dX2_bitsOfShare_64 ?_
        refine e_lret dX2_bitsOfShare_65 rfl ?_
        exact ⟨_, rfl, rfl, by rw [hg.2.2, show 1023 - Int64.ofNat i = Int64.ofNat e from i64_sub (by omega)]; exact d_bits (by omega), rfl⟩
    exact H _ 0 (Nat.zero_le _) rfl
set_option maxRecDepth 20000 in
set_option maxHeartbeats 4000000 in
theorem j_isNaN (h : qB) {x : UInt64} (hx : q_dd x) : CtI mJxe99ae_isNaN_b9ae7 0 [qD x] (h) (fun r h2 => r = nI 0 ∧ h2 = h) := by
  refine ct_of (by decide +kernel) rfl rfl (Nat.le_of_ble_eq_true rfl) ?_
  show Ev mJxe99ae_isNaN_b9ae7 0 0 [some (qD x), none] [] 132 (h) 0 0 _ _
  refine e_dload0 dJxe99ae_isNaN_b9ae7_0 ?_
  refine e_dload0 dJxe99ae_isNaN_b9ae7_1 ?_
  refine e_dcmp dJxe99ae_isNaN_b9ae7_2 ?_
  rw [q_dd_self hx]
  refine e_if_eq 10 dJxe99ae_isNaN_b9ae7_3 (by decide) (fun hc3 => ?_) (fun q => absurd rfl q)
  refine e_iconst (z := 0) dJxe99ae_isNaN_b9ae7_10 ?_
  refine e_zret dJxe99ae_isNaN_b9ae7_11 rfl (by first | rfl | exact q_nar _) ?_
  exact ⟨_, rfl, rfl, rfl, rfl⟩
set_option maxRecDepth 20000 in
set_option maxHeartbeats 4000000 in
theorem j_bitsD (h : qB) {x : UInt64} (hx : q_dd x) : CtL mJxe99ae_doubleToLongBits_ccdee 1 [qD x] (h) (fun r h2 => r = x.toInt64 ∧ h2 = h) := by
  refine ct_of (by decide +kernel) rfl rfl (Nat.le_of_ble_eq_true rfl) ?_
  show Ev mJxe99ae_doubleToLongBits_ccdee 1 0 [some (qD x), none] [] 132 (h) 0 0 _ _
  refine e_dload0 dJxe99ae_doubleToLongBits_ccdee_0 ?_
  refine e_sI (M' := mJxe99ae_isNaN_b9ae7) fJxe99ae_isNaN_b9ae7 lkJxe99ae_122 (j_isNaN _ hx) rfl rfl dJxe99ae_doubleToLongBits_ccdee_1 (by decide) (Nat.le_of_ble_eq_true rfl) rfl ?_
  rintro _ _ ⟨rfl, rfl⟩
  refine e_if_neN 12 dJxe99ae_doubleToLongBits_ccdee_4 (by decide) (by first | omega | decide) (fun q => absurd rfl q) (fun hc4 => ?_)
  refine e_dload0 dJxe99ae_doubleToLongBits_ccdee_7 ?_
  refine e_rawD w_rawD.2.2.2 (by decide) (by decide) dJxe99ae_doubleToLongBits_ccdee_8 ?_
  refine e_lret dJxe99ae_doubleToLongBits_ccdee_11 rfl ?_
  exact ⟨_, rfl, rfl, rfl, rfl⟩
