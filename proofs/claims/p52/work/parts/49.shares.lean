/-! SHARES AND MEANS: rows, and both programs -/
theorem e_ldcFW {M : qM} {d pc : Nat} {L : List (Option qV)} {st : List qV} {n : Nat} {h : qB} {kc ks : Nat} {P : qP} {X : qX} {idx : Nat} {v : UInt32} (hc : Cond.constantFloat M.1.cls idx v ∈ lwA) (dg : decode M.2.1 pc = .ok (.ldc_w idx, 3)) (k : Ev M d (pc + 3) L (qF v :: st) n h kc ks P X) : Ev M d pc L st n h kc ks P X := by
  intro G p l e R s m args below meth c H locs ls C hl hP hz hS cells slots hu hcc hs
  have K := k G p l e R s m args below meth c H locs ls C hl hP hz hS cells slots hu hcc hs
  intro T hT Y
  obtain ⟨t, a, b⟩ := K T hT Y
  refine ⟨t, ?_, b⟩
  obtain ⟨k0, cf, hk, hcf, hcp⟩ := Cond.constantFloat_spec C.2.2.2.1 (C.2.2.2.2.1 _ hc)
  obtain ⟨k', hk', he⟩ := Y.warmed.alike.2.2 _ _ hk
  have hdg : decode c.code pc = .ok (.ldc_w idx, 3) := by rw [C.2.1]; exact dg
  have hx := C.1
  jvm_step Y.here [hx, hdg, ldc_w.wp_float (s := T) (f := F0 m pc ls (st.map (q_v G))) Y.here.top hk' (by rw [he]; exact hcf) hcp]
  exact a
def m_ls (X : qm) : UInt64 := if X.1 0 1 = 0 then FP.dconst0 else FP.ddiv (FP.i2d (nI (X.1 0 3))) (FP.i2d (nI (X.1 0 1)))
/-- a share is 0, or between the half to the 31st and 1 -/
def q_dd (x : UInt64) : Prop := x = FP.dconst0 ∨ ∃ e t, 992 ≤ e ∧ e ≤ 1023 ∧ t < 4503599627370496 ∧ x = dD e t
theorem q_dd_nn {x : UInt64} (h : q_dd x) : vf_n64 x := by
  rcases h with rfl | ⟨e, t, h0, h1, h2, rfl⟩
  · unfold vf_n64 FP.dconst0; decide
  · exact g_nn h1 h2
theorem q_dd_self {x : UInt64} (h : q_dd x) : FP.dcmp x x = some .eq := by
  rcases h with rfl | ⟨e, t, h0, h1, h2, rfl⟩
  · decide +kernel
  · exact g_self h0 h1 h2
theorem m_ls_dd {X : qm} (h1 : X.1 0 3 ≤ X.1 0 1) (h2 : X.1 0 1 < 2 ^ 31) : q_dd (m_ls X) := by
  unfold m_ls
  by_cases q : X.1 0 1 = 0
  · rw [if_pos q]; exact Or.inl rfl
  · rw [if_neg q]
    by_cases q2 : X.1 0 3 = 0
    · rw [q2]; exact Or.inl (g_zero (by omega) h2)
    · obtain ⟨e, t, a, b, c, d⟩ := g_quot (l := X.1 0 3) (s := X.1 0 1) (by omega) h1 h2
      exact Or.inr ⟨e, t, a, b, c, d⟩
theorem m_ls_nn {X : qm} (h1 : X.1 0 3 ≤ X.1 0 1) (h2 : X.1 0 1 < 2 ^ 31) (q : ¬ X.1 0 1 = 0) : vf_n64 (FP.ddiv (FP.i2d (nI (X.1 0 3))) (FP.i2d (nI (X.1 0 1)))) := by
  have a := q_dd_nn (m_ls_dd h1 h2)
  unfold m_ls at a
  rw [if_neg q] at a
  exact a
theorem cv_gt : Op.cmpValue (some .gt) .g = 1 := rfl
theorem d_bits {e t : Nat} (he : e < 1024) : Int64.ofNat e <<< ((nI 52).toInt64 &&& 63) + Int64.ofNat t = (dD e t).toInt64 := by
  have h : ∀ e, e < 1024 → Int64.ofNat e <<< ((nI 52).toInt64 &&& 63) = Int64.ofNat (e * 4503599627370496) := by decide +kernel
  rw [h e he]
  show _ = Int64.ofNat (e * 4503599627370496 + t)
  exact (Int64.ofNat_add _ _).symm
set_option maxRecDepth 20000 in
set_option maxHeartbeats 4000000 in
theorem v_lostShare (h : qB) (pi : Nat → Option qK) (buf : Nat → Int32) (cnt sn len : Int32) (rd : Nat → Int32) (w : Fin 16 → qw) (X : qm) (hR : RelC (w 1) X) (hJ : J X) (h1 : X.1 0 3 ≤ X.1 0 1) (h2 : X.1 0 1 < 2 ^ 31) : CtD mX2_lostShare 0 [qR 0 0] (hK h (oC pi buf cnt sn len rd) w 10) (fun r h2 => r = m_ls X ∧ h2 = hK h (oC pi buf cnt sn len rd) w 10) := by
  refine ct_of (by decide +kernel) rfl rfl (Nat.le_of_ble_eq_true rfl) ?_
  show Ev mX2_lostShare 0 0 [some (qR 0 0)] [] 124 (hK h (oC pi buf cnt sn len rd) w 10) 0 0 _ _
  refine e_aload0 dX2_lostShare_0 ?_
  refine e_get0 flX2_10 dX2_lostShare_1 rfl rfl ?_
  refine e_getW flX2_236 dX2_lostShare_4 (by decide) (by decide) rfl rfl ?_
  rw [rC15 hR]
  first | refine e_if_neN 12 dX2_lostShare_7 (by decide) (by omega) (fun hc7 => ?_) (fun hc7 => ?_) | refine e_if_ne 12 dX2_lostShare_7 (by decide) (fun hc7 => ?_) (fun hc7 => ?_)
  · refine e_aload0 dX2_lostShare_12 ?_
    refine e_get0 flX2_10 dX2_lostShare_13 rfl rfl ?_
    refine e_getW flX2_242 dX2_lostShare_16 (by decide) (by decide) rfl rfl ?_
    rw [rC17 hR]
    refine e_i2d dX2_lostShare_19 ?_
    refine e_aload0 dX2_lostShare_20 ?_
    refine e_get0 flX2_10 dX2_lostShare_21 rfl rfl ?_
    refine e_getW flX2_236 dX2_lostShare_24 (by decide) (by decide) rfl rfl ?_
    rw [rC15 hR]
    refine e_i2d dX2_lostShare_27 ?_
    refine e_ddiv dX2_lostShare_28 (m_ls_nn h1 h2 hc7) ?_
    refine e_dret dX2_lostShare_29 rfl ?_
    exact ⟨_, rfl, rfl, by unfold m_ls; rw [if_neg hc7], rfl⟩
  · refine e_dconst0 dX2_lostShare_10 ?_
    refine e_dret dX2_lostShare_11 rfl ?_
    exact ⟨_, rfl, rfl, by unfold m_ls; rw [if_pos hc7], rfl⟩
theorem i64_sub {e i : Nat} (h : e + i = 1023) : (1023 : Int64) - Int64.ofNat i = Int64.ofNat e := by
  have h1 : (1023 : Int64) = Int64.ofNat e + Int64.ofNat i := by rw [← Int64.ofNat_add, h]; rfl
  rw [h1, Int64.add_sub_cancel]
theorem i64_dec {i : Nat} : (1023 : Int64) - Int64.ofNat i - 1 = 1023 - Int64.ofNat (i + 1) := by
  rw [Int64.ofNat_add, Int64.sub_eq_add_neg, Int64.sub_eq_add_neg, Int64.sub_eq_add_neg, Int64.neg_add, Int64.sub_eq_add_neg, Int64.add_assoc]
  rfl
