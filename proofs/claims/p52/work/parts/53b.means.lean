set_option maxRecDepth 20000 in
set_option maxHeartbeats 4000000 in
theorem v_meanSize (h : qB) (pi : Nat → Option qK) (buf : Nat → Int32) (cnt sn len : Int32) (rd : Nat → Int32) (w : Fin 16 → qw) (X : qm) (hR : RelC (w 1) X) (hJ : J X) : CtF mX2_meanSize 0 [qR 0 0] (hK h (oC pi buf cnt sn len rd) w 10) (fun r h2 => r = m_mean X ∧ h2 = hK h (oC pi buf cnt sn len rd) w 10) := by
  have i1 := iV1 hJ.1
  refine ct_of (by decide +kernel) rfl rfl (Nat.le_of_ble_eq_true rfl) ?_
  show Ev mX2_meanSize 0 0 [some (qR 0 0), none, none] [] 124 (hK h (oC pi buf cnt sn len rd) w 10) 0 0 _ _
  refine e_aload0 dX2_meanSize_0 ?_
  refine e_get0 flX2_10 dX2_meanSize_1 rfl rfl ?_
  refine e_getW flX2_175 dX2_meanSize_4 (by decide) (by decide) rfl rfl ?_
  rw [rC0 hR]
  first | refine e_if_neN 12 dX2_meanSize_7 (by decide) (by omega) (fun hc7 => ?_) (fun hc7 => ?_) | refine e_if_ne 12 dX2_meanSize_7 (by decide) (fun hc7 => ?_) (fun hc7 => ?_)
  · refine e_iconst (z := 0) dX2_meanSize_12 ?_
    refine e_istore1 dX2_meanSize_13 rfl (by decide) ?_
    refine e_iconst (z := 0) dX2_meanSize_14 ?_
    refine e_istore2 dX2_meanSize_15 rfl (by decide) ?_
    have H : ∀ (m i : Nat) (v : Nat), i ≤ X.1 0 0 → m = X.1 0 0 - i → v = m_sz X i → Ev mX2_meanSize 0 16 [some (qR 0 0), some (qI (nI v)), some (qI (nI i))] [] 124 (hK h (oC pi buf cnt sn len rd) w 10) 0 0 (fun r n h' => ∃ x, r = some (qF x) ∧ n = 124 ∧ ((fun r h2 => r = m_mean X ∧ h2 = hK h (oC pi buf cnt sn len rd) w 10)) x h') qNo := by
      intro m
      induction m using Nat.strongRecOn with
      | _ m ih =>
      intro i v hi hm hv
      refine e_iload2 dX2_meanSize_16 ?_
      refine e_aload0 dX2_meanSize_17 ?_
      refine e_get0 flX2_10 dX2_meanSize_18 rfl rfl ?_
      refine e_getW flX2_175 dX2_meanSize_21 (by decide) (by decide) rfl rfl ?_
      rw [rC0 hR]
      first | refine e_icmp_geN 45 dX2_meanSize_24 (by decide) (by omega) (by omega) (fun hc24 => ?_) (fun hc24 => ?_) | refine e_icmp_ge 45 dX2_meanSize_24 (by decide) (fun hc24 => ?_) (fun hc24 => ?_)
      · obtain rfl : i = X.1 0 0 := by omega
        subst hv
        refine e_iload1 dX2_meanSize_45 ?_
        refine e_i2f dX2_meanSize_46 ?_
        refine e_aload0 dX2_meanSize_47 ?_
        refine e_get0 flX2_10 dX2_meanSize_48 rfl rfl ?_
        refine e_getW flX2_175 dX2_meanSize_51 (by decide) (by decide) rfl rfl ?_
        rw [rC0 hR]
        refine e_i2f dX2_meanSize_54 ?_
        refine e_fdiv dX2_meanSize_55 (f_chk_of (m_mean_chk hJ hc7)).1 ?_
        refine e_fret dX2_meanSize_56 rfl ?_
        exact ⟨_, rfl, rfl, by unfold m_mean; rw [if_neg hc7]; rfl, rfl⟩
      · refine e_iload1 dX2_meanSize_27 ?_
        refine e_aload0 dX2_meanSize_28 ?_
        refine e_get0 flX2_10 dX2_meanSize_29 rfl rfl ?_
        refine e_getW flX2_252 dX2_meanSize_32 (by decide) (by decide) rfl rfl ?_
        refine e_iload2 dX2_meanSize_35 ?_
        first | refine e_ialoadW dX2_meanSize_36 (by decide) (by decide) rfl (by omega) (by decide) ?_ | refine e_ialoadB dX2_meanSize_36 rfl (by omega) (by decide) ?_
        rw [rC1 hR i (by omega)]
        first | refine e_iaddN dX2_meanSize_37 ?_ | refine e_iadd dX2_meanSize_37 ?_
        refine e_istore1 dX2_meanSize_38 rfl (by decide) ?_
        first | refine e_iinc2N (z := 1) dX2_meanSize_39 rfl (by decide) ?_ | refine e_iinc2 dX2_meanSize_39 rfl rfl (by decide) ?_
        refine e_goto 16 dX2_meanSize_42 (by decide) ?_
        exact ih _ (by omega) (i + 1) _ (by omega) rfl (by rw [m_sz, hv])
    exact H _ 0 _ (Nat.zero_le _) rfl rfl
  · refine e_fconst0 dX2_meanSize_10 ?_
    refine e_fret dX2_meanSize_11 rfl ?_
    exact ⟨_, rfl, rfl, by unfold m_mean; rw [if_pos hc7], rfl⟩
