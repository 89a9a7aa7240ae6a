/-! THE CLASS: courses -/
set_option maxRecDepth 20000 in
set_option maxHeartbeats 4000000 in
theorem v_firstError (h : qB) (pi : Nat → Option qK) (buf : Nat → Int32) (cnt sn : Int32) (rd : Nat → Int32) (w : Fin 16 → qw) {tx : Nat → Nat} {nt : Nat} (hn : nt ≤ 60) (htx : ∀ i, i < nt → buf i = nI (tx i) ∧ 33 ≤ tx i ∧ tx i ≤ 126) : CtI mX2_firstError 4 [qR 0 0] (hK h (oC pi buf cnt sn (nI nt) rd) w 10) (fun r h2 => r = nI (t_err tx nt) ∧ ∃ rd', h2 = hK h (oC pi buf cnt sn (nI nt) rd') w 10 ∧ RdR rd' (t_go tx nt t_0 0).2 ∧ t_wf (t_go tx nt t_0 0).2) := by
  refine ct_of (by decide +kernel) rfl rfl (Nat.le_of_ble_eq_true rfl) ?_
  show Ev mX2_firstError 4 0 [some (qR 0 0), none] [] 132 (hK h (oC pi buf cnt sn (nI nt) rd) w 10) 0 0 _ _
  refine e_aload0 dX2_firstError_0 ?_
  refine e_get0 flX2_36 dX2_firstError_1 rfl rfl ?_
  refine e_vV (M' := mX0_restart) fX0_restart lkX2_149 (x_restart h pi buf cnt sn (nI nt) rd w) rfl rfl dX2_firstError_4 (by rw [hK_0]; rfl) rfl (by decide) (Nat.le_of_ble_eq_true rfl) rfl ?_
  rintro _ rfl
  refine e_iconst (z := 0) dX2_firstError_7 ?_
  refine e_istore1 dX2_firstError_8 rfl (by decide) ?_
  have H : ∀ (m i : Nat) (rd2 : Nat → Int32) (s2 : qt) (l : List qt), i ≤ nt → m = nt - i → TP tx nt i s2 l → RdR rd2 s2 → Ev mX2_firstError 4 9 [some (qR 0 0), some (qI (nI i))] [] 132 (hK h (oC pi buf cnt sn (nI nt) rd2) w 10) 0 0 (fun r n h' => ∃ x, r = some (qI x) ∧ n = 132 ∧ ((fun r h2 => r = nI (t_err tx nt) ∧ ∃ rd', h2 = hK h (oC pi buf cnt sn (nI nt) rd') w 10 ∧ RdR rd' (t_go tx nt t_0 0).2 ∧ t_wf (t_go tx nt t_0 0).2)) x h') qNo := by
    intro m
    induction m using Nat.strongRecOn with
    | _ m ih =>
    intro i rd2 s2 l hi hm hp hr2
    refine e_iload1 dX2_firstError_9 ?_
    refine e_aload0 dX2_firstError_10 ?_
    refine e_get0 flX2_48 dX2_firstError_11 rfl rfl ?_
    first | refine e_icmp_geN 41 dX2_firstError_14 (by decide) (by omega) (by omega) (fun hc14 => ?_) (fun hc14 => ?_) | refine e_icmp_ge 41 dX2_firstError_14 (by decide) (fun hc14 => ?_) (fun hc14 => ?_)
    · refine e_aload0 dX2_firstError_41 ?_
      refine e_get0 flX2_48 dX2_firstError_42 rfl rfl ?_
      refine e_iret dX2_firstError_45 rfl ?_
      obtain rfl : i = nt := by omega
      have e := (tp_end hp).1
      exact ⟨_, rfl, rfl, by unfold t_err; rw [e], rd2, rfl, by rw [e]; exact hr2, by rw [e]; exact hp.2.2.2⟩
    · refine e_aload0 dX2_firstError_17 ?_
      refine e_get0 flX2_36 dX2_firstError_18 rfl rfl ?_
      refine e_aload0 dX2_firstError_21 ?_
      refine e_get0 flX2_29 dX2_firstError_22 rfl rfl ?_
      refine e_iload1 dX2_firstError_25 ?_
      first | refine e_ialoadW dX2_firstError_26 (by decide) (by decide) rfl (by omega) (by decide) ?_ | refine e_ialoadB dX2_firstError_26 rfl (by omega) (by decide) ?_
      have hti := htx i (by omega)
      rw [hti.1]
      refine e_vI (M' := mX0_accepts) fX0_accepts lkX2_152 (x_accepts h pi buf cnt sn (nI nt) rd2 w hr2 hp.2.2.2 (c := tx i) (by omega)) rfl rfl dX2_firstError_27 (by rw [hK_0]; rfl) rfl (by decide) (Nat.le_of_ble_eq_true rfl) rfl ?_
      rintro _ _ ⟨rd3, rfl, (⟨s3, hs3, rfl, hr3⟩ | ⟨hs3, rfl, hr3⟩)⟩
      · skip
        refine e_if_neN 35 dX2_firstError_30 (by decide) (by first | omega | decide) (fun hc30 => ?_) (fun q => absurd q (by decide))
        first | refine e_iinc1N (z := 1) dX2_firstError_35 rfl (by decide) ?_ | refine e_iinc1 dX2_firstError_35 rfl rfl (by decide) ?_
        refine e_goto 9 dX2_firstError_38 (by decide) ?_
        exact ih _ (by omega) (i + 1) rd3 s3 _ (by omega) rfl (tp_step hp (by omega) hs3) hr3
      · skip
        refine e_if_neN 35 dX2_firstError_30 (by decide) (by first | omega | decide) (fun q => absurd rfl q) (fun hc30 => ?_)
        refine e_iload1 dX2_firstError_33 ?_
        refine e_iret dX2_firstError_34 rfl ?_
        have e := tp_err hp (by omega) hs3
        exact ⟨_, rfl, rfl, by unfold t_err; rw [e], rd3, rfl, by rw [e]; exact hr3, by rw [e]; exact hp.2.2.2⟩
  exact H _ 0 _ t_0 [] (Nat.zero_le _) rfl (tp_0 tx nt) rdr_0
