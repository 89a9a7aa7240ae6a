/-! THE CLASS: a course is run -/
set_option maxRecDepth 20000 in
set_option maxHeartbeats 4000000 in
theorem v_runCourse (h : qB) (pi : Nat → Option qK) (buf : Nat → Int32) (c : Nat) (sn : Int32) (rd : Nat → Int32) (w : Fin 16 → qw) (X : qm) (hR : RelC (w 1) X) (hJ : J X) (Sv : Nat → qm) (hc : c ≤ 6) (hL : RelL pi w c Sv) {tx : Nat → Nat} {nt : Nat} (hn : nt ≤ 60) (htx : ∀ i, i < nt → buf i = nI (tx i) ∧ 33 ≤ tx i ∧ tx i ≤ 126) (hok : t_ok tx nt = true) : CtI mX2_runCourse 7 [qR 0 0] (hK h (oC pi buf (nI c) sn (nI nt) rd) w 10) (fun r h2 => r = nI (t_runN tx nt X) ∧ ∃ pi' w' rd', h2 = hK h (oC pi' buf (nI (m_svC c)) sn (nI 0) rd') w' 10 ∧ RelC (w' 1) (t_run tx nt X).1 ∧ (∀ b : Fin 16, b.val ≤ 4 → b ≠ 1 → w' b = w b) ∧ RelL pi' w' (m_svC c) (m_sv c Sv X)) := by
  refine ct_of (by decide +kernel) rfl rfl (Nat.le_of_ble_eq_true rfl) ?_
  show Ev mX2_runCourse 7 0 [some (qR 0 0), none, none] [] 132 (hK h (oC pi buf (nI c) sn (nI nt) rd) w 10) 0 0 _ _
  refine e_aload0 dX2_runCourse_0 ?_
  refine e_vI (M' := mX2_firstError) fX2_firstError lkX2_155 (v_firstError h pi buf (nI c) sn rd w hn htx) rfl rfl dX2_runCourse_1 (by rw [hK_0]; rfl) rfl (by decide) (Nat.le_of_ble_eq_true rfl) rfl ?_
  rintro _ _ ⟨rfl, rd1, rfl, hr1, hw1⟩
  rw [t_ok_err hok]
  refine e_aload0 dX2_runCourse_4 ?_
  refine e_get0 flX2_48 dX2_runCourse_5 rfl rfl ?_
  refine e_icmp_ltN 21 dX2_runCourse_8 (by decide) (by first | omega | decide) (by first | omega | decide) (fun q => absurd q (by omega)) (fun hc8 => ?_)
  refine e_aload0 dX2_runCourse_11 ?_
  refine e_get0 flX2_36 dX2_runCourse_12 rfl rfl ?_
  refine e_vI (M' := mX0_isComplete) fX0_isComplete lkX2_159 (x_isComplete h pi buf (nI c) sn (nI nt) rd1 w hr1 hw1) rfl rfl dX2_runCourse_15 (by rw [hK_0]; rfl) rfl (by decide) (Nat.le_of_ble_eq_true rfl) rfl ?_
  rintro _ _ ⟨rfl, rfl⟩
  rw [show t_end (t_go tx nt t_0 0).2 = true by unfold t_ok at hok; rw [Bool.and_eq_true] at hok; exact hok.2]
  refine e_if_neN 31 dX2_runCourse_18 (by decide) (by first | omega | decide) (fun hc18 => ?_) (fun q => absurd q (by decide))
  refine e_aload0 dX2_runCourse_31 ?_
  refine e_vV (M' := mX2_save) fX2_save lkX2_75 (v_save h pi buf c sn (nI nt) rd1 w X hR hJ Sv hc hL) rfl rfl dX2_runCourse_32 (by rw [hK_0]; rfl) rfl (by decide) (Nat.le_of_ble_eq_true rfl) rfl ?_
  rintro _ ⟨pi2, w2, rfl, hw2, hL2⟩
  have hR1 : RelC (w2 1) X := by rw [hw2 1 (by decide)]; exact hR
  refine e_iconst (z := 0) dX2_runCourse_35 ?_
  refine e_istore1 dX2_runCourse_36 rfl (by decide) ?_
  refine e_aload0 dX2_runCourse_37 ?_
  refine e_get0 flX2_36 dX2_runCourse_38 rfl rfl ?_
  refine e_vV (M' := mX0_restart) fX0_restart lkX2_149 (x_restart h pi2 buf (nI (m_svC c)) sn (nI nt) rd1 w2) rfl rfl dX2_runCourse_41 (by rw [hK_0]; rfl) rfl (by decide) (Nat.le_of_ble_eq_true rfl) rfl ?_
  rintro _ rfl
  refine (show Ev _ _ _ _ _ _ (hK h (oC pi2 buf (nI (m_svC c)) sn (nI nt) (upd rd1 0 (nI 0))) (uw w2 1 (w2 1)) 10) _ _ _ _ → Ev _ _ _ _ _ _ (hK h (oC pi2 buf (nI (m_svC c)) sn (nI nt) (upd rd1 0 (nI 0))) w2 10) _ _ _ _ from fun z => by rw [uw_self] at z; exact z) ?_
  refine e_iconst (z := 0) dX2_runCourse_44 ?_
  refine e_istore2 dX2_runCourse_45 rfl (by decide) ?_
  have H : ∀ (m i kk : Nat) (rd2 : Nat → Int32) (s : qt) (l : List qt) (x : qw) (Y : qm), i ≤ nt → m = nt - i → TP tx nt i s l → RdR rd2 s → RelC x Y → J Y → t_run tx nt X = t_ex (t_lst tx (nt - i) s i) Y kk → Ev mX2_runCourse 7 46 [some (qR 0 0), some (qI (nI kk)), some (qI (nI i))] [] 132 (hK h (oC pi2 buf (nI (m_svC c)) sn (nI nt) rd2) (uw w2 1 x) 10) 0 0 (fun r n h' => ∃ x, r = some (qI x) ∧ n = 132 ∧ ((fun r h2 => r = nI (t_runN tx nt X) ∧ ∃ pi' w' rd', h2 = hK h (oC pi' buf (nI (m_svC c)) sn (nI 0) rd') w' 10 ∧ RelC (w' 1) (t_run tx nt X).1 ∧ (∀ b : Fin 16, b.val ≤ 4 → b ≠ 1 → w' b = w b) ∧ RelL pi' w' (m_svC c) (m_sv c Sv X))) x h') qNo := by
    intro m
    induction m using Nat.strongRecOn with
    | _ m ih =>
    intro i kk rd2 s l x Y hi hm hp hr2 hRx hJx hX
    refine e_iload2 dX2_runCourse_46 ?_
    refine e_aload0 dX2_runCourse_47 ?_
    refine e_get0 flX2_48 dX2_runCourse_48 rfl rfl ?_
    refine e_icmp_gtN 114 dX2_runCourse_51 (by decide) (by first | omega | decide) (by first | omega | decide) (fun q => absurd q (by omega)) (fun hc51 => ?_)
    refine e_iload2 dX2_runCourse_54 ?_
    refine e_aload0 dX2_runCourse_55 ?_
    refine e_get0 flX2_48 dX2_runCourse_56 rfl rfl ?_
    by_cases hin : i < nt
    · refine e_icmp_eqN 73 dX2_runCourse_59 (by decide) (by omega) (by omega) (fun q => absurd q (by omega)) (fun _ => ?_)
      have hti := htx i hin
      obtain ⟨s3, hs3⟩ := tp_some hp hin hok
      refine e_aload0 dX2_runCourse_62 ?_
      refine e_get0 flX2_29 dX2_runCourse_63 rfl rfl ?_
      refine e_iload2 dX2_runCourse_66 ?_
      refine e_ialoadB dX2_runCourse_67 rfl (by omega) (by decide) ?_
      rw [hti.1]
      refine e_bipush (v := nI 59) dX2_runCourse_68 (by decide) ?_
      by_cases h59 : tx i = 59
      · refine e_icmp_neN 86 dX2_runCourse_70 (by decide) (by omega) (by decide) (fun q => absurd h59 q) (fun _ => ?_)
        have e1 : nt - i = (nt - (i + 1)) + 1 := by omega
        have hl1 : t_lst tx (nt - i) s i = s :: t_lst tx (nt - (i + 1)) s3 (i + 1) := by rw [e1, t_lst, hs3]; dsimp only; rw [if_pos h59]
        have he : t_end s = true := t_end_59 hp.2.2.2.1 (by rw [← h59]; exact hs3)
        refine e_aload0 dX2_runCourse_73 ?_
        refine e_vI (M' := mX2_doPart) fX2_doPart lkX2_164 (v_doPart h pi2 buf (nI (m_svC c)) sn (nI nt) rd2 (uw w2 1 x) Y (by rw [uw_at]; exact hRx) hJx hr2 hp.2.2.2 he) rfl rfl dX2_runCourse_74 (by rw [hK_0]; rfl) rfl (by decide) (Nat.le_of_ble_eq_true rfl) rfl ?_
        rintro _ _ ⟨rfl, x3, hx3, rfl⟩
        rw [uw_uw]
        cases hcan : t_can s Y
        · refine e_if_neN 83 dX2_runCourse_77 (by decide) (by decide) (fun q => absurd rfl q) (fun _ => ?_)
          rw [hcan] at hx3
          have hX2 : t_run tx nt X = (Y, kk) := by rw [hX, hl1, t_ex, if_neg (by rw [hcan]; decide)]
          refine e_goto 114 dX2_runCourse_80 (by decide) ?_
          refine e_aload0 dX2_runCourse_114 ?_
          refine e_iconst (z := 0) dX2_runCourse_115 ?_
          refine e_put0 flX2_48 dX2_runCourse_116 rfl (Nat.le_of_ble_eq_true rfl) (fun _ => rfl) (fun _ => rfl) ?_
          refine e_iload1 dX2_runCourse_119 ?_
          refine e_iret dX2_runCourse_120 rfl ?_
          exact ⟨_, rfl, rfl, by show nI kk = nI (t_run tx nt X).2; rw [hX2], pi2, uw w2 1 x3, _, rfl, by rw [uw_at, hX2]; exact hx3, fun b hb hb1 => by rw [uw_ne _ _ hb1]; exact hw2 b hb, relL_uw (by decide) hL2⟩
        · refine e_if_neN 83 dX2_runCourse_77 (by decide) (by decide) (fun _ => ?_) (fun q => absurd q (by decide))
          rw [hcan, if_pos rfl] at hx3
          first | refine e_iinc1N (z := 1) dX2_runCourse_83 rfl (by decide) ?_ | refine e_iinc1 dX2_runCourse_83 rfl rfl (by decide) ?_
          refine e_iload2 dX2_runCourse_86 ?_
          refine e_aload0 dX2_runCourse_87 ?_
          refine e_get0 flX2_48 dX2_runCourse_88 rfl rfl ?_
          refine e_icmp_geN 108 dX2_runCourse_91 (by decide) (by first | omega | decide) (by first | omega | decide) (fun q => absurd q (by omega)) (fun hc91 => ?_)
          refine e_aload0 dX2_runCourse_94 ?_
          refine e_get0 flX2_36 dX2_runCourse_95 rfl rfl ?_
          refine e_aload0 dX2_runCourse_98 ?_
          refine e_get0 flX2_29 dX2_runCourse_99 rfl rfl ?_
          refine e_iload2 dX2_runCourse_102 ?_
          refine e_ialoadB dX2_runCourse_103 rfl (by omega) (by decide) ?_
          rw [hti.1]
          refine e_vI (M' := mX0_accepts) fX0_accepts lkX2_152 (x_accepts h pi2 buf (nI (m_svC c)) sn (nI nt) rd2 (uw w2 1 x3) hr2 hp.2.2.2 (c := tx i) (by omega)) rfl rfl dX2_runCourse_104 (by rw [hK_0]; rfl) rfl (by decide) (Nat.le_of_ble_eq_true rfl) rfl ?_
          rintro _ _ ⟨rd3, rfl, (⟨s4, hs4, rfl, hr3⟩ | ⟨hs4, rfl, hr3⟩)⟩
          · skip
            refine e_pop dX2_runCourse_107 rfl ?_
            first | refine e_iinc2N (z := 1) dX2_runCourse_108 rfl (by decide) ?_ | refine e_iinc2 dX2_runCourse_108 rfl rfl (by decide) ?_
            refine e_goto 46 dX2_runCourse_111 (by decide) ?_
            rw [hs3] at hs4
            cases hs4
            exact ih _ (by omega) (i + 1) (kk + 1) rd3 s3 _ x3 (t_do s Y) (by omega) rfl (tp_step hp hin hs3) hr3 hx3 (j_do hp.2.2.2 he hJx hcan) (by rw [hX, hl1, t_ex, if_pos hcan])
          · rw [hs3] at hs4
            cases hs4
      · refine e_icmp_neN 86 dX2_runCourse_70 (by decide) (by omega) (by decide) (fun _ => ?_) (fun q => absurd q h59)
        have e1 : nt - i = (nt - (i + 1)) + 1 := by omega
        have hl1 : t_lst tx (nt - i) s i = t_lst tx (nt - (i + 1)) s3 (i + 1) := by rw [e1, t_lst, hs3]; dsimp only; rw [if_neg h59]
        refine e_iload2 dX2_runCourse_86 ?_
        refine e_aload0 dX2_runCourse_87 ?_
        refine e_get0 flX2_48 dX2_runCourse_88 rfl rfl ?_
        refine e_icmp_geN 108 dX2_runCourse_91 (by decide) (by first | omega | decide) (by first | omega | decide) (fun q => absurd q (by omega)) (fun hc91 => ?_)
        refine e_aload0 dX2_runCourse_94 ?_
        refine e_get0 flX2_36 dX2_runCourse_95 rfl rfl ?_
        refine e_aload0 dX2_runCourse_98 ?_
        refine e_get0 flX2_29 dX2_runCourse_99 rfl rfl ?_
        refine e_iload2 dX2_runCourse_102 ?_
        refine e_ialoadB dX2_runCourse_103 rfl (by omega) (by decide) ?_
        rw [hti.1]
        refine e_vI (M' := mX0_accepts) fX0_accepts lkX2_152 (x_accepts h pi2 buf (nI (m_svC c)) sn (nI nt) rd2 (uw w2 1 x) hr2 hp.2.2.2 (c := tx i) (by omega)) rfl rfl dX2_runCourse_104 (by rw [hK_0]; rfl) rfl (by decide) (Nat.le_of_ble_eq_true rfl) rfl ?_
        rintro _ _ ⟨rd3, rfl, (⟨s4, hs4, rfl, hr3⟩ | ⟨hs4, rfl, hr3⟩)⟩
        · skip
          refine e_pop dX2_runCourse_107 rfl ?_
          first | refine e_iinc2N (z := 1) dX2_runCourse_108 rfl (by decide) ?_ | refine e_iinc2 dX2_runCourse_108 rfl rfl (by decide) ?_
          refine e_goto 46 dX2_runCourse_111 (by decide) ?_
          rw [hs3] at hs4
          cases hs4
          exact ih _ (by omega) (i + 1) kk rd3 s3 _ x Y (by omega) rfl (tp_step hp hin hs3) hr3 hRx hJx (by rw [hX, hl1])
        · rw [hs3] at hs4
          cases hs4
    · obtain rfl : nt = i := by omega
      refine e_icmp_eqN 73 dX2_runCourse_59 (by decide) (by omega) (by omega) (fun _ => ?_) (fun q => absurd rfl q)
      have hl1 : t_lst tx (nt - nt) s nt = [s] := by rw [Nat.sub_self]; rfl
      have he : t_end s = true := by
        have e := (tp_end hp).1
        have hok2 := hok
        unfold t_ok at hok2
        rw [e, Bool.and_eq_true] at hok2
        exact hok2.2
      refine e_aload0 dX2_runCourse_73 ?_
      refine e_vI (M' := mX2_doPart) fX2_doPart lkX2_164 (v_doPart h pi2 buf (nI (m_svC c)) sn (nI nt) rd2 (uw w2 1 x) Y (by rw [uw_at]; exact hRx) hJx hr2 hp.2.2.2 he) rfl rfl dX2_runCourse_74 (by rw [hK_0]; rfl) rfl (by decide) (Nat.le_of_ble_eq_true rfl) rfl ?_
      rintro _ _ ⟨rfl, x3, hx3, rfl⟩
      rw [uw_uw]
      cases hcan : t_can s Y
      · refine e_if_neN 83 dX2_runCourse_77 (by decide) (by decide) (fun q => absurd rfl q) (fun _ => ?_)
        rw [hcan] at hx3
        have hX2 : t_run tx nt X = (Y, kk) := by rw [hX, hl1, t_ex, if_neg (by rw [hcan]; decide)]
        refine e_goto 114 dX2_runCourse_80 (by decide) ?_
        refine e_aload0 dX2_runCourse_114 ?_
        refine e_iconst (z := 0) dX2_runCourse_115 ?_
        refine e_put0 flX2_48 dX2_runCourse_116 rfl (Nat.le_of_ble_eq_true rfl) (fun _ => rfl) (fun _ => rfl) ?_
        refine e_iload1 dX2_runCourse_119 ?_
        refine e_iret dX2_runCourse_120 rfl ?_
        exact ⟨_, rfl, rfl, by show nI kk = nI (t_run tx nt X).2; rw [hX2], pi2, uw w2 1 x3, _, rfl, by rw [uw_at, hX2]; exact hx3, fun b hb hb1 => by rw [uw_ne _ _ hb1]; exact hw2 b hb, relL_uw (by decide) hL2⟩
      · refine e_if_neN 83 dX2_runCourse_77 (by decide) (by decide) (fun _ => ?_) (fun q => absurd q (by decide))
        rw [hcan, if_pos rfl] at hx3
        have hX2 : t_run tx nt X = (t_do s Y, kk + 1) := by rw [hX, hl1, t_ex, if_pos hcan]; rfl
        first | refine e_iinc1N (z := 1) dX2_runCourse_83 rfl (by decide) ?_ | refine e_iinc1 dX2_runCourse_83 rfl rfl (by decide) ?_
        refine e_iload2 dX2_runCourse_86 ?_
        refine e_aload0 dX2_runCourse_87 ?_
        refine e_get0 flX2_48 dX2_runCourse_88 rfl rfl ?_
        refine e_icmp_geN 108 dX2_runCourse_91 (by decide) (by first | omega | decide) (by first | omega | decide) (fun hc91 => ?_) (fun q => absurd q (by omega))
        first | refine e_iinc2N (z := 1) dX2_runCourse_108 rfl (by decide) ?_ | refine e_iinc2 dX2_runCourse_108 rfl rfl (by decide) ?_
        refine e_goto 46 dX2_runCourse_111 (by decide) ?_
        refine e_iload2 dX2_runCourse_46 ?_
        refine e_aload0 dX2_runCourse_47 ?_
        refine e_get0 flX2_48 dX2_runCourse_48 rfl rfl ?_
        refine e_icmp_gtN 114 dX2_runCourse_51 (by decide) (by first | omega | decide) (by first | omega | decide) (fun hc51 => ?_) (fun q => absurd q (by omega))
        refine e_aload0 dX2_runCourse_114 ?_
        refine e_iconst (z := 0) dX2_runCourse_115 ?_
        refine e_put0 flX2_48 dX2_runCourse_116 rfl (Nat.le_of_ble_eq_true rfl) (fun _ => rfl) (fun _ => rfl) ?_
        refine e_iload1 dX2_runCourse_119 ?_
        refine e_iret dX2_runCourse_120 rfl ?_
        exact ⟨_, rfl, rfl, by show nI (kk + 1) = nI (t_run tx nt X).2; rw [hX2], pi2, uw w2 1 x3, _, rfl, by rw [uw_at, hX2]; exact hx3, fun b hb hb1 => by rw [uw_ne _ _ hb1]; exact hw2 b hb, relL_uw (by decide) hL2⟩
  exact H _ 0 0 _ t_0 [] (w2 1) X (Nat.zero_le _) rfl (tp_0 tx nt) rdr_0 hR1 hJ rfl
theorem t_go_le (tx : Nat → Nat) : ∀ (m i : Nat) (s : qt), (t_go tx m s i).1 ≤ i + m := by
  intro m
  induction m with
  | zero => intro i s; exact Nat.le_refl _
  | succ m ih =>
    intro i s
    rw [t_go]
    cases t_step s (tx i) with
    | none => exact Nat.le_add_right _ _
    | some s' => have := ih (i + 1) s'; dsimp only; omega
theorem t_err_le (tx : Nat → Nat) (n : Nat) : t_err tx n ≤ n := by
  have := t_go_le tx n 0 t_0
  unfold t_err
  omega
set_option maxRecDepth 20000 in
set_option maxHeartbeats 4000000 in
theorem t0_runCourse (h : qB) (pi : Nat → Option qK) (buf : Nat → Int32) (cnt sn : Int32) (rd : Nat → Int32) (w : Fin 16 → qw) {tx : Nat → Nat} {nt : Nat} (hn : nt ≤ 60) (htx : ∀ i, i < nt → buf i = nI (tx i) ∧ 33 ≤ tx i ∧ tx i ≤ 126) (hok : t_ok tx nt = false) : Ct mX2_runCourse 7 1 6 [qR 0 0] 132 (hK h (oC pi buf cnt sn (nI nt) rd) w 10) (fun _ _ _ => False) (fun E' n h' => E' = "java/lang/IllegalArgumentException" ∧ n = 132 ∧ ∃ rd', h' = hK h (oC pi buf cnt sn (nI nt) rd') w 10) := by
  have hle : t_err tx nt ≤ nt := t_err_le tx nt
  refine ct_of (by decide +kernel) rfl rfl (Nat.le_of_ble_eq_true rfl) ?_
  show Ev mX2_runCourse 7 0 [some (qR 0 0), none, none] [] 132 (hK h (oC pi buf cnt sn (nI nt) rd) w 10) 1 6 _ _
  refine e_aload0 dX2_runCourse_0 ?_
  refine e_vI (M' := mX2_firstError) fX2_firstError lkX2_155 (v_firstError h pi buf cnt sn rd w hn htx) rfl rfl dX2_runCourse_1 (by rw [hK_0]; rfl) rfl (by decide) (Nat.le_of_ble_eq_true rfl) rfl ?_
  rintro _ _ ⟨rfl, rd1, rfl, hr1, hw1⟩
  refine e_aload0 dX2_runCourse_4 ?_
  refine e_get0 flX2_48 dX2_runCourse_5 rfl rfl ?_
  by_cases hlt : t_err tx nt < nt
  · refine e_icmp_ltN 21 dX2_runCourse_8 (by decide) (by omega) (by omega) (fun _ => ?_) (fun q => absurd q (by omega))
    refine e_throw thX2_runCourse_21 dX2_runCourse_21 dX2_runCourse_24 dX2_runCourse_25 dX2_runCourse_27 dX2_runCourse_30 (q_noh rfl) (by decide) (by decide) (by decide) (by decide) ?_
    exact ⟨rfl, rfl, rd1, rfl⟩
  · refine e_icmp_ltN 21 dX2_runCourse_8 (by decide) (by omega) (by omega) (fun q => absurd q (by omega)) (fun _ => ?_)
    refine e_aload0 dX2_runCourse_11 ?_
    refine e_get0 flX2_36 dX2_runCourse_12 rfl rfl ?_
    refine e_vI (M' := mX0_isComplete) fX0_isComplete lkX2_159 (x_isComplete h pi buf cnt sn (nI nt) rd1 w hr1 hw1) rfl rfl dX2_runCourse_15 (by rw [hK_0]; rfl) rfl (by decide) (Nat.le_of_ble_eq_true rfl) rfl ?_
    rintro _ _ ⟨rfl, rfl⟩
    rw [show t_end (t_go tx nt t_0 0).2 = false by unfold t_ok at hok; rw [decide_eq_true (by omega), Bool.true_and] at hok; exact hok]
    refine e_if_neN 31 dX2_runCourse_18 (by decide) (by first | omega | decide) (fun q => absurd rfl q) (fun hc18 => ?_)
    refine e_throw thX2_runCourse_21 dX2_runCourse_21 dX2_runCourse_24 dX2_runCourse_25 dX2_runCourse_27 dX2_runCourse_30 (q_noh rfl) (by decide) (by decide) (by decide) (by decide) ?_
    exact ⟨rfl, rfl, rd1, rfl⟩
