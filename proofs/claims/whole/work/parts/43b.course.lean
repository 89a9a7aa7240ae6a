/-! THE MODEL'S PROGRAM: a course -/
set_option maxRecDepth 20000 in
set_option maxHeartbeats 4000000 in
theorem rp_course (h : qB) (th : Int32) (sf asd sts snp txt rdd : Nat → Int32) (cnt hq : Int32) {tx : Nat → Nat} {nt : Nat} (hn : nt ≤ 60) (htx : ∀ i, i < nt → txt i = nI (tx i) ∧ 33 ≤ tx i ∧ tx i ≤ 126) (pt iw rm : Int32) : CtI mX3_readsCourse 4 [qR 11 0] (q_put h 11 (oR th sf asd sts snp txt rdd cnt hq (nI nt) pt iw rm)) (fun r h2 => r = q_b (t_ok tx nt) ∧ ∃ (r' : Nat → Int32) (m' : Nat) (iw' : Int32), h2 = q_put h 11 (oR th sf asd sts snp txt r' cnt hq (nI nt) (nI (t_err tx nt)) iw' (nI m')) ∧ (t_ok tx nt = true → m' = (t_lst tx nt t_0 0).length ∧ (∀ (j : Nat) (s9 : qt), (t_lst tx nt t_0 0)[j]? = some s9 → t_wf s9 ∧ t_end s9 = true ∧ e_ent r' (4 * j) s9))) := by
  have HD : ∀ (r' : Nat → Int32) (a' m' : Nat) (s' : qt) (l : List qt), TP tx nt a' s' l → t_bad tx nt a' s' → Ev mX3_readsCourse 4 14 [some (qR 11 0)] [] 132 (q_put h 11 (oR th sf asd sts snp txt r' cnt hq (nI nt) (nI a') (nI 0) (nI m'))) 0 0 (fun r n h' => ∃ x, r = some (qI x) ∧ n = 132 ∧ ((fun r h2 => r = q_b (t_ok tx nt) ∧ ∃ (r' : Nat → Int32) (m' : Nat) (iw' : Int32), h2 = q_put h 11 (oR th sf asd sts snp txt r' cnt hq (nI nt) (nI (t_err tx nt)) iw' (nI m')) ∧ (t_ok tx nt = true → m' = (t_lst tx nt t_0 0).length ∧ (∀ (j : Nat) (s9 : qt), (t_lst tx nt t_0 0)[j]? = some s9 → t_wf s9 ∧ t_end s9 = true ∧ e_ent r' (4 * j) s9)))) x h') qNo := by
    intro r' a' m' s' l b1 b2
    obtain ⟨e1, e2⟩ := tp_bad b1 b2
    rw [← e1]
    refine e_aload0 dX3_readsCourse_14 ?_
    refine e_getfieldF flX3_162 dX3_readsCourse_15 rfl rfl ?_
    refine e_if_eqN 55 dX3_readsCourse_18 (by decide) (by first | omega | decide) (fun hc18 => ?_) (fun q => absurd rfl q)
    refine e_aload0 dX3_readsCourse_55 ?_
    refine e_getfieldF flX3_162 dX3_readsCourse_56 rfl rfl ?_
    refine e_zret dX3_readsCourse_59 rfl (by first | rfl | exact q_nar _) ?_
    exact ⟨_, rfl, rfl, by rw [e2]; try rfl, r', m', _, rfl, fun q => absurd (e2.symm.trans q) (by decide)⟩
  have HW : ∀ (m i : Nat) (r' : Nat → Int32) (m' : Nat) (s' : qt) (l : List qt), i ≤ nt → m = nt - i → TP tx nt i s' l → t_end s' = true → t_blk tx nt i s' → m' = l.length + 1 → (∀ (j : Nat) (s9 : qt), (l ++ [s'])[j]? = some s9 → t_wf s9 ∧ t_end s9 = true ∧ e_ent r' (4 * j) s9) → 3 * m' ≤ i + 1 → Ev mX3_readsCourse 4 14 [some (qR 11 0)] [] 132 (q_put h 11 (oR th sf asd sts snp txt r' cnt hq (nI nt) (nI i) (nI 1) (nI m'))) 0 0 (fun r n h' => ∃ x, r = some (qI x) ∧ n = 132 ∧ ((fun r h2 => r = q_b (t_ok tx nt) ∧ ∃ (r' : Nat → Int32) (m' : Nat) (iw' : Int32), h2 = q_put h 11 (oR th sf asd sts snp txt r' cnt hq (nI nt) (nI (t_err tx nt)) iw' (nI m')) ∧ (t_ok tx nt = true → m' = (t_lst tx nt t_0 0).length ∧ (∀ (j : Nat) (s9 : qt), (t_lst tx nt t_0 0)[j]? = some s9 → t_wf s9 ∧ t_end s9 = true ∧ e_ent r' (4 * j) s9)))) x h') qNo := by
    intro m
    induction m using Nat.strongRecOn with
    | _ m ih =>
    intro i r' m' s' l hi hm hp he hb hl hE h3
    refine e_aload0 dX3_readsCourse_14 ?_
    refine e_getfieldF flX3_162 dX3_readsCourse_15 rfl rfl ?_
    refine e_if_eqN 55 dX3_readsCourse_18 (by decide) (by first | omega | decide) (fun q => absurd q (by decide)) (fun hc18 => ?_)
    refine e_aload0 dX3_readsCourse_21 ?_
    refine e_getfieldF flX3_159 dX3_readsCourse_22 rfl rfl ?_
    refine e_aload0 dX3_readsCourse_25 ?_
    refine e_getfieldF flX3_156 dX3_readsCourse_26 rfl rfl ?_
    by_cases hin : i < nt
    · refine e_icmp_geN 55 dX3_readsCourse_29 (by decide) (by omega) (by omega) (fun q => absurd hin (by omega)) (fun _ => ?_)
      have hsg := t_sg_tx (tx := tx) hin
      by_cases h59 : tx i = 59
      · skip
        refine e_aload0 dX3_readsCourse_32 ?_
        refine e_bipush (v := nI 59) dX3_readsCourse_33 (by decide) ?_
        refine e_bipush (v := nI 59) dX3_readsCourse_35 (by decide) ?_
        refine e_vIF (M' := mX3_reads) fX3_reads lkX3_169 (rd_ok h th sf asd sts snp txt r' cnt hq hn htx (nI m') (a := i) (lo := 59) (hi := 59) (by omega) (by decide) (by decide) (by decide) (by omega) (by omega)) rfl rfl dX3_readsCourse_37 rfl rfl (by decide) (Nat.le_of_ble_eq_true rfl) rfl ?_
        rintro _ _ ⟨rfl, rfl⟩
        refine e_pop dX3_readsCourse_40 rfl ?_
        refine e_aload0 dX3_readsCourse_41 ?_
        refine e_getfieldF flX3_162 dX3_readsCourse_42 rfl rfl ?_
        refine e_if_eqN 14 dX3_readsCourse_45 (by decide) (by first | omega | decide) (fun q => absurd q (by decide)) (fun hc45 => ?_)
        refine e_aload0 dX3_readsCourse_48 ?_
        refine e_vVF (M' := mX3_readsPart) fX3_readsPart lkX3_181 (rp_part h th sf asd sts snp txt r' cnt hq hn htx (a := i + 1) (m := m') (l := l ++ [s']) (tp_semi hp hin he h59) (by omega) (nI 1)) rfl rfl dX3_readsCourse_49 rfl rfl (by decide) (Nat.le_of_ble_eq_true rfl) rfl ?_
        rintro _ ⟨r2, hr2, (⟨a2, s2, hp2, he2, hb2, hE2, ha2, rfl⟩ | ⟨a2, s2, hp2, hb2, rfl⟩)⟩
        · refine e_goto 14 dX3_readsCourse_52 (by decide) ?_
          refine ih (nt - a2) (by have := hp2.1; omega) a2 r2 (m' + 1) s2 (l ++ [s']) hp2.1 rfl hp2 he2 hb2 (by rw [List.length_append, hl]; rfl) (fun j s3 hj => ?_) (by omega)
          by_cases q : j < m'
          · rw [List.getElem?_append_left (by rw [List.length_append]; show j < l.length + 1; omega)] at hj
            obtain ⟨c1, c2, c3, c4, c5, c6⟩ := hE j s3 hj
            have hb3 : 4 * j + 3 < 4 * m' := by omega
            exact ⟨c1, c2, by rw [hr2 _ (by omega)]; exact c3, by rw [hr2 _ (by omega)]; exact c4, fun z => by rw [hr2 _ (by omega), hr2 _ (by omega)]; exact c5 z, fun z => by rw [hr2 _ (by omega)]; exact c6 z⟩
          · have hlt := (List.getElem?_eq_some_iff.mp hj).1
            rw [List.length_append, List.length_append] at hlt
            have hj2 : j = m' := by have hlt : j < l.length + 1 + 1 := hlt; omega
            rw [hj2, List.getElem?_append_right (by rw [List.length_append]; show l.length + 1 ≤ m'; omega), show m' - (l ++ [s']).length = 0 by rw [List.length_append]; show m' - (l.length + 1) = 0; omega] at hj
            have hj4 := Option.some.inj hj
            subst hj4
            rw [hj2]
            exact ⟨hp2.2.2.2, he2, hE2⟩
        · refine e_goto 14 dX3_readsCourse_52 (by decide) ?_
          exact HD r2 a2 m' s2 _ hp2 hb2
      · skip
        refine e_aload0 dX3_readsCourse_32 ?_
        refine e_bipush (v := nI 59) dX3_readsCourse_33 (by decide) ?_
        refine e_bipush (v := nI 59) dX3_readsCourse_35 (by decide) ?_
        refine e_vIF (M' := mX3_reads) fX3_reads lkX3_169 (rd_no h th sf asd sts snp txt r' cnt hq hn htx (nI m') (a := i) (lo := 59) (hi := 59) (by omega) (by decide) (by decide) (by omega)) rfl rfl dX3_readsCourse_37 rfl rfl (by decide) (Nat.le_of_ble_eq_true rfl) rfl ?_
        rintro x1 _ rfl
        refine e_pop dX3_readsCourse_40 rfl ?_
        refine e_aload0 dX3_readsCourse_41 ?_
        refine e_getfieldF flX3_162 dX3_readsCourse_42 rfl rfl ?_
        refine e_if_eqN 14 dX3_readsCourse_45 (by decide) (by first | omega | decide) (fun hc45 => ?_) (fun q => absurd rfl q)
        exact HD r' i m' s' l hp (Or.inl ⟨hin, hb hin h59⟩)
    · refine e_icmp_geN 55 dX3_readsCourse_29 (by decide) (by omega) (by omega) (fun _ => ?_) (fun q => absurd q (by omega))
      obtain rfl : i = nt := by omega
      refine e_aload0 dX3_readsCourse_55 ?_
      refine e_getfieldF flX3_162 dX3_readsCourse_56 rfl rfl ?_
      refine e_zret dX3_readsCourse_59 rfl (by first | rfl | exact q_nar _) ?_
      obtain ⟨g1, g2⟩ := tp_good hp he
      obtain ⟨g3, g4⟩ := tp_end hp
      exact ⟨_, rfl, rfl, by rw [g2]; try rfl, r', m', _, by rw [g1]; try rfl, fun _ => ⟨by rw [g4, List.length_append, hl]; try rfl, by rw [g4]; exact hE⟩⟩
  refine ct_of (by decide +kernel) rfl rfl (Nat.le_of_ble_eq_true rfl) ?_
  show Ev mX3_readsCourse 4 0 [some (qR 11 0)] [] 132 (q_put h 11 (oR th sf asd sts snp txt rdd cnt hq (nI nt) pt iw rm)) 0 0 _ _
  refine e_aload0 dX3_readsCourse_0 ?_
  refine e_iconst (z := 0) dX3_readsCourse_1 ?_
  refine e_putfieldF flX3_159 dX3_readsCourse_2 rfl (Nat.le_of_ble_eq_true rfl) (fun _ => rfl) (fun _ => rfl) ?_
  refine e_aload0 dX3_readsCourse_5 ?_
  refine e_iconst (z := 0) dX3_readsCourse_6 ?_
  refine e_putfieldF flX3_172 dX3_readsCourse_7 rfl (Nat.le_of_ble_eq_true rfl) (fun _ => rfl) (fun _ => rfl) ?_
  refine e_aload0 dX3_readsCourse_10 ?_
  refine e_vVF (M' := mX3_readsPart) fX3_readsPart lkX3_181 (rp_part h th sf asd sts snp txt rdd cnt hq hn htx (a := 0) (m := 0) (l := []) (tp_0 tx nt) (by decide) iw) rfl rfl dX3_readsCourse_11 rfl rfl (by decide) (Nat.le_of_ble_eq_true rfl) rfl ?_
  rintro _ ⟨r2, hr2, (⟨a2, s2, hp2, he2, hb2, hE2, ha2, rfl⟩ | ⟨a2, s2, hp2, hb2, rfl⟩)⟩
  · refine HW (nt - a2) a2 r2 1 s2 [] hp2.1 rfl hp2 he2 hb2 rfl (fun j s3 hj => ?_) (by omega)
    have hlt := (List.getElem?_eq_some_iff.mp hj).1
    have hj2 : j = 0 := by have hlt : j < 1 := hlt; omega
    rw [hj2] at hj
    have hj4 := Option.some.inj hj
    subst hj4
    rw [hj2]
    exact ⟨hp2.2.2.2, he2, hE2⟩
  · exact HD r2 a2 0 s2 _ hp2 hb2
