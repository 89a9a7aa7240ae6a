theorem t_lst_run {tx : Nat → Nat} {n : Nat} : ∀ (m i : Nat) (s : qt), i + m = n → (s.1 = 0 → 3 * (t_lst tx m s i).length ≤ m + 3) ∧ (s.1 = 1 → 3 * (t_lst tx m s i).length ≤ m + 4) ∧ (2 ≤ s.1 → 3 * (t_lst tx m s i).length ≤ m + 5) := by
  intro m
  induction m with
  | zero => intro i s _; refine ⟨fun _ => ?_, fun _ => ?_, fun _ => ?_⟩ <;> (show 3 * 1 ≤ _; omega)
  | succ m ih =>
    intro i s hi
    rw [t_lst]
    cases hs : t_step s (tx i) with
    | none => refine ⟨fun _ => ?_, fun _ => ?_, fun _ => ?_⟩ <;> (show 3 * 0 ≤ _; omega)
    | some s' =>
      obtain ⟨j0, j1, j2⟩ := ih (i + 1) s' (by omega)
      have h0 : s.1 = 0 → s'.1 = 1 ∧ ¬ tx i = 59 := by
        intro h
        unfold t_step at hs
        rw [if_pos h] at hs
        split at hs
        · rename_i hl
          cases hs
          have := t_let_of hl
          exact ⟨rfl, by omega⟩
        · cases hs
      have h1 : s.1 = 1 → 2 ≤ s'.1 ∧ ¬ tx i = 59 := by
        intro h
        unfold t_step at hs
        rw [if_neg (by omega), if_pos h] at hs
        split at hs
        · rename_i hl
          cases hs
          have e : t_hi s.2.1 ≤ 9 := by unfold t_hi; repeat (first | omega | split)
          refine ⟨?_, by omega⟩
          show 2 ≤ (if s.2.1 = 98 then 2 else if s.2.1 = 113 then 7 else 8)
          repeat (first | omega | split)
        · cases hs
      dsimp only
      by_cases h59 : tx i = 59
      · rw [if_pos h59]
        refine ⟨fun h => absurd h59 (h0 h).2, fun h => absurd h59 (h1 h).2, fun h => ?_⟩
        have e0 : s' = t_0 := by
          unfold t_step at hs
          rw [h59] at hs
          have a : ∀ f t, t_tk f t 59 = false := fun f t => by unfold t_tk; exact decide_eq_false (by omega)
          simp only [a] at hs
          rw [if_neg (by omega), if_neg (by omega)] at hs
          split at hs
          · simp at hs
          · split at hs
            · simp at hs
            · split at hs
              · simp at hs
              · split at hs
                · simp at hs
                · split at hs
                  · simp at hs; exact hs.symm
                  · split at hs
                    · simp at hs
                    · simp at hs; exact hs.symm
        have := j0 (by rw [e0]; rfl)
        rw [List.length_cons]
        omega
      · rw [if_neg h59]
        refine ⟨fun h => ?_, fun h => ?_, fun h => ?_⟩
        · have := j1 (h0 h).1; omega
        · have := j2 (h1 h).1; omega
        · by_cases q0 : s'.1 = 0
          · have := j0 q0; omega
          · by_cases q1 : s'.1 = 1
            · have := j1 q1; omega
            · have := j2 (by omega); omega
theorem t_lst_len {tx : Nat → Nat} {n : Nat} (_h : t_ok tx n = true) (hn : n ≤ 60) : (t_lst tx n t_0 0).length ≤ 29 := by
  have := (t_lst_run (tx := tx) (n := n) n 0 t_0 (by omega)).1 rfl
  omega
set_option maxRecDepth 20000 in
set_option maxHeartbeats 4000000 in
theorem p_runCourse (h : qB) {n : Nat} {A : qA} (hG : GA n A) {F : List qE} (hB : RB A F) {code : Nat} {v : Int32} {A2 : qA} (hS : S_runCourse A code v A2) : CtI mX3_runCourse 12 [qR 11 0] (q_put h 11 F) (fun r h2 => ∃ F', RBt A2 F' (nI code) ∧ (code = 0 → r = v) ∧ h2 = q_put h 11 F') := by
  obtain ⟨th, sf, asd, sts, snp, txt, rdd, pt, iw, rm, rfl, hR, hS2, hY, hT⟩ := hB
  have hJ := hG.1.1
  have hW := wk_J hJ
  have hT61 : (aX A).1 0 0 < 61 := Nat.lt_of_le_of_lt hW.1 (by decide)
  have hW61 : (aX A).1 0 4 < 61 := Nat.lt_of_le_of_lt hW.2.1 (by decide)
  have hT31 : (aX A).1 0 0 < 2 ^ 31 := Nat.lt_of_lt_of_le hT61 (by decide)
  have hW31 : (aX A).1 0 4 < 2 ^ 31 := Nat.lt_of_lt_of_le hW61 (by decide)
  rcases hS with ⟨c0, rfl, rfl⟩ | ⟨c0, rfl, rfl, rfl⟩
  · refine ct_of (by decide +kernel) rfl rfl (Nat.le_of_ble_eq_true rfl) ?_
    show Ev mX3_runCourse 12 0 [some (qR 11 0), none] [] 132 (q_put h 11 (oR th sf asd sts snp txt rdd (nI (aC A)) (nI (aN A)) (nI (aL A)) pt iw rm)) 0 0 _ _
    refine e_aload0 dX3_runCourse_0 ?_
    refine e_iconst (z := 0) dX3_runCourse_1 ?_
    refine e_putfieldF flX3_28 dX3_runCourse_2 rfl (Nat.le_of_ble_eq_true rfl) (fun _ => rfl) (fun _ => rfl) ?_
    refine e_aload0 dX3_runCourse_5 ?_
    refine e_vIF (M' := mX3_readsCourse) fX3_readsCourse lkX3_184 (rp_course h (nI 0) sf asd sts snp txt rdd (nI (aC A)) (nI (aN A)) (tx := aT A) (nt := aL A) hG.2.2.2.2.2.1 (fun i hi => ⟨hT i hi, (hG.2.2.2.2.2.2 i hi).1, (hG.2.2.2.2.2.2 i hi).2⟩) pt iw rm) rfl rfl dX3_runCourse_6 rfl rfl (by decide) (Nat.le_of_ble_eq_true rfl) rfl ?_
    rintro _ _ ⟨rfl, r2, m2, iw2, rfl, hE⟩
    rw [c0]
    refine e_if_neN 18 dX3_runCourse_9 (by decide) (by first | omega | decide) (fun q => absurd rfl q) (fun hc9 => ?_)
    refine e_aload0 dX3_runCourse_12 ?_
    refine e_iconst (z := 1) dX3_runCourse_13 ?_
    refine e_vIF (M' := mX3_fails) fX3_fails lkX3_106 (r_fails h (nI 0) sf asd sts snp txt r2 (nI (aC A)) (nI (aN A)) (nI (aL A)) (nI (t_err (aT A) (aL A))) iw2 (nI m2) (x := nI 1)) rfl rfl dX3_runCourse_14 rfl rfl (by decide) (Nat.le_of_ble_eq_true rfl) rfl ?_
    rintro _ _ ⟨rfl, rfl⟩
    refine e_iret dX3_runCourse_17 rfl ?_
    exact ⟨_, rfl, rfl, _, ⟨sf, asd, sts, snp, txt, r2, nI (t_err (aT A) (aL A)), iw2, nI m2, rfl, hR, hS2, hY, hT⟩, fun q => absurd q (by decide), rfl⟩
  · refine ct_of (by decide +kernel) rfl rfl (Nat.le_of_ble_eq_true rfl) ?_
    show Ev mX3_runCourse 12 0 [some (qR 11 0), none] [] 132 (q_put h 11 (oR th sf asd sts snp txt rdd (nI (aC A)) (nI (aN A)) (nI (aL A)) pt iw rm)) 0 0 _ _
    refine e_aload0 dX3_runCourse_0 ?_
    refine e_iconst (z := 0) dX3_runCourse_1 ?_
    refine e_putfieldF flX3_28 dX3_runCourse_2 rfl (Nat.le_of_ble_eq_true rfl) (fun _ => rfl) (fun _ => rfl) ?_
    refine e_aload0 dX3_runCourse_5 ?_
    refine e_vIF (M' := mX3_readsCourse) fX3_readsCourse lkX3_184 (rp_course h (nI 0) sf asd sts snp txt rdd (nI (aC A)) (nI (aN A)) (tx := aT A) (nt := aL A) hG.2.2.2.2.2.1 (fun i hi => ⟨hT i hi, (hG.2.2.2.2.2.2 i hi).1, (hG.2.2.2.2.2.2 i hi).2⟩) pt iw rm) rfl rfl dX3_runCourse_6 rfl rfl (by decide) (Nat.le_of_ble_eq_true rfl) rfl ?_
    rintro _ _ ⟨rfl, r2, m2, iw2, rfl, hE⟩
    obtain ⟨hm2, hE2⟩ := hE c0
    have hm60 : m2 ≤ 29 := by rw [hm2]; exact t_lst_len c0 hG.2.2.2.2.2.1
    rw [c0]
    refine e_if_neN 18 dX3_runCourse_9 (by decide) (by first | omega | decide) (fun hc9 => ?_) (fun q => absurd q (by decide))
    refine e_aload0 dX3_runCourse_18 ?_
    refine e_vVF (M' := mX3_recordsState) fX3_recordsState lkX3_116 (r_recordsState h (nI 0) sf asd sts snp txt r2 (nI (aN A)) (nI (aL A)) (nI (t_err (aT A) (aL A))) iw2 (nI m2) (aX A) hR hJ (aC A) hG.2.1 (aS A) hS2) rfl rfl dX3_runCourse_19 rfl rfl (by decide) (Nat.le_of_ble_eq_true rfl) rfl ?_
    rintro _ ⟨s2, hS3, rfl⟩
    refine e_aload0 dX3_runCourse_22 ?_
    refine e_iconst (z := 0) dX3_runCourse_23 ?_
    refine e_putfieldF flX3_156 dX3_runCourse_24 rfl (Nat.le_of_ble_eq_true rfl) (fun _ => rfl) (fun _ => rfl) ?_
    refine e_iconst (z := 0) dX3_runCourse_27 ?_
    refine e_istore1 dX3_runCourse_28 rfl (by decide) ?_
    have H : ∀ (m i : Nat) (sf3 : Nat → Int32) (Y : qm), i ≤ m2 → m = m2 - i → RelR sf3 Y → J Y → t_ex (t_lst (aT A) (aL A) t_0 0) (aX A) 0 = t_ex ((t_lst (aT A) (aL A) t_0 0).drop i) Y i → Ev mX3_runCourse 12 29 [some (qR 11 0), some (qI (nI i))] [] 132 (q_put h 11 (oR (nI 0) sf3 asd s2 snp txt r2 (nI (m_svC (aC A))) (nI (aN A)) (nI 0) (nI (t_err (aT A) (aL A))) iw2 (nI m2))) 0 0 (fun r n h' => ∃ x, r = some (qI x) ∧ n = 132 ∧ ((fun r h2 => ∃ F', RBt (a_run A) F' (nI 0) ∧ (0 = 0 → r = nI (t_runN (aT A) (aL A) (aX A))) ∧ h2 = q_put h 11 F')) x h') qNo := by
      intro m
      induction m using Nat.strongRecOn with
      | _ m ih =>
      intro i sf3 Y hi hm hR3 hJ3 hX
      refine e_iload1 dX3_runCourse_29 ?_
      refine e_aload0 dX3_runCourse_30 ?_
      refine e_getfieldF flX3_172 dX3_runCourse_31 rfl rfl ?_
      by_cases hin : i < m2
      · refine e_icmp_geN 53 dX3_runCourse_34 (by decide) (by omega) (by omega) (fun q => absurd hin (by omega)) (fun _ => ?_)
        have hlt : i < (t_lst (aT A) (aL A) t_0 0).length := by rw [← hm2]; exact hin
        obtain ⟨s9, hs9⟩ : ∃ s9, (t_lst (aT A) (aL A) t_0 0)[i]? = some s9 := ⟨_, List.getElem?_eq_getElem hlt⟩
        have hE3 := hE2 i s9 hs9
        have hdr : (t_lst (aT A) (aL A) t_0 0).drop i = s9 :: (t_lst (aT A) (aL A) t_0 0).drop (i + 1) := by
          rw [List.drop_eq_getElem_cons hlt]
          congr 1
          exact Option.some.inj ((List.getElem?_eq_getElem hlt).symm.trans hs9)
        refine e_aload0 dX3_runCourse_37 ?_
        refine e_iconst (z := 4) dX3_runCourse_38 ?_
        refine e_iload1 dX3_runCourse_39 ?_
        first | refine e_imulN dX3_runCourse_40 ?_ | refine e_imul dX3_runCourse_40 ?_
        refine e_vIF (M' := mX3_does) fX3_does lkX3_187 (r_does h (nI 0) sf3 asd s2 snp txt r2 (nI (m_svC (aC A))) (nI (aN A)) (nI 0) (nI (t_err (aT A) (aL A))) iw2 (nI m2) Y hR3 hJ3 (s := s9) hE3.1 hE3.2.1 (j := i) (by omega) hE3.2.2) rfl rfl dX3_runCourse_41 rfl rfl (by decide) (Nat.le_of_ble_eq_true rfl) rfl ?_
        rintro _ _ ⟨rfl, sf4, hR4, rfl⟩
        cases hcan : t_can s9 Y
        · refine e_if_eqN 53 dX3_runCourse_44 (by decide) (by decide) (fun _ => ?_) (fun q => absurd rfl q)
          rw [hcan] at hR4
          refine e_iload1 dX3_runCourse_53 ?_
          refine e_iret dX3_runCourse_54 rfl ?_
          have hX2 : t_run (aT A) (aL A) (aX A) = (Y, i) := by unfold t_run; rw [hX, hdr, t_ex, if_neg (by rw [hcan]; decide)]
          exact ⟨_, rfl, rfl, _, ⟨sf4, asd, s2, snp, txt, r2, nI (t_err (aT A) (aL A)), iw2, nI m2, rfl, (by show RelR sf4 (t_run (aT A) (aL A) (aX A)).1; rw [hX2]; exact hR4), hS3, hY, fun i hi => absurd hi (Nat.not_lt_zero _)⟩, fun _ => by show _ = nI (t_run (aT A) (aL A) (aX A)).2; rw [hX2], rfl⟩
        · refine e_if_eqN 53 dX3_runCourse_44 (by decide) (by decide) (fun q => absurd q (by decide)) (fun _ => ?_)
          rw [hcan, if_pos rfl] at hR4
          first | refine e_iinc1N (z := 1) dX3_runCourse_47 rfl (by decide) ?_ | refine e_iinc1 dX3_runCourse_47 rfl rfl (by decide) ?_
          refine e_goto 29 dX3_runCourse_50 (by decide) ?_
          exact ih _ (by omega) (i + 1) sf4 (t_do s9 Y) (by omega) rfl hR4 (j_do hE3.1 hE3.2.1 hJ3 hcan) (by rw [hX, hdr, t_ex, if_pos hcan])
      · refine e_icmp_geN 53 dX3_runCourse_34 (by decide) (by omega) (by omega) (fun _ => ?_) (fun q => absurd q (by omega))
        refine e_iload1 dX3_runCourse_53 ?_
        refine e_iret dX3_runCourse_54 rfl ?_
        have hX2 : t_run (aT A) (aL A) (aX A) = (Y, i) := by unfold t_run; rw [hX, List.drop_eq_nil_of_le (by rw [← hm2]; omega)]; rfl
        exact ⟨_, rfl, rfl, _, ⟨sf3, asd, s2, snp, txt, r2, nI (t_err (aT A) (aL A)), iw2, nI m2, rfl, (by show RelR sf3 (t_run (aT A) (aL A) (aX A)).1; rw [hX2]; exact hR3), hS3, hY, fun i hi => absurd hi (Nat.not_lt_zero _)⟩, fun _ => by show _ = nI (t_run (aT A) (aL A) (aX A)).2; rw [hX2], rfl⟩
    exact H _ 0 sf (aX A) (Nat.zero_le _) rfl hR hJ (by rw [List.drop_zero])
