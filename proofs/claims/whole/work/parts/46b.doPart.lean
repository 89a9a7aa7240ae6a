theorem t_end_59 {s s' : qt} (h8 : s.1 ≤ 8) (h : t_step s 59 = some s') : t_end s = true := by
  unfold t_end
  refine decide_eq_true ?_
  unfold t_step at h
  have a : ∀ f t, t_tk f t 59 = false := fun f t => by unfold t_tk; exact decide_eq_false (by omega)
  have b : t_hi s.2.1 ≤ 9 := by unfold t_hi; repeat (first | omega | split)
  simp only [a] at h
  by_cases p0 : s.1 = 0
  · rw [if_pos p0, if_neg (by decide)] at h; cases h
  by_cases p1 : s.1 = 1
  · rw [if_neg p0, if_pos p1, if_neg (by omega)] at h; cases h
  by_cases p2 : s.1 = 2
  · rw [if_neg p0, if_neg p1, if_pos p2] at h; simp at h
  by_cases p3 : s.1 = 3
  · rw [if_neg p0, if_neg p1, if_neg p2, if_pos p3] at h; simp at h
  by_cases p4 : s.1 = 4
  · rw [if_neg p0, if_neg p1, if_neg p2, if_neg p3, if_pos p4] at h; simp at h
  by_cases p5 : s.1 = 5
  · rw [if_neg p0, if_neg p1, if_neg p2, if_neg p3, if_neg p4, if_pos p5] at h; simp at h
  by_cases p6 : s.1 = 6
  · exact Or.inl p6
  by_cases p7 : s.1 = 7
  · rw [if_neg p0, if_neg p1, if_neg p2, if_neg p3, if_neg p4, if_neg p5, if_neg p6, if_pos p7] at h; simp at h
  · exact Or.inr (by omega)
set_option maxRecDepth 20000 in
set_option maxHeartbeats 4000000 in
theorem v_doPart (h : qB) (pi : Nat → Option qK) (buf : Nat → Int32) (cnt sn len : Int32) (rd : Nat → Int32) (w : Fin 16 → qw) (X : qm) (hR : RelC (w 1) X) (hJ : J X) {s : qt} (hr : RdR rd s) (hw : t_wf s) (he : t_end s = true) : CtI mX2_doPart 5 [qR 0 0] (hK h (oC pi buf cnt sn len rd) w 10) (fun r h2 => r = q_b (t_can s X) ∧ ∃ x, RelC x (if t_can s X = true then t_do s X else X) ∧ h2 = hK h (oC pi buf cnt sn len rd) (uw w 1 x) 10) := by
  have e6 : s.1 = 6 ∨ s.1 = 8 := of_decide_eq_true he
  have h1r := (hr.2.1 (by omega)).1
  have h3r := (hr.2.1 (by omega)).2
  have h2r := hr.2.2.1 (by omega)
  refine ct_of (by decide +kernel) rfl rfl (Nat.le_of_ble_eq_true rfl) ?_
  show Ev mX2_doPart 5 0 [some (qR 0 0), none] [] 132 (hK h (oC pi buf cnt sn len rd) w 10) 0 0 _ _
  refine e_aload0 dX2_doPart_0 ?_
  refine e_get0 flX2_36 dX2_doPart_1 rfl rfl ?_
  refine e_get0 flX2_327 dX2_doPart_4 rfl rfl ?_
  refine e_top (w := qI (nI s.2.2.1)) (by rw [← h2r]) ?_
  refine e_istore1 dX2_doPart_7 rfl (by decide) ?_
  refine e_aload0 dX2_doPart_8 ?_
  refine e_get0 flX2_36 dX2_doPart_9 rfl rfl ?_
  refine e_get0 flX2_330 dX2_doPart_12 rfl rfl ?_
  refine e_top (w := qI (nI s.2.1)) (by rw [← h1r]) ?_
  have fi := t_end_fi hw he
  rcases t_let_of (show t_let s.2.1 = true from hw.2.1 (by omega)) with hc | hc | hc | hc | hc | hc | hc
  · refine e_top (w := qI (nI 98)) (by rw [hc]) ?_
    refine e_tableIn 96 (off := 81) dX2_doPart_15 (by decide) (by decide) (by decide +kernel) (by decide) ?_
    have eb := t_end_98 hw he hc
    have e4 : rd 4 = nI s.2.2.2.2 := hr.2.2.2 (e6.elim Or.inl (fun q => Or.inr ⟨q, Or.inl hc⟩))
    by_cases hB : X.1 1 4 = 1 ∧ X.1 0 0 < 8
    · skip
      refine e_aload0 dX2_doPart_96 ?_
      refine e_get0 flX2_10 dX2_doPart_97 rfl rfl ?_
      refine e_vI (M' := mX1_canStart) fX1_canStart lkX2_66 (ctI_K (b := 1) (by decide) (by decide) (w_canStart (hK h (oC pi buf cnt sn len rd) w 10) 1 (w 1) X hR hJ.1)) rfl rfl dX2_doPart_100 (by rw [hK_at (by decide) (by decide)]; rfl) rfl (by decide) (Nat.le_of_ble_eq_true rfl) rfl ?_
      rintro _ _ ⟨rfl, rfl⟩
      rw [hK_self (by decide) (by decide)]
      rw [decide_eq_true hB]
      refine e_if_neN 108 dX2_doPart_103 (by decide) (by first | omega | decide) (fun hc103 => ?_) (fun q => absurd q (by decide))
      refine e_aload0 dX2_doPart_108 ?_
      refine e_get0 flX2_10 dX2_doPart_109 rfl rfl ?_
      refine e_iload1 dX2_doPart_112 ?_
      refine e_aload0 dX2_doPart_113 ?_
      refine e_get0 flX2_36 dX2_doPart_114 rfl rfl ?_
      refine e_get0 flX2_333 dX2_doPart_117 rfl rfl ?_
      refine e_top (w := qI (nI s.2.2.2.1)) (by rw [← h3r]) ?_
      refine e_aload0 dX2_doPart_120 ?_
      refine e_get0 flX2_36 dX2_doPart_121 rfl rfl ?_
      refine e_get0 flX2_336 dX2_doPart_124 rfl rfl ?_
      refine e_top (w := qI (nI s.2.2.2.2)) (by rw [← e4]) ?_
      refine e_vI (M' := mX1_start) fX1_start lkX2_78 (ctI_K (b := 1) (by decide) (by decide) (w_start (hK h (oC pi buf cnt sn len rd) w 10) 1 (w 1) X hR hJ (f := s.2.2.1) (to := s.2.2.2.1) (sz := s.2.2.2.2) hB.2 eb.1 eb.2.2.1)) rfl rfl dX2_doPart_127 (by rw [hK_at (by decide) (by decide)]; rfl) rfl (by decide) (Nat.le_of_ble_eq_true rfl) rfl ?_
      rintro _ _ ⟨rfl, w3, hR3, rfl⟩
      rw [hK_put (by decide) (by decide)]
      refine e_pop dX2_doPart_130 rfl ?_
      refine e_iconst (z := 1) dX2_doPart_131 ?_
      refine e_zret dX2_doPart_132 rfl (by first | rfl | exact q_nar _) ?_
      exact ⟨_, rfl, rfl, by rw [t_can_b hc, decide_eq_true hB]; try rfl, w3, by rw [t_can_b hc, decide_eq_true hB, if_pos rfl, t_do_b hc]; exact hR3, rfl⟩
    · skip
      refine e_aload0 dX2_doPart_96 ?_
      refine e_get0 flX2_10 dX2_doPart_97 rfl rfl ?_
      refine e_vI (M' := mX1_canStart) fX1_canStart lkX2_66 (ctI_K (b := 1) (by decide) (by decide) (w_canStart (hK h (oC pi buf cnt sn len rd) w 10) 1 (w 1) X hR hJ.1)) rfl rfl dX2_doPart_100 (by rw [hK_at (by decide) (by decide)]; rfl) rfl (by decide) (Nat.le_of_ble_eq_true rfl) rfl ?_
      rintro _ _ ⟨rfl, rfl⟩
      rw [hK_self (by decide) (by decide)]
      rw [decide_eq_false hB]
      refine e_if_neN 108 dX2_doPart_103 (by decide) (by first | omega | decide) (fun q => absurd rfl q) (fun hc103 => ?_)
      refine e_iconst (z := 0) dX2_doPart_106 ?_
      refine e_zret dX2_doPart_107 rfl (by first | rfl | exact q_nar _) ?_
      exact ⟨_, rfl, rfl, by rw [t_can_b hc, decide_eq_false hB]; try rfl, w 1, by rw [t_can_b hc, decide_eq_false hB]; exact hR, by rw [uw_self]⟩
  · refine e_top (w := qI (nI 100)) (by rw [hc]) ?_
    refine e_tableIn 133 (off := 118) dX2_doPart_15 (by decide) (by decide) (by decide +kernel) (by decide) ?_
    refine e_aload0 dX2_doPart_133 ?_
    refine e_get0 flX2_10 dX2_doPart_134 rfl rfl ?_
    refine e_iload1 dX2_doPart_137 ?_
    refine e_vI (M' := mX1_deliverFirst) fX1_deliverFirst lkX2_114 (ctI_K (b := 1) (by decide) (by decide) (w_deliverFirst (hK h (oC pi buf cnt sn len rd) w 10) 1 (w 1) X hR hJ (n0 := s.2.2.1) (by omega))) rfl rfl dX2_doPart_138 (by rw [hK_at (by decide) (by decide)]; rfl) rfl (by decide) (Nat.le_of_ble_eq_true rfl) rfl ?_
    rintro _ _ ⟨rfl, w3, hR3, rfl⟩
    rw [hK_put (by decide) (by decide)]
    refine e_pop dX2_doPart_141 rfl ?_
    refine e_iconst (z := 1) dX2_doPart_142 ?_
    refine e_zret dX2_doPart_143 rfl (by first | rfl | exact q_nar _) ?_
    exact ⟨_, rfl, rfl, by rw [t_can_d hc]; try rfl, w3, by rw [t_can_d hc, if_pos rfl, t_do_d hc]; exact hR3, rfl⟩
  · refine e_top (w := qI (nI 108)) (by rw [hc]) ?_
    refine e_tableIn 144 (off := 129) dX2_doPart_15 (by decide) (by decide) (by decide +kernel) (by decide) ?_
    by_cases hB : s.2.2.1 < X.1 0 4
    · skip
      refine e_aload0 dX2_doPart_144 ?_
      refine e_get0 flX2_10 dX2_doPart_145 rfl rfl ?_
      refine e_iload1 dX2_doPart_148 ?_
      refine e_vI (M' := mX1_hasMessage) fX1_hasMessage lkX2_318 (ctI_K (b := 1) (by decide) (by decide) (w_hasMessage (hK h (oC pi buf cnt sn len rd) w 10) 1 (w 1) X hR hJ.1 (nI s.2.2.1))) rfl rfl dX2_doPart_149 (by rw [hK_at (by decide) (by decide)]; rfl) rfl (by decide) (Nat.le_of_ble_eq_true rfl) rfl ?_
      rintro _ _ ⟨rfl, rfl⟩
      rw [hK_self (by decide) (by decide)]
      rw [i_in_le (by omega) (by have := iV2 hJ.1; omega), decide_eq_true hB]
      refine e_if_neN 157 dX2_doPart_152 (by decide) (by first | omega | decide) (fun hc152 => ?_) (fun q => absurd q (by decide))
      refine e_aload0 dX2_doPart_157 ?_
      refine e_get0 flX2_10 dX2_doPart_158 rfl rfl ?_
      refine e_iload1 dX2_doPart_161 ?_
      refine e_vI (M' := mX1_loseFrom) fX1_loseFrom lkX2_118 (ctI_K (b := 1) (by decide) (by decide) (w_loseFrom (hK h (oC pi buf cnt sn len rd) w 10) 1 (w 1) X hR (iV2 hJ.1) (p := s.2.2.1) hB (iV10 hJ.1 _ hB).1)) rfl rfl dX2_doPart_162 (by rw [hK_at (by decide) (by decide)]; rfl) rfl (by decide) (Nat.le_of_ble_eq_true rfl) rfl ?_
      rintro _ _ ⟨rfl, w3, hR3, rfl⟩
      rw [hK_put (by decide) (by decide)]
      refine e_pop dX2_doPart_165 rfl ?_
      refine e_iconst (z := 1) dX2_doPart_166 ?_
      refine e_zret dX2_doPart_167 rfl (by first | rfl | exact q_nar _) ?_
      exact ⟨_, rfl, rfl, by rw [t_can_l hc, decide_eq_true hB]; try rfl, w3, by rw [t_can_l hc, decide_eq_true hB, if_pos rfl, t_do_l hc]; exact hR3, rfl⟩
    · skip
      refine e_aload0 dX2_doPart_144 ?_
      refine e_get0 flX2_10 dX2_doPart_145 rfl rfl ?_
      refine e_iload1 dX2_doPart_148 ?_
      refine e_vI (M' := mX1_hasMessage) fX1_hasMessage lkX2_318 (ctI_K (b := 1) (by decide) (by decide) (w_hasMessage (hK h (oC pi buf cnt sn len rd) w 10) 1 (w 1) X hR hJ.1 (nI s.2.2.1))) rfl rfl dX2_doPart_149 (by rw [hK_at (by decide) (by decide)]; rfl) rfl (by decide) (Nat.le_of_ble_eq_true rfl) rfl ?_
      rintro _ _ ⟨rfl, rfl⟩
      rw [hK_self (by decide) (by decide)]
      rw [i_in_le (by omega) (by have := iV2 hJ.1; omega), decide_eq_false hB]
      refine e_if_neN 157 dX2_doPart_152 (by decide) (by first | omega | decide) (fun q => absurd rfl q) (fun hc152 => ?_)
      refine e_iconst (z := 0) dX2_doPart_155 ?_
      refine e_zret dX2_doPart_156 rfl (by first | rfl | exact q_nar _) ?_
      exact ⟨_, rfl, rfl, by rw [t_can_l hc, decide_eq_false hB]; try rfl, w 1, by rw [t_can_l hc, decide_eq_false hB]; exact hR, by rw [uw_self]⟩
  · refine e_top (w := qI (nI 99)) (by rw [hc]) ?_
    refine e_tableIn 168 (off := 153) dX2_doPart_15 (by decide) (by decide) (by decide +kernel) (by decide) ?_
    have fc := fi.2.1 (by omega)
    have hu := iV3 hJ.1 s.2.2.1 fc
    by_cases hB : X.1 1 s.2.2.1 = 1
    · skip
      refine e_aload0 dX2_doPart_168 ?_
      refine e_get0 flX2_10 dX2_doPart_169 rfl rfl ?_
      refine e_iload1 dX2_doPart_172 ?_
      refine e_vI (M' := mX1_stands) fX1_stands lkX2_124 (ctI_K (b := 1) (by decide) (by decide) (w_stands (hK h (oC pi buf cnt sn len rd) w 10) 1 (w 1) X hR (iV3 hJ.1) (k := s.2.2.1) fc)) rfl rfl dX2_doPart_173 (by rw [hK_at (by decide) (by decide)]; rfl) rfl (by decide) (Nat.le_of_ble_eq_true rfl) rfl ?_
      rintro _ _ ⟨rfl, rfl⟩
      rw [hK_self (by decide) (by decide)]
      rw [decide_eq_true hB]
      refine e_if_neN 181 dX2_doPart_176 (by decide) (by first | omega | decide) (fun hc176 => ?_) (fun q => absurd q (by decide))
      refine e_aload0 dX2_doPart_181 ?_
      refine e_get0 flX2_10 dX2_doPart_182 rfl rfl ?_
      refine e_iload1 dX2_doPart_185 ?_
      refine e_vV (M' := mX1_takeDown) fX1_takeDown lkX2_129 (ctV_K (b := 1) (by decide) (by decide) (w_takeDown (hK h (oC pi buf cnt sn len rd) w 10) 1 (w 1) X hR hJ (k := s.2.2.1) fc)) rfl rfl dX2_doPart_186 (by rw [hK_at (by decide) (by decide)]; rfl) rfl (by decide) (Nat.le_of_ble_eq_true rfl) rfl ?_
      rintro _ ⟨w3, hR3, rfl⟩
      rw [hK_put (by decide) (by decide)]
      refine e_iconst (z := 1) dX2_doPart_189 ?_
      refine e_zret dX2_doPart_190 rfl (by first | rfl | exact q_nar _) ?_
      exact ⟨_, rfl, rfl, by rw [t_can_c hc, decide_eq_true hB]; try rfl, w3, by rw [t_can_c hc, decide_eq_true hB, if_pos rfl, t_do_c hc]; exact hR3, rfl⟩
    · skip
      refine e_aload0 dX2_doPart_168 ?_
      refine e_get0 flX2_10 dX2_doPart_169 rfl rfl ?_
      refine e_iload1 dX2_doPart_172 ?_
      refine e_vI (M' := mX1_stands) fX1_stands lkX2_124 (ctI_K (b := 1) (by decide) (by decide) (w_stands (hK h (oC pi buf cnt sn len rd) w 10) 1 (w 1) X hR (iV3 hJ.1) (k := s.2.2.1) fc)) rfl rfl dX2_doPart_173 (by rw [hK_at (by decide) (by decide)]; rfl) rfl (by decide) (Nat.le_of_ble_eq_true rfl) rfl ?_
      rintro _ _ ⟨rfl, rfl⟩
      rw [hK_self (by decide) (by decide)]
      rw [decide_eq_false hB]
      refine e_if_neN 181 dX2_doPart_176 (by decide) (by first | omega | decide) (fun q => absurd rfl q) (fun hc176 => ?_)
      refine e_iconst (z := 0) dX2_doPart_179 ?_
      refine e_zret dX2_doPart_180 rfl (by first | rfl | exact q_nar _) ?_
      exact ⟨_, rfl, rfl, by rw [t_can_c hc, decide_eq_false hB]; try rfl, w 1, by rw [t_can_c hc, decide_eq_false hB]; exact hR, by rw [uw_self]⟩
  · refine e_top (w := qI (nI 114)) (by rw [hc]) ?_
    refine e_tableIn 191 (off := 176) dX2_doPart_15 (by decide) (by decide) (by decide +kernel) (by decide) ?_
    have fc := fi.2.1 (by omega)
    have hu := iV3 hJ.1 s.2.2.1 fc
    by_cases hB : ¬ X.1 1 s.2.2.1 = 1
    · skip
      refine e_aload0 dX2_doPart_191 ?_
      refine e_get0 flX2_10 dX2_doPart_192 rfl rfl ?_
      refine e_iload1 dX2_doPart_195 ?_
      refine e_vI (M' := mX1_stands) fX1_stands lkX2_124 (ctI_K (b := 1) (by decide) (by decide) (w_stands (hK h (oC pi buf cnt sn len rd) w 10) 1 (w 1) X hR (iV3 hJ.1) (k := s.2.2.1) fc)) rfl rfl dX2_doPart_196 (by rw [hK_at (by decide) (by decide)]; rfl) rfl (by decide) (Nat.le_of_ble_eq_true rfl) rfl ?_
      rintro _ _ ⟨rfl, rfl⟩
      rw [hK_self (by decide) (by decide)]
      rw [decide_eq_false hB]
      refine e_if_eqN 204 dX2_doPart_199 (by decide) (by first | omega | decide) (fun hc199 => ?_) (fun q => absurd rfl q)
      refine e_aload0 dX2_doPart_204 ?_
      refine e_get0 flX2_10 dX2_doPart_205 rfl rfl ?_
      refine e_iload1 dX2_doPart_208 ?_
      refine e_vV (M' := mX1_bringUp) fX1_bringUp lkX2_142 (ctV_K (b := 1) (by decide) (by decide) (w_bringUp (hK h (oC pi buf cnt sn len rd) w 10) 1 (w 1) X hR hJ (k := s.2.2.1) fc)) rfl rfl dX2_doPart_209 (by rw [hK_at (by decide) (by decide)]; rfl) rfl (by decide) (Nat.le_of_ble_eq_true rfl) rfl ?_
      rintro _ ⟨w3, hR3, rfl⟩
      rw [hK_put (by decide) (by decide)]
      refine e_iconst (z := 1) dX2_doPart_212 ?_
      refine e_zret dX2_doPart_213 rfl (by first | rfl | exact q_nar _) ?_
      exact ⟨_, rfl, rfl, by rw [t_can_r hc, decide_eq_true hB]; try rfl, w3, by rw [t_can_r hc, decide_eq_true hB, if_pos rfl, t_do_r hc]; exact hR3, rfl⟩
    · skip
      refine e_aload0 dX2_doPart_191 ?_
      refine e_get0 flX2_10 dX2_doPart_192 rfl rfl ?_
      refine e_iload1 dX2_doPart_195 ?_
      refine e_vI (M' := mX1_stands) fX1_stands lkX2_124 (ctI_K (b := 1) (by decide) (by decide) (w_stands (hK h (oC pi buf cnt sn len rd) w 10) 1 (w 1) X hR (iV3 hJ.1) (k := s.2.2.1) fc)) rfl rfl dX2_doPart_196 (by rw [hK_at (by decide) (by decide)]; rfl) rfl (by decide) (Nat.le_of_ble_eq_true rfl) rfl ?_
      rintro _ _ ⟨rfl, rfl⟩
      rw [hK_self (by decide) (by decide)]
      rw [decide_eq_true (Classical.not_not.mp hB)]
      refine e_if_eqN 204 dX2_doPart_199 (by decide) (by first | omega | decide) (fun q => absurd q (by decide)) (fun hc199 => ?_)
      refine e_iconst (z := 0) dX2_doPart_202 ?_
      refine e_zret dX2_doPart_203 rfl (by first | rfl | exact q_nar _) ?_
      exact ⟨_, rfl, rfl, by rw [t_can_r hc, decide_eq_false hB]; try rfl, w 1, by rw [t_can_r hc, decide_eq_false hB]; exact hR, by rw [uw_self]⟩
  · refine e_top (w := qI (nI 103)) (by rw [hc]) ?_
    refine e_tableIn 214 (off := 199) dX2_doPart_15 (by decide) (by decide) (by decide +kernel) (by decide) ?_
    have fg := fi.2.2.1 hc
    by_cases hB : s.2.2.1 < X.1 0 0 ∧ X.1 1 4 = 1 ∧ X.1 7 s.2.2.1 = 0
    · skip
      refine e_aload0 dX2_doPart_214 ?_
      refine e_get0 flX2_10 dX2_doPart_215 rfl rfl ?_
      refine e_iload1 dX2_doPart_218 ?_
      refine e_vI (M' := mX1_knows) fX1_knows lkX2_313 (ctI_K (b := 1) (by decide) (by decide) (w_knows (hK h (oC pi buf cnt sn len rd) w 10) 1 (w 1) X hR hJ.1 (nI s.2.2.1))) rfl rfl dX2_doPart_219 (by rw [hK_at (by decide) (by decide)]; rfl) rfl (by decide) (Nat.le_of_ble_eq_true rfl) rfl ?_
      rintro _ _ ⟨rfl, rfl⟩
      rw [hK_self (by decide) (by decide)]
      rw [i_in_le (by omega) (by have := iV1 hJ.1; omega), decide_eq_true hB.1]
      refine e_if_eqN 236 dX2_doPart_222 (by decide) (by first | omega | decide) (fun q => absurd q (by decide)) (fun hc222 => ?_)
      refine e_aload0 dX2_doPart_225 ?_
      refine e_get0 flX2_10 dX2_doPart_226 rfl rfl ?_
      refine e_iload1 dX2_doPart_229 ?_
      refine e_vI (M' := mX1_canDecide) fX1_canDecide lkX2_85 (ctI_K (b := 1) (by decide) (by decide) (w_canDecide (hK h (oC pi buf cnt sn len rd) w 10) 1 (w 1) X hR hJ.1 (t := s.2.2.1) fg)) rfl rfl dX2_doPart_230 (by rw [hK_at (by decide) (by decide)]; rfl) rfl (by decide) (Nat.le_of_ble_eq_true rfl) rfl ?_
      rintro _ _ ⟨rfl, rfl⟩
      rw [hK_self (by decide) (by decide)]
      rw [decide_eq_true hB.2]
      refine e_if_neN 238 dX2_doPart_233 (by decide) (by first | omega | decide) (fun hc233 => ?_) (fun q => absurd q (by decide))
      refine e_aload0 dX2_doPart_238 ?_
      refine e_get0 flX2_10 dX2_doPart_239 rfl rfl ?_
      refine e_iload1 dX2_doPart_242 ?_
      refine e_iconst (z := 2) dX2_doPart_243 ?_
      refine e_vV (M' := mX1_decide) fX1_decide lkX2_91 (ctV_K (b := 1) (by decide) (by decide) (w_decide (hK h (oC pi buf cnt sn len rd) w 10) 1 (w 1) X hR (iV2 hJ.1) (t := s.2.2.1) (oc := 2) fg hB.1 (Or.inr rfl) (m_part_lt hJ.1 fg) (j_len7 hJ hB.1 hB.2.2) (j_L hJ))) rfl rfl dX2_doPart_244 (by rw [hK_at (by decide) (by decide)]; rfl) rfl (by decide) (Nat.le_of_ble_eq_true rfl) rfl ?_
      rintro _ ⟨w3, hR3, rfl⟩
      rw [hK_put (by decide) (by decide)]
      refine e_iconst (z := 1) dX2_doPart_247 ?_
      refine e_zret dX2_doPart_248 rfl (by first | rfl | exact q_nar _) ?_
      exact ⟨_, rfl, rfl, by rw [t_can_g hc, decide_eq_true hB]; try rfl, w3, by rw [t_can_g hc, decide_eq_true hB, if_pos rfl, t_do_g hc]; exact hR3, rfl⟩
    · skip
      refine e_aload0 dX2_doPart_214 ?_
      refine e_get0 flX2_10 dX2_doPart_215 rfl rfl ?_
      refine e_iload1 dX2_doPart_218 ?_
      refine e_vI (M' := mX1_knows) fX1_knows lkX2_313 (ctI_K (b := 1) (by decide) (by decide) (w_knows (hK h (oC pi buf cnt sn len rd) w 10) 1 (w 1) X hR hJ.1 (nI s.2.2.1))) rfl rfl dX2_doPart_219 (by rw [hK_at (by decide) (by decide)]; rfl) rfl (by decide) (Nat.le_of_ble_eq_true rfl) rfl ?_
      rintro _ _ ⟨rfl, rfl⟩
      rw [hK_self (by decide) (by decide)]
      rw [i_in_le (by omega) (by have := iV1 hJ.1; omega)]
      by_cases hB1 : s.2.2.1 < X.1 0 0
      · rw [decide_eq_true hB1]
        refine e_if_eqN 236 dX2_doPart_222 (by decide) (by first | omega | decide) (fun q => absurd q (by decide)) (fun hc222 => ?_)
        refine e_aload0 dX2_doPart_225 ?_
        refine e_get0 flX2_10 dX2_doPart_226 rfl rfl ?_
        refine e_iload1 dX2_doPart_229 ?_
        refine e_vI (M' := mX1_canDecide) fX1_canDecide lkX2_85 (ctI_K (b := 1) (by decide) (by decide) (w_canDecide (hK h (oC pi buf cnt sn len rd) w 10) 1 (w 1) X hR hJ.1 (t := s.2.2.1) fg)) rfl rfl dX2_doPart_230 (by rw [hK_at (by decide) (by decide)]; rfl) rfl (by decide) (Nat.le_of_ble_eq_true rfl) rfl ?_
        rintro _ _ ⟨rfl, rfl⟩
        rw [hK_self (by decide) (by decide)]
        rw [decide_eq_false (fun q => hB ⟨hB1, q⟩)]
        refine e_if_neN 238 dX2_doPart_233 (by decide) (by first | omega | decide) (fun q => absurd rfl q) (fun hc233 => ?_)
        refine e_iconst (z := 0) dX2_doPart_236 ?_
        refine e_zret dX2_doPart_237 rfl (by first | rfl | exact q_nar _) ?_
        exact ⟨_, rfl, rfl, by rw [t_can_g hc, decide_eq_false hB]; try rfl, w 1, by rw [t_can_g hc, decide_eq_false hB]; exact hR, by rw [uw_self]⟩
      · rw [decide_eq_false hB1]
        refine e_if_eqN 236 dX2_doPart_222 (by decide) (by first | omega | decide) (fun hc222 => ?_) (fun q => absurd rfl q)
        refine e_iconst (z := 0) dX2_doPart_236 ?_
        refine e_zret dX2_doPart_237 rfl (by first | rfl | exact q_nar _) ?_
        exact ⟨_, rfl, rfl, by rw [t_can_g hc, decide_eq_false hB]; try rfl, w 1, by rw [t_can_g hc, decide_eq_false hB]; exact hR, by rw [uw_self]⟩
  · refine e_top (w := qI (nI 113)) (by rw [hc]) ?_
    refine e_tableIn 249 (off := 234) dX2_doPart_15 (by decide) (by decide) (by decide +kernel) (by decide) ?_
    have fq := fi.2.2.2 hc
    have e8 := (t_end_8 hw he (by omega)).1
    have e4 : rd 4 = nI s.2.2.2.2 := hr.2.2.2 (Or.inr ⟨e8, Or.inr hc⟩)
    by_cases hB : s.2.2.2.2 < X.1 0 0 ∧ X.1 1 s.2.2.1 = 1 ∧ X.1 9 (8 * s.2.2.1 + s.2.2.2.2) = 1
    · skip
      refine e_aload0 dX2_doPart_249 ?_
      refine e_get0 flX2_10 dX2_doPart_250 rfl rfl ?_
      refine e_aload0 dX2_doPart_253 ?_
      refine e_get0 flX2_36 dX2_doPart_254 rfl rfl ?_
      refine e_get0 flX2_336 dX2_doPart_257 rfl rfl ?_
      refine e_top (w := qI (nI s.2.2.2.2)) (by rw [← e4]) ?_
      refine e_vI (M' := mX1_knows) fX1_knows lkX2_313 (ctI_K (b := 1) (by decide) (by decide) (w_knows (hK h (oC pi buf cnt sn len rd) w 10) 1 (w 1) X hR hJ.1 (nI s.2.2.2.2))) rfl rfl dX2_doPart_260 (by rw [hK_at (by decide) (by decide)]; rfl) rfl (by decide) (Nat.le_of_ble_eq_true rfl) rfl ?_
      rintro _ _ ⟨rfl, rfl⟩
      rw [hK_self (by decide) (by decide)]
      rw [i_in_le (by omega) (by have := iV1 hJ.1; omega), decide_eq_true hB.1]
      refine e_if_eqN 284 dX2_doPart_263 (by decide) (by first | omega | decide) (fun q => absurd q (by decide)) (fun hc263 => ?_)
      refine e_aload0 dX2_doPart_266 ?_
      refine e_get0 flX2_10 dX2_doPart_267 rfl rfl ?_
      refine e_iload1 dX2_doPart_270 ?_
      refine e_aload0 dX2_doPart_271 ?_
      refine e_get0 flX2_36 dX2_doPart_272 rfl rfl ?_
      refine e_get0 flX2_336 dX2_doPart_275 rfl rfl ?_
      refine e_top (w := qI (nI s.2.2.2.2)) (by rw [← e4]) ?_
      refine e_vI (M' := mX1_canAskWhatNow) fX1_canAskWhatNow lkX2_97 (ctI_K (b := 1) (by decide) (by decide) (w_canAskWhatNow (hK h (oC pi buf cnt sn len rd) w 10) 1 (w 1) X hR hJ.1 (s := s.2.2.1) (t := s.2.2.2.2) fq.1 fq.2)) rfl rfl dX2_doPart_278 (by rw [hK_at (by decide) (by decide)]; rfl) rfl (by decide) (Nat.le_of_ble_eq_true rfl) rfl ?_
      rintro _ _ ⟨rfl, rfl⟩
      rw [hK_self (by decide) (by decide)]
      rw [decide_eq_true hB.2]
      refine e_if_neN 286 dX2_doPart_281 (by decide) (by first | omega | decide) (fun hc281 => ?_) (fun q => absurd q (by decide))
      refine e_aload0 dX2_doPart_286 ?_
      refine e_get0 flX2_10 dX2_doPart_287 rfl rfl ?_
      refine e_bipush (v := nI 6) dX2_doPart_290 (by decide) ?_
      refine e_aload0 dX2_doPart_292 ?_
      refine e_get0 flX2_36 dX2_doPart_293 rfl rfl ?_
      refine e_get0 flX2_336 dX2_doPart_296 rfl rfl ?_
      refine e_top (w := qI (nI s.2.2.2.2)) (by rw [← e4]) ?_
      refine e_iconst (z := 1) dX2_doPart_299 ?_
      refine e_iload1 dX2_doPart_300 ?_
      refine e_ishl dX2_doPart_301 ?_
      rw [b_one _ fq.1]
      refine e_vV (M' := mX1_send) fX1_send lkX2_103 (ctV_K (b := 1) (by decide) (by decide) (w_send (hK h (oC pi buf cnt sn len rd) w 10) 1 (w 1) X hR (iV2 hJ.1) (kd := 6) (t := s.2.2.2.2) (mk := 2 ^ s.2.2.1) (by decide) fq.2 (b_two _ fq.1))) rfl rfl dX2_doPart_302 (by rw [hK_at (by decide) (by decide)]; rfl) rfl (by decide) (Nat.le_of_ble_eq_true rfl) rfl ?_
      rintro _ ⟨w3, hR3, rfl⟩
      rw [m_sendN_one _ _ _ fq.1] at hR3
      rw [hK_put (by decide) (by decide)]
      refine e_iconst (z := 1) dX2_doPart_305 ?_
      refine e_zret dX2_doPart_306 rfl (by first | rfl | exact q_nar _) ?_
      exact ⟨_, rfl, rfl, by rw [t_can_q hc, decide_eq_true hB]; try rfl, w3, by rw [t_can_q hc, decide_eq_true hB, if_pos rfl, t_do_q hc]; exact hR3, rfl⟩
    · skip
      refine e_aload0 dX2_doPart_249 ?_
      refine e_get0 flX2_10 dX2_doPart_250 rfl rfl ?_
      refine e_aload0 dX2_doPart_253 ?_
      refine e_get0 flX2_36 dX2_doPart_254 rfl rfl ?_
      refine e_get0 flX2_336 dX2_doPart_257 rfl rfl ?_
      refine e_top (w := qI (nI s.2.2.2.2)) (by rw [← e4]) ?_
      refine e_vI (M' := mX1_knows) fX1_knows lkX2_313 (ctI_K (b := 1) (by decide) (by decide) (w_knows (hK h (oC pi buf cnt sn len rd) w 10) 1 (w 1) X hR hJ.1 (nI s.2.2.2.2))) rfl rfl dX2_doPart_260 (by rw [hK_at (by decide) (by decide)]; rfl) rfl (by decide) (Nat.le_of_ble_eq_true rfl) rfl ?_
      rintro _ _ ⟨rfl, rfl⟩
      rw [hK_self (by decide) (by decide)]
      rw [i_in_le (by omega) (by have := iV1 hJ.1; omega)]
      by_cases hB1 : s.2.2.2.2 < X.1 0 0
      · rw [decide_eq_true hB1]
        refine e_if_eqN 284 dX2_doPart_263 (by decide) (by first | omega | decide) (fun q => absurd q (by decide)) (fun hc263 => ?_)
        refine e_aload0 dX2_doPart_266 ?_
        refine e_get0 flX2_10 dX2_doPart_267 rfl rfl ?_
        refine e_iload1 dX2_doPart_270 ?_
        refine e_aload0 dX2_doPart_271 ?_
        refine e_get0 flX2_36 dX2_doPart_272 rfl rfl ?_
        refine e_get0 flX2_336 dX2_doPart_275 rfl rfl ?_
        refine e_top (w := qI (nI s.2.2.2.2)) (by rw [← e4]) ?_
        refine e_vI (M' := mX1_canAskWhatNow) fX1_canAskWhatNow lkX2_97 (ctI_K (b := 1) (by decide) (by decide) (w_canAskWhatNow (hK h (oC pi buf cnt sn len rd) w 10) 1 (w 1) X hR hJ.1 (s := s.2.2.1) (t := s.2.2.2.2) fq.1 fq.2)) rfl rfl dX2_doPart_278 (by rw [hK_at (by decide) (by decide)]; rfl) rfl (by decide) (Nat.le_of_ble_eq_true rfl) rfl ?_
        rintro _ _ ⟨rfl, rfl⟩
        rw [hK_self (by decide) (by decide)]
        rw [decide_eq_false (fun q => hB ⟨hB1, q⟩)]
        refine e_if_neN 286 dX2_doPart_281 (by decide) (by first | omega | decide) (fun q => absurd rfl q) (fun hc281 => ?_)
        refine e_iconst (z := 0) dX2_doPart_284 ?_
        refine e_zret dX2_doPart_285 rfl (by first | rfl | exact q_nar _) ?_
        exact ⟨_, rfl, rfl, by rw [t_can_q hc, decide_eq_false hB]; try rfl, w 1, by rw [t_can_q hc, decide_eq_false hB]; exact hR, by rw [uw_self]⟩
      · rw [decide_eq_false hB1]
        refine e_if_eqN 284 dX2_doPart_263 (by decide) (by first | omega | decide) (fun hc263 => ?_) (fun q => absurd rfl q)
        refine e_iconst (z := 0) dX2_doPart_284 ?_
        refine e_zret dX2_doPart_285 rfl (by first | rfl | exact q_nar _) ?_
        exact ⟨_, rfl, rfl, by rw [t_can_q hc, decide_eq_false hB]; try rfl, w 1, by rw [t_can_q hc, decide_eq_false hB]; exact hR, by rw [uw_self]⟩
