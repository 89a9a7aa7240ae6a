/-! THE MODEL'S PROGRAM: parts are done -/
theorem t_can_b {s : qt} {X : qm} (hc : s.2.1 = 98) : t_can s X = decide (X.1 1 4 = 1 ∧ X.1 0 0 < 8) := by
  unfold t_can
  rw [if_pos hc]
theorem t_do_b {s : qt} {X : qm} (hc : s.2.1 = 98) : t_do s X = m_begin X s.2.2.1 s.2.2.2.1 s.2.2.2.2 := by
  unfold t_do
  rw [if_pos hc]
theorem t_can_d {s : qt} {X : qm} (hc : s.2.1 = 100) : t_can s X = true := by
  unfold t_can
  rw [if_neg (by omega), if_pos hc]
theorem t_do_d {s : qt} {X : qm} (hc : s.2.1 = 100) : t_do s X = m_first s.2.2.1 X := by
  unfold t_do
  rw [if_neg (by omega), if_pos hc]
theorem t_can_l {s : qt} {X : qm} (hc : s.2.1 = 108) : t_can s X = decide (s.2.2.1 < X.1 0 4) := by
  unfold t_can
  rw [if_neg (by omega), if_neg (by omega), if_pos hc]
theorem t_do_l {s : qt} {X : qm} (hc : s.2.1 = 108) : t_do s X = m_lose X s.2.2.1 := by
  unfold t_do
  rw [if_neg (by omega), if_neg (by omega), if_pos hc]
theorem t_can_c {s : qt} {X : qm} (hc : s.2.1 = 99) : t_can s X = decide (X.1 1 s.2.2.1 = 1) := by
  unfold t_can
  rw [if_neg (by omega), if_neg (by omega), if_neg (by omega), if_pos hc]
theorem t_do_c {s : qt} {X : qm} (hc : s.2.1 = 99) : t_do s X = m_crash X s.2.2.1 := by
  unfold t_do
  rw [if_neg (by omega), if_neg (by omega), if_neg (by omega), if_pos hc]
theorem t_can_r {s : qt} {X : qm} (hc : s.2.1 = 114) : t_can s X = decide (¬ X.1 1 s.2.2.1 = 1) := by
  unfold t_can
  rw [if_neg (by omega), if_neg (by omega), if_neg (by omega), if_neg (by omega), if_pos hc]
theorem t_do_r {s : qt} {X : qm} (hc : s.2.1 = 114) : t_do s X = m_recover X s.2.2.1 := by
  unfold t_do
  rw [if_neg (by omega), if_neg (by omega), if_neg (by omega), if_neg (by omega), if_pos hc]
theorem t_can_g {s : qt} {X : qm} (hc : s.2.1 = 103) : t_can s X = decide (s.2.2.1 < X.1 0 0 ∧ X.1 1 4 = 1 ∧ X.1 7 s.2.2.1 = 0) := by
  unfold t_can
  rw [if_neg (by omega), if_neg (by omega), if_neg (by omega), if_neg (by omega), if_neg (by omega), if_pos hc]
theorem t_do_g {s : qt} {X : qm} (hc : s.2.1 = 103) : t_do s X = m_decide X s.2.2.1 2 := by
  unfold t_do
  rw [if_neg (by omega), if_neg (by omega), if_neg (by omega), if_neg (by omega), if_neg (by omega), if_pos hc]
theorem t_can_q {s : qt} {X : qm} (hc : s.2.1 = 113) : t_can s X = decide (s.2.2.2.2 < X.1 0 0 ∧ X.1 1 s.2.2.1 = 1 ∧ X.1 9 (8 * s.2.2.1 + s.2.2.2.2) = 1) := by
  unfold t_can
  rw [if_neg (by omega), if_neg (by omega), if_neg (by omega), if_neg (by omega), if_neg (by omega), if_neg (by omega)]
theorem t_do_q {s : qt} {X : qm} (hc : s.2.1 = 113) : t_do s X = m_send X 6 s.2.2.2.2 s.2.2.1 := by
  unfold t_do
  rw [if_neg (by omega), if_neg (by omega), if_neg (by omega), if_neg (by omega), if_neg (by omega), if_neg (by omega)]
set_option maxRecDepth 20000 in
set_option maxHeartbeats 4000000 in
theorem r_does (h : qB) (th : Int32) (sf asd sts snp txt rdd : Nat → Int32) (cnt hq len pt iw rm : Int32) (X : qm) (hR : RelR sf X) (hJ : J X) {s : qt} (hw : t_wf s) (he : t_end s = true) {j : Nat} (hj : j ≤ 29) (hE : e_ent rdd (4 * j) s) : CtI mX3_does 7 [qR 11 0, qI (nI (4 * j))] (q_put h 11 (oR th sf asd sts snp txt rdd cnt hq len pt iw rm)) (fun r h2 => r = q_b (t_can s X) ∧ ∃ sf', RelR sf' (if t_can s X = true then t_do s X else X) ∧ h2 = q_put h 11 (oR th sf' asd sts snp txt rdd cnt hq len pt iw rm)) := by
  refine ct_of (by decide +kernel) rfl rfl (Nat.le_of_ble_eq_true rfl) ?_
  show Ev mX3_does 7 0 [some (qR 11 0), some (qI (nI (4 * j))), none, none, none] [] 132 (q_put h 11 (oR th sf asd sts snp txt rdd cnt hq len pt iw rm)) 0 0 _ _
  refine e_aload0 dX3_does_0 ?_
  refine e_getfieldF flX3_25 dX3_does_1 rfl rfl ?_
  refine e_iload1 dX3_does_4 ?_
  refine e_iconst (z := 1) dX3_does_5 ?_
  first | refine e_iaddN dX3_does_6 ?_ | refine e_iadd dX3_does_6 ?_
  refine e_ialoadN dX3_does_7 rfl (by omega) (by decide) ?_
  rw [hE.2.1]
  refine e_istore2 dX3_does_8 rfl (by decide) ?_
  refine e_aload0 dX3_does_9 ?_
  refine e_getfieldF flX3_25 dX3_does_10 rfl rfl ?_
  refine e_iload1 dX3_does_13 ?_
  refine e_iconst (z := 2) dX3_does_14 ?_
  first | refine e_iaddN dX3_does_15 ?_ | refine e_iadd dX3_does_15 ?_
  refine e_ialoadN dX3_does_16 rfl (by omega) (by decide) ?_
  refine e_istore3 dX3_does_17 rfl (by decide) ?_
  refine e_aload0 dX3_does_18 ?_
  refine e_getfieldF flX3_25 dX3_does_19 rfl rfl ?_
  refine e_iload1 dX3_does_22 ?_
  refine e_ialoadN dX3_does_23 rfl (by omega) (by decide) ?_
  rw [hE.1]
  have fi := t_end_fi hw he
  rcases t_let_of (show t_let s.2.1 = true from hw.2.1 (by have e9 : s.1 = 6 ∨ s.1 = 8 := of_decide_eq_true he; omega)) with hc | hc | hc | hc | hc | hc | hc
  · rw [show nI s.2.1 = nI 98 by rw [hc]]
    refine e_tableIn 108 (off := 84) dX3_does_24 (by decide) (by decide) (by decide +kernel) (by decide) ?_
    have eb := t_end_98 hw he hc
    have ee := hE.2.2.1 hc
    rw [ee.1]
    by_cases hB : X.1 1 4 = 1 ∧ X.1 0 0 < 8
    · skip
      refine e_aload0 dX3_does_108 ?_
      refine e_vIF (M' := mX3_canBegin) fX3_canBegin lkX3_112 (r_canBegin h th sf asd sts snp txt rdd cnt hq len pt iw rm X hR hJ) rfl rfl dX3_does_109 rfl rfl (by decide) (Nat.le_of_ble_eq_true rfl) rfl ?_
      rintro _ _ ⟨rfl, rfl⟩
      rw [decide_eq_true hB]
      refine e_istore4 dX3_does_112 rfl (by decide) ?_
      refine e_iload4 dX3_does_114 ?_
      refine e_if_eqN 134 dX3_does_116 (by decide) (by first | omega | decide) (fun q => absurd q (by decide)) (fun hc116 => ?_)
      refine e_aload0 dX3_does_119 ?_
      refine e_iload2 dX3_does_120 ?_
      refine e_iload3 dX3_does_121 ?_
      refine e_aload0 dX3_does_122 ?_
      refine e_getfieldF flX3_25 dX3_does_123 rfl rfl ?_
      refine e_iload1 dX3_does_126 ?_
      refine e_iconst (z := 3) dX3_does_127 ?_
      first | refine e_iaddN dX3_does_128 ?_ | refine e_iadd dX3_does_128 ?_
      refine e_ialoadN dX3_does_129 rfl (by omega) (by decide) ?_
      rw [ee.2]
      refine e_vIF (M' := mX3_begins) fX3_begins lkX3_119 (r_begins h th sf asd sts snp txt rdd cnt hq len pt iw rm X hR hJ (f := s.2.2.1) (to := s.2.2.2.1) (sz := s.2.2.2.2) hB.2 eb.1 eb.2.2.1) rfl rfl dX3_does_130 rfl rfl (by decide) (Nat.le_of_ble_eq_true rfl) rfl ?_
      rintro _ _ ⟨rfl, sf3, hR3, rfl⟩
      refine e_pop dX3_does_133 rfl ?_
      refine e_iload4 dX3_does_134 ?_
      refine e_zret dX3_does_136 rfl (by first | rfl | exact q_nar _) ?_
      exact ⟨_, rfl, rfl, by rw [t_can_b hc, decide_eq_true hB]; try rfl, sf3, by rw [t_can_b hc, decide_eq_true hB, if_pos rfl, t_do_b hc]; exact hR3, rfl⟩
    · skip
      refine e_aload0 dX3_does_108 ?_
      refine e_vIF (M' := mX3_canBegin) fX3_canBegin lkX3_112 (r_canBegin h th sf asd sts snp txt rdd cnt hq len pt iw rm X hR hJ) rfl rfl dX3_does_109 rfl rfl (by decide) (Nat.le_of_ble_eq_true rfl) rfl ?_
      rintro _ _ ⟨rfl, rfl⟩
      rw [decide_eq_false hB]
      refine e_istore4 dX3_does_112 rfl (by decide) ?_
      refine e_iload4 dX3_does_114 ?_
      refine e_if_eqN 134 dX3_does_116 (by decide) (by first | omega | decide) (fun hc116 => ?_) (fun q => absurd rfl q)
      refine e_iload4 dX3_does_134 ?_
      refine e_zret dX3_does_136 rfl (by first | rfl | exact q_nar _) ?_
      exact ⟨_, rfl, rfl, by rw [t_can_b hc, decide_eq_false hB]; try rfl, sf, by rw [t_can_b hc, decide_eq_false hB]; exact hR, rfl⟩
  · rw [show nI s.2.1 = nI 100 by rw [hc]]
    refine e_tableIn 299 (off := 275) dX3_does_24 (by decide) (by decide) (by decide +kernel) (by decide) ?_
    refine e_aload0 dX3_does_299 ?_
    refine e_iload2 dX3_does_300 ?_
    refine e_vIF (M' := mX3_deliversFirst) fX3_deliversFirst lkX3_136 (r_deliversFirst h th sf asd sts snp txt rdd cnt hq len pt iw rm X hR hJ (n0 := s.2.2.1) (by omega)) rfl rfl dX3_does_301 rfl rfl (by decide) (Nat.le_of_ble_eq_true rfl) rfl ?_
    rintro _ _ ⟨rfl, sf3, hR3, rfl⟩
    refine e_pop dX3_does_304 rfl ?_
    refine e_iconst (z := 1) dX3_does_305 ?_
    refine e_zret dX3_does_306 rfl (by first | rfl | exact q_nar _) ?_
    exact ⟨_, rfl, rfl, by rw [t_can_d hc]; try rfl, sf3, by rw [t_can_d hc, if_pos rfl, t_do_d hc]; exact hR3, rfl⟩
  · rw [show nI s.2.1 = nI 108 by rw [hc]]
    refine e_tableIn 137 (off := 113) dX3_does_24 (by decide) (by decide) (by decide +kernel) (by decide) ?_
    by_cases hB : s.2.2.1 < X.1 0 4
    · skip
      refine e_aload0 dX3_does_137 ?_
      refine e_iload2 dX3_does_138 ?_
      refine e_vIF (M' := mX3_isMessage) fX3_isMessage lkX3_132 (r_isMessage h th sf asd sts snp txt rdd cnt hq len pt iw rm X hR (Nat.lt_of_le_of_lt (iV2 hJ.1) (by decide)) (nI s.2.2.1)) rfl rfl dX3_does_139 rfl rfl (by decide) (Nat.le_of_ble_eq_true rfl) rfl ?_
      rintro _ _ ⟨rfl, rfl⟩
      rw [i_in_le (by omega) (by have := iV2 hJ.1; omega), decide_eq_true hB]
      refine e_istore4 dX3_does_142 rfl (by decide) ?_
      refine e_iload4 dX3_does_144 ?_
      refine e_if_eqN 155 dX3_does_146 (by decide) (by first | omega | decide) (fun q => absurd q (by decide)) (fun hc146 => ?_)
      refine e_aload0 dX3_does_149 ?_
      refine e_iload2 dX3_does_150 ?_
      refine e_vIF (M' := mX3_loses) fX3_loses lkX3_143 (r_loses h th sf asd sts snp txt rdd cnt hq len pt iw rm X hR hJ (p := s.2.2.1) hB) rfl rfl dX3_does_151 rfl rfl (by decide) (Nat.le_of_ble_eq_true rfl) rfl ?_
      rintro _ _ ⟨rfl, sf3, hR3, rfl⟩
      refine e_pop dX3_does_154 rfl ?_
      refine e_iload4 dX3_does_155 ?_
      refine e_zret dX3_does_157 rfl (by first | rfl | exact q_nar _) ?_
      exact ⟨_, rfl, rfl, by rw [t_can_l hc, decide_eq_true hB]; try rfl, sf3, by rw [t_can_l hc, decide_eq_true hB, if_pos rfl, t_do_l hc]; exact hR3, rfl⟩
    · skip
      refine e_aload0 dX3_does_137 ?_
      refine e_iload2 dX3_does_138 ?_
      refine e_vIF (M' := mX3_isMessage) fX3_isMessage lkX3_132 (r_isMessage h th sf asd sts snp txt rdd cnt hq len pt iw rm X hR (Nat.lt_of_le_of_lt (iV2 hJ.1) (by decide)) (nI s.2.2.1)) rfl rfl dX3_does_139 rfl rfl (by decide) (Nat.le_of_ble_eq_true rfl) rfl ?_
      rintro _ _ ⟨rfl, rfl⟩
      rw [i_in_le (by omega) (by have := iV2 hJ.1; omega), decide_eq_false hB]
      refine e_istore4 dX3_does_142 rfl (by decide) ?_
      refine e_iload4 dX3_does_144 ?_
      refine e_if_eqN 155 dX3_does_146 (by decide) (by first | omega | decide) (fun hc146 => ?_) (fun q => absurd rfl q)
      refine e_iload4 dX3_does_155 ?_
      refine e_zret dX3_does_157 rfl (by first | rfl | exact q_nar _) ?_
      exact ⟨_, rfl, rfl, by rw [t_can_l hc, decide_eq_false hB]; try rfl, sf, by rw [t_can_l hc, decide_eq_false hB]; exact hR, rfl⟩
  · rw [show nI s.2.1 = nI 99 by rw [hc]]
    refine e_tableIn 158 (off := 134) dX3_does_24 (by decide) (by decide) (by decide +kernel) (by decide) ?_
    have fc := fi.2.1 (by omega)
    have hu := iV3 hJ.1 s.2.2.1 fc
    by_cases hB : X.1 1 s.2.2.1 = 1
    · skip
      refine e_aload0 dX3_does_158 ?_
      refine e_getfieldF flX3_7 dX3_does_159 rfl rfl ?_
      refine e_iconst (z := 0) dX3_does_162 ?_
      refine e_iload2 dX3_does_163 ?_
      first | refine e_iaddN dX3_does_164 ?_ | refine e_iadd dX3_does_164 ?_
      refine e_ialoadN dX3_does_165 rfl (by omega) (by decide) ?_
      rw [Nat.zero_add s.2.2.1, rR0 hR _ fc]
      refine e_iconst (z := 1) dX3_does_166 ?_
      refine e_icmp_neN 174 dX3_does_167 (by decide) (by first | omega | decide) (by first | omega | decide) (fun q => absurd hB q) (fun hc167 => ?_)
      refine e_iconst (z := 1) dX3_does_170 ?_
      refine e_goto 175 dX3_does_171 (by decide) ?_
      refine e_istore4 dX3_does_175 rfl (by decide) ?_
      refine e_iload4 dX3_does_177 ?_
      refine e_if_eqN 188 dX3_does_179 (by decide) (by first | omega | decide) (fun q => absurd q (by decide)) (fun hc179 => ?_)
      refine e_aload0 dX3_does_182 ?_
      refine e_iload2 dX3_does_183 ?_
      refine e_vIF (M' := mX3_crashes) fX3_crashes lkX3_149 (r_crashes h th sf asd sts snp txt rdd cnt hq len pt iw rm X hR hJ (k := s.2.2.1) fc) rfl rfl dX3_does_184 rfl rfl (by decide) (Nat.le_of_ble_eq_true rfl) rfl ?_
      rintro _ _ ⟨rfl, sf3, hR3, rfl⟩
      refine e_pop dX3_does_187 rfl ?_
      refine e_iload4 dX3_does_188 ?_
      refine e_zret dX3_does_190 rfl (by first | rfl | exact q_nar _) ?_
      exact ⟨_, rfl, rfl, by rw [t_can_c hc, decide_eq_true hB]; try rfl, sf3, by rw [t_can_c hc, decide_eq_true hB, if_pos rfl, t_do_c hc]; exact hR3, rfl⟩
    · skip
      refine e_aload0 dX3_does_158 ?_
      refine e_getfieldF flX3_7 dX3_does_159 rfl rfl ?_
      refine e_iconst (z := 0) dX3_does_162 ?_
      refine e_iload2 dX3_does_163 ?_
      first | refine e_iaddN dX3_does_164 ?_ | refine e_iadd dX3_does_164 ?_
      refine e_ialoadN dX3_does_165 rfl (by omega) (by decide) ?_
      rw [Nat.zero_add s.2.2.1, rR0 hR _ fc]
      refine e_iconst (z := 1) dX3_does_166 ?_
      refine e_icmp_neN 174 dX3_does_167 (by decide) (by first | omega | decide) (by first | omega | decide) (fun hc167 => ?_) (fun q => absurd q hB)
      refine e_iconst (z := 0) dX3_does_174 ?_
      refine e_istore4 dX3_does_175 rfl (by decide) ?_
      refine e_iload4 dX3_does_177 ?_
      refine e_if_eqN 188 dX3_does_179 (by decide) (by first | omega | decide) (fun hc179 => ?_) (fun q => absurd rfl q)
      refine e_iload4 dX3_does_188 ?_
      refine e_zret dX3_does_190 rfl (by first | rfl | exact q_nar _) ?_
      exact ⟨_, rfl, rfl, by rw [t_can_c hc, decide_eq_false hB]; try rfl, sf, by rw [t_can_c hc, decide_eq_false hB]; exact hR, rfl⟩
  · rw [show nI s.2.1 = nI 114 by rw [hc]]
    refine e_tableIn 191 (off := 167) dX3_does_24 (by decide) (by decide) (by decide +kernel) (by decide) ?_
    have fc := fi.2.1 (by omega)
    have hu := iV3 hJ.1 s.2.2.1 fc
    by_cases hB : ¬ X.1 1 s.2.2.1 = 1
    · skip
      refine e_aload0 dX3_does_191 ?_
      refine e_getfieldF flX3_7 dX3_does_192 rfl rfl ?_
      refine e_iconst (z := 0) dX3_does_195 ?_
      refine e_iload2 dX3_does_196 ?_
      first | refine e_iaddN dX3_does_197 ?_ | refine e_iadd dX3_does_197 ?_
      refine e_ialoadN dX3_does_198 rfl (by omega) (by decide) ?_
      rw [Nat.zero_add s.2.2.1, rR0 hR _ fc]
      refine e_if_neN 206 dX3_does_199 (by decide) (by first | omega | decide) (fun q => absurd (show X.1 1 s.2.2.1 = 0 by omega) q) (fun hc199 => ?_)
      refine e_iconst (z := 1) dX3_does_202 ?_
      refine e_goto 207 dX3_does_203 (by decide) ?_
      refine e_istore4 dX3_does_207 rfl (by decide) ?_
      refine e_iload4 dX3_does_209 ?_
      refine e_if_eqN 219 dX3_does_211 (by decide) (by first | omega | decide) (fun q => absurd q (by decide)) (fun hc211 => ?_)
      refine e_aload0 dX3_does_214 ?_
      refine e_iload2 dX3_does_215 ?_
      refine e_vVF (M' := mX3_recovers) fX3_recovers lkX3_152 (r_recovers h th sf asd sts snp txt rdd cnt hq len pt iw rm X hR hJ (k := s.2.2.1) fc) rfl rfl dX3_does_216 rfl rfl (by decide) (Nat.le_of_ble_eq_true rfl) rfl ?_
      rintro _ ⟨sf3, hR3, rfl⟩
      refine e_iload4 dX3_does_219 ?_
      refine e_zret dX3_does_221 rfl (by first | rfl | exact q_nar _) ?_
      exact ⟨_, rfl, rfl, by rw [t_can_r hc, decide_eq_true hB]; try rfl, sf3, by rw [t_can_r hc, decide_eq_true hB, if_pos rfl, t_do_r hc]; exact hR3, rfl⟩
    · skip
      refine e_aload0 dX3_does_191 ?_
      refine e_getfieldF flX3_7 dX3_does_192 rfl rfl ?_
      refine e_iconst (z := 0) dX3_does_195 ?_
      refine e_iload2 dX3_does_196 ?_
      first | refine e_iaddN dX3_does_197 ?_ | refine e_iadd dX3_does_197 ?_
      refine e_ialoadN dX3_does_198 rfl (by omega) (by decide) ?_
      rw [Nat.zero_add s.2.2.1, rR0 hR _ fc]
      refine e_if_neN 206 dX3_does_199 (by decide) (by first | omega | decide) (fun hc199 => ?_) (fun q => absurd (show X.1 1 s.2.2.1 = 1 by omega) (by omega))
      refine e_iconst (z := 0) dX3_does_206 ?_
      refine e_istore4 dX3_does_207 rfl (by decide) ?_
      refine e_iload4 dX3_does_209 ?_
      refine e_if_eqN 219 dX3_does_211 (by decide) (by first | omega | decide) (fun hc211 => ?_) (fun q => absurd rfl q)
      refine e_iload4 dX3_does_219 ?_
      refine e_zret dX3_does_221 rfl (by first | rfl | exact q_nar _) ?_
      exact ⟨_, rfl, rfl, by rw [t_can_r hc, decide_eq_false hB]; try rfl, sf, by rw [t_can_r hc, decide_eq_false hB]; exact hR, rfl⟩
  · rw [show nI s.2.1 = nI 103 by rw [hc]]
    refine e_tableIn 222 (off := 198) dX3_does_24 (by decide) (by decide) (by decide +kernel) (by decide) ?_
    have fg := fi.2.2.1 hc
    by_cases hB : s.2.2.1 < X.1 0 0 ∧ X.1 1 4 = 1 ∧ X.1 7 s.2.2.1 = 0
    · skip
      refine e_aload0 dX3_does_222 ?_
      refine e_iload2 dX3_does_223 ?_
      refine e_vIF (M' := mX3_isTransfer) fX3_isTransfer lkX3_123 (r_isTransfer h th sf asd sts snp txt rdd cnt hq len pt iw rm X hR (Nat.lt_of_le_of_lt (iV1 hJ.1) (by decide)) (nI s.2.2.1)) rfl rfl dX3_does_224 rfl rfl (by decide) (Nat.le_of_ble_eq_true rfl) rfl ?_
      rintro _ _ ⟨rfl, rfl⟩
      rw [i_in_le (by omega) (by have := iV1 hJ.1; omega), decide_eq_true hB.1]
      refine e_if_eqN 242 dX3_does_227 (by decide) (by first | omega | decide) (fun q => absurd q (by decide)) (fun hc227 => ?_)
      refine e_aload0 dX3_does_230 ?_
      refine e_iload2 dX3_does_231 ?_
      refine e_vIF (M' := mX3_canGiveUp) fX3_canGiveUp lkX3_126 (r_canGiveUp h th sf asd sts snp txt rdd cnt hq len pt iw rm X hR hJ (t := s.2.2.1) fg) rfl rfl dX3_does_232 rfl rfl (by decide) (Nat.le_of_ble_eq_true rfl) rfl ?_
      rintro _ _ ⟨rfl, rfl⟩
      rw [decide_eq_true hB.2]
      refine e_if_eqN 242 dX3_does_235 (by decide) (by first | omega | decide) (fun q => absurd q (by decide)) (fun hc235 => ?_)
      refine e_iconst (z := 1) dX3_does_238 ?_
      refine e_goto 243 dX3_does_239 (by decide) ?_
      refine e_istore4 dX3_does_243 rfl (by decide) ?_
      refine e_iload4 dX3_does_245 ?_
      refine e_if_eqN 256 dX3_does_247 (by decide) (by first | omega | decide) (fun q => absurd q (by decide)) (fun hc247 => ?_)
      refine e_aload0 dX3_does_250 ?_
      refine e_iload2 dX3_does_251 ?_
      refine e_iconst (z := 2) dX3_does_252 ?_
      refine e_vVF (M' := mX3_decides) fX3_decides lkX3_81 (r_decides h th sf asd sts snp txt rdd cnt hq len pt iw rm X hR (wk_J hJ) (t := s.2.2.1) (oc := 2) fg (j_len7 hJ hB.1 hB.2.2)) rfl rfl dX3_does_253 rfl rfl (by decide) (Nat.le_of_ble_eq_true rfl) rfl ?_
      rintro _ ⟨sf3, hR3, rfl⟩
      refine e_iload4 dX3_does_256 ?_
      refine e_zret dX3_does_258 rfl (by first | rfl | exact q_nar _) ?_
      exact ⟨_, rfl, rfl, by rw [t_can_g hc, decide_eq_true hB]; try rfl, sf3, by rw [t_can_g hc, decide_eq_true hB, if_pos rfl, t_do_g hc]; exact hR3, rfl⟩
    · skip
      refine e_aload0 dX3_does_222 ?_
      refine e_iload2 dX3_does_223 ?_
      refine e_vIF (M' := mX3_isTransfer) fX3_isTransfer lkX3_123 (r_isTransfer h th sf asd sts snp txt rdd cnt hq len pt iw rm X hR (Nat.lt_of_le_of_lt (iV1 hJ.1) (by decide)) (nI s.2.2.1)) rfl rfl dX3_does_224 rfl rfl (by decide) (Nat.le_of_ble_eq_true rfl) rfl ?_
      rintro _ _ ⟨rfl, rfl⟩
      rw [i_in_le (by omega) (by have := iV1 hJ.1; omega)]
      by_cases hB1 : s.2.2.1 < X.1 0 0
      · rw [decide_eq_true hB1]
        refine e_if_eqN 242 dX3_does_227 (by decide) (by first | omega | decide) (fun q => absurd q (by decide)) (fun hc227 => ?_)
        refine e_aload0 dX3_does_230 ?_
        refine e_iload2 dX3_does_231 ?_
        refine e_vIF (M' := mX3_canGiveUp) fX3_canGiveUp lkX3_126 (r_canGiveUp h th sf asd sts snp txt rdd cnt hq len pt iw rm X hR hJ (t := s.2.2.1) fg) rfl rfl dX3_does_232 rfl rfl (by decide) (Nat.le_of_ble_eq_true rfl) rfl ?_
        rintro _ _ ⟨rfl, rfl⟩
        rw [decide_eq_false (fun q => hB ⟨hB1, q⟩)]
        refine e_if_eqN 242 dX3_does_235 (by decide) (by first | omega | decide) (fun hc235 => ?_) (fun q => absurd rfl q)
        refine e_iconst (z := 0) dX3_does_242 ?_
        refine e_istore4 dX3_does_243 rfl (by decide) ?_
        refine e_iload4 dX3_does_245 ?_
        refine e_if_eqN 256 dX3_does_247 (by decide) (by first | omega | decide) (fun hc247 => ?_) (fun q => absurd rfl q)
        refine e_iload4 dX3_does_256 ?_
        refine e_zret dX3_does_258 rfl (by first | rfl | exact q_nar _) ?_
        exact ⟨_, rfl, rfl, by rw [t_can_g hc, decide_eq_false hB]; try rfl, sf, by rw [t_can_g hc, decide_eq_false hB]; exact hR, rfl⟩
      · rw [decide_eq_false hB1]
        refine e_if_eqN 242 dX3_does_227 (by decide) (by first | omega | decide) (fun hc227 => ?_) (fun q => absurd rfl q)
        refine e_iconst (z := 0) dX3_does_242 ?_
        refine e_istore4 dX3_does_243 rfl (by decide) ?_
        refine e_iload4 dX3_does_245 ?_
        refine e_if_eqN 256 dX3_does_247 (by decide) (by first | omega | decide) (fun hc247 => ?_) (fun q => absurd rfl q)
        refine e_iload4 dX3_does_256 ?_
        refine e_zret dX3_does_258 rfl (by first | rfl | exact q_nar _) ?_
        exact ⟨_, rfl, rfl, by rw [t_can_g hc, decide_eq_false hB]; try rfl, sf, by rw [t_can_g hc, decide_eq_false hB]; exact hR, rfl⟩
  · rw [show nI s.2.1 = nI 113 by rw [hc]]
    refine e_tableIn 259 (off := 235) dX3_does_24 (by decide) (by decide) (by decide +kernel) (by decide) ?_
    have ee := hE.2.2.2 hc
    have fq := fi.2.2.2 hc
    rw [ee]
    by_cases hB : s.2.2.2.2 < X.1 0 0 ∧ X.1 1 s.2.2.1 = 1 ∧ X.1 9 (8 * s.2.2.1 + s.2.2.2.2) = 1
    · skip
      refine e_aload0 dX3_does_259 ?_
      refine e_iload3 dX3_does_260 ?_
      refine e_vIF (M' := mX3_isTransfer) fX3_isTransfer lkX3_123 (r_isTransfer h th sf asd sts snp txt rdd cnt hq len pt iw rm X hR (Nat.lt_of_le_of_lt (iV1 hJ.1) (by decide)) (nI s.2.2.2.2)) rfl rfl dX3_does_261 rfl rfl (by decide) (Nat.le_of_ble_eq_true rfl) rfl ?_
      rintro _ _ ⟨rfl, rfl⟩
      rw [i_in_le (by omega) (by have := iV1 hJ.1; omega), decide_eq_true hB.1]
      refine e_if_eqN 280 dX3_does_264 (by decide) (by first | omega | decide) (fun q => absurd q (by decide)) (fun hc264 => ?_)
      refine e_aload0 dX3_does_267 ?_
      refine e_iload2 dX3_does_268 ?_
      refine e_iload3 dX3_does_269 ?_
      refine e_vIF (M' := mX3_canAsk) fX3_canAsk lkX3_129 (r_canAsk h th sf asd sts snp txt rdd cnt hq len pt iw rm X hR hJ (s := s.2.2.1) (t := s.2.2.2.2) fq.1 fq.2) rfl rfl dX3_does_270 rfl rfl (by decide) (Nat.le_of_ble_eq_true rfl) rfl ?_
      rintro _ _ ⟨rfl, rfl⟩
      rw [decide_eq_true hB.2]
      refine e_if_eqN 280 dX3_does_273 (by decide) (by first | omega | decide) (fun q => absurd q (by decide)) (fun hc273 => ?_)
      refine e_iconst (z := 1) dX3_does_276 ?_
      refine e_goto 281 dX3_does_277 (by decide) ?_
      refine e_istore4 dX3_does_281 rfl (by decide) ?_
      refine e_iload4 dX3_does_283 ?_
      refine e_if_eqN 296 dX3_does_285 (by decide) (by first | omega | decide) (fun q => absurd q (by decide)) (fun hc285 => ?_)
      refine e_aload0 dX3_does_288 ?_
      refine e_bipush (v := nI 6) dX3_does_289 (by decide) ?_
      refine e_iload3 dX3_does_291 ?_
      refine e_iload2 dX3_does_292 ?_
      refine e_vVF (M' := mX3_sends) fX3_sends lkX3_60 (r_sends h th sf asd sts snp txt rdd cnt hq len pt iw rm X hR (wk_J hJ) (kd := 6) (t := s.2.2.2.2) (s := s.2.2.1)) rfl rfl dX3_does_293 rfl rfl (by decide) (Nat.le_of_ble_eq_true rfl) rfl ?_
      rintro _ ⟨sf3, hR3, rfl⟩
      refine e_iload4 dX3_does_296 ?_
      refine e_zret dX3_does_298 rfl (by first | rfl | exact q_nar _) ?_
      exact ⟨_, rfl, rfl, by rw [t_can_q hc, decide_eq_true hB]; try rfl, sf3, by rw [t_can_q hc, decide_eq_true hB, if_pos rfl, t_do_q hc]; exact hR3, rfl⟩
    · skip
      refine e_aload0 dX3_does_259 ?_
      refine e_iload3 dX3_does_260 ?_
      refine e_vIF (M' := mX3_isTransfer) fX3_isTransfer lkX3_123 (r_isTransfer h th sf asd sts snp txt rdd cnt hq len pt iw rm X hR (Nat.lt_of_le_of_lt (iV1 hJ.1) (by decide)) (nI s.2.2.2.2)) rfl rfl dX3_does_261 rfl rfl (by decide) (Nat.le_of_ble_eq_true rfl) rfl ?_
      rintro _ _ ⟨rfl, rfl⟩
      rw [i_in_le (by omega) (by have := iV1 hJ.1; omega)]
      by_cases hB1 : s.2.2.2.2 < X.1 0 0
      · rw [decide_eq_true hB1]
        refine e_if_eqN 280 dX3_does_264 (by decide) (by first | omega | decide) (fun q => absurd q (by decide)) (fun hc264 => ?_)
        refine e_aload0 dX3_does_267 ?_
        refine e_iload2 dX3_does_268 ?_
        refine e_iload3 dX3_does_269 ?_
        refine e_vIF (M' := mX3_canAsk) fX3_canAsk lkX3_129 (r_canAsk h th sf asd sts snp txt rdd cnt hq len pt iw rm X hR hJ (s := s.2.2.1) (t := s.2.2.2.2) fq.1 fq.2) rfl rfl dX3_does_270 rfl rfl (by decide) (Nat.le_of_ble_eq_true rfl) rfl ?_
        rintro _ _ ⟨rfl, rfl⟩
        rw [decide_eq_false (fun q => hB ⟨hB1, q⟩)]
        refine e_if_eqN 280 dX3_does_273 (by decide) (by first | omega | decide) (fun hc273 => ?_) (fun q => absurd rfl q)
        refine e_iconst (z := 0) dX3_does_280 ?_
        refine e_istore4 dX3_does_281 rfl (by decide) ?_
        refine e_iload4 dX3_does_283 ?_
        refine e_if_eqN 296 dX3_does_285 (by decide) (by first | omega | decide) (fun hc285 => ?_) (fun q => absurd rfl q)
        refine e_iload4 dX3_does_296 ?_
        refine e_zret dX3_does_298 rfl (by first | rfl | exact q_nar _) ?_
        exact ⟨_, rfl, rfl, by rw [t_can_q hc, decide_eq_false hB]; try rfl, sf, by rw [t_can_q hc, decide_eq_false hB]; exact hR, rfl⟩
      · rw [decide_eq_false hB1]
        refine e_if_eqN 280 dX3_does_264 (by decide) (by first | omega | decide) (fun hc264 => ?_) (fun q => absurd rfl q)
        refine e_iconst (z := 0) dX3_does_280 ?_
        refine e_istore4 dX3_does_281 rfl (by decide) ?_
        refine e_iload4 dX3_does_283 ?_
        refine e_if_eqN 296 dX3_does_285 (by decide) (by first | omega | decide) (fun hc285 => ?_) (fun q => absurd rfl q)
        refine e_iload4 dX3_does_296 ?_
        refine e_zret dX3_does_298 rfl (by first | rfl | exact q_nar _) ?_
        exact ⟨_, rfl, rfl, by rw [t_can_q hc, decide_eq_false hB]; try rfl, sf, by rw [t_can_q hc, decide_eq_false hB]; exact hR, rfl⟩
