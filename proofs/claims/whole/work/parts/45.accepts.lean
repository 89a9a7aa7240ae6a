/-! THE CLASS: its reader takes a character -/
theorem t_step_0 {s : qt} {c : Nat} (h : s.1 = 0) (hc : t_let c = true) : t_step s c = some (1, (c, (0, (0, 0)))) := by
  unfold t_step
  rw [if_pos h, if_pos hc]
theorem t_step_n0 {s : qt} {c : Nat} (h : s.1 = 0) (hc : ¬ t_let c = true) : t_step s c = none := by
  unfold t_step
  rw [if_pos h, if_neg hc]
theorem t_step_2 {s : qt} {c : Nat} (h : s.1 = 2) (hc : c = 62) : t_step s c = some (3, s.2) := by
  unfold t_step
  rw [if_neg (by rw [h]; decide), if_neg (by rw [h]; decide), if_pos h, if_pos hc]
theorem t_step_59 {s : qt} {c : Nat} (h : s.1 = 6 ∨ s.1 = 8) (hc : c = 59) : t_step s c = some t_0 := by
  unfold t_step
  rcases h with h | h <;> simp [h, hc]
theorem t_step_no8 {s : qt} {c : Nat} (h : s.1 = 8) (hc : ¬ c = 59) : t_step s c = none := by
  unfold t_step
  simp [h, hc]
theorem rdr_0 {rd : Nat → Int32} : RdR (upd rd 0 (nI 0)) t_0 := ⟨rfl, fun q => absurd q (by decide), fun q => absurd q (by decide), fun q => absurd q (by decide)⟩
set_option maxRecDepth 20000 in
set_option maxHeartbeats 4000000 in
theorem x_accepts (h : qB) (pi : Nat → Option qK) (buf : Nat → Int32) (cnt sn len : Int32) (rd : Nat → Int32) (w : Fin 16 → qw) {s : qt} (hr : RdR rd s) (hw : t_wf s) {c : Nat} (hc : c < 128) : CtI mX0_accepts 3 [qR 0 3, qI (nI c)] (hK h (oC pi buf cnt sn len rd) w 10) (fun r h2 => ∃ rd', h2 = hK h (oC pi buf cnt sn len rd') w 10 ∧ ((∃ s', t_step s c = some s' ∧ r = nI 1 ∧ RdR rd' s') ∨ (t_step s c = none ∧ r = nI 0 ∧ RdR rd' s))) := by
  refine ct_of (by decide +kernel) rfl rfl (Nat.le_of_ble_eq_true rfl) ?_
  show Ev mX0_accepts 3 0 [some (qR 0 3), some (qI (nI c))] [] 132 (hK h (oC pi buf cnt sn len rd) w 10) 0 0 _ _
  refine e_aload0 dX0_accepts_0 ?_
  refine e_get0 flX0_11 dX0_accepts_1 rfl rfl ?_
  obtain ⟨ph, le, fi, ta, la⟩ := s
  have h8 : ph ≤ 8 := hw.1
  rw [show rd 0 = nI ph from hr.1]
  rcases (show ph = 0 ∨ ph = 1 ∨ ph = 2 ∨ ph = 3 ∨ ph = 4 ∨ ph = 5 ∨ ph = 6 ∨ ph = 7 ∨ ph = 8 by omega) with rfl | rfl | rfl | rfl | rfl | rfl | rfl | rfl | rfl
  · refine e_tableIn 52 (off := 48) dX0_accepts_4 (by decide) (by decide) (by decide +kernel) (by decide) ?_
    refine e_aload0 dX0_accepts_52 ?_
    refine e_iload1 dX0_accepts_53 ?_
    refine e_vI (M' := mX0_acceptsLetter) fX0_acceptsLetter lkX0_15 (x_letter h pi buf cnt sn len rd w hc) rfl rfl dX0_accepts_54 (by rw [hK_0]; rfl) rfl (by decide) (Nat.le_of_ble_eq_true rfl) rfl ?_
    rintro _ _ (⟨hd, rfl, rfl⟩ | ⟨hd, rfl, rfl⟩)
    · skip
      refine e_zret dX0_accepts_57 rfl (by first | rfl | exact q_nar _) ?_
      exact ⟨_, rfl, rfl, _, rfl, Or.inl ⟨_, t_step_0 rfl hd, rfl, ⟨rfl, fun _ => ⟨rfl, rfl⟩, fun q => absurd q (by (try dsimp only); omega), fun q => absurd q (by (try dsimp only); omega)⟩⟩⟩
    · skip
      refine e_zret dX0_accepts_57 rfl (by first | rfl | exact q_nar _) ?_
      exact ⟨_, rfl, rfl, _, rfl, Or.inr ⟨t_step_n0 rfl hd, rfl, hr⟩⟩
  · refine e_tableIn 58 (off := 54) dX0_accepts_4 (by decide) (by decide) (by decide +kernel) (by decide) ?_
    have hta0 : ta = 0 := hw.2.2.2.2.2.1 (by dsimp only; decide)
    refine e_aload0 dX0_accepts_58 ?_
    refine e_iload1 dX0_accepts_59 ?_
    refine e_vI (M' := mX0_acceptsFirst) fX0_acceptsFirst lkX0_19 (x_first h pi buf cnt sn len rd w hc (hw.2.1 (by dsimp only; decide)) (hr.2.1 (by dsimp only; decide)).1) rfl rfl dX0_accepts_60 (by rw [hK_0]; rfl) rfl (by decide) (Nat.le_of_ble_eq_true rfl) rfl ?_
    rintro _ _ (⟨hd, rfl, rfl⟩ | ⟨hd, rfl, rfl⟩)
    · skip
      refine e_zret dX0_accepts_63 rfl (by first | rfl | exact q_nar _) ?_
      exact ⟨_, rfl, rfl, _, rfl, Or.inl ⟨_, t_step_1 rfl hd, rfl, ⟨rfl, fun _ => ⟨(hr.2.1 (by dsimp only; decide)).1, by have e := (hr.2.1 (by dsimp only; decide)).2; rw [hta0] at e; exact e⟩, fun _ => rfl, fun q => by
        exfalso
        by_cases l98 : le = 98
        · simp [l98] at q
        · by_cases l113 : le = 113
          · simp [l113] at q
          · simp [l98, l113] at q⟩⟩⟩
    · skip
      refine e_zret dX0_accepts_63 rfl (by first | rfl | exact q_nar _) ?_
      exact ⟨_, rfl, rfl, _, rfl, Or.inr ⟨t_step_no1 rfl hd, rfl, hr⟩⟩
  · refine e_tableIn 64 (off := 60) dX0_accepts_4 (by decide) (by decide) (by decide +kernel) (by decide) ?_
    refine e_aload0 dX0_accepts_64 ?_
    refine e_iload1 dX0_accepts_65 ?_
    refine e_bipush (v := nI 62) dX0_accepts_66 (by decide) ?_
    refine e_iconst (z := 3) dX0_accepts_68 ?_
    refine e_vI (M' := mX0_acceptsSign) fX0_acceptsSign lkX0_22 (x_sign h pi buf cnt sn len rd w (c := c) (g := 62) (nx := 3) hc (by decide)) rfl rfl dX0_accepts_69 (by rw [hK_0]; rfl) rfl (by decide) (Nat.le_of_ble_eq_true rfl) rfl ?_
    rintro _ _ (⟨hd, rfl, rfl⟩ | ⟨hd, rfl, rfl⟩)
    · skip
      refine e_zret dX0_accepts_72 rfl (by first | rfl | exact q_nar _) ?_
      exact ⟨_, rfl, rfl, _, rfl, Or.inl ⟨_, t_step_2 rfl hd, rfl, ⟨rfl, fun _ => hr.2.1 (by dsimp only; decide), fun _ => hr.2.2.1 (by dsimp only; decide), fun q => absurd q (by (try dsimp only); omega)⟩⟩⟩
    · skip
      refine e_zret dX0_accepts_72 rfl (by first | rfl | exact q_nar _) ?_
      exact ⟨_, rfl, rfl, _, rfl, Or.inr ⟨t_step_no2 rfl hd, rfl, hr⟩⟩
  · refine e_tableIn 73 (off := 69) dX0_accepts_4 (by decide) (by decide) (by decide +kernel) (by decide) ?_
    have h98 : le = 98 := hw.2.2.2.1 (by dsimp only; decide) (by dsimp only; decide)
    have hta0 : ta = 0 := hw.2.2.2.2.2.1 (by dsimp only; decide)
    have hf3 := hw.2.2.1 (by dsimp only; decide)
    have hf4 : fi < 4 := by have hf3 : t_lo le ≤ fi ∧ fi ≤ t_hi le := hf3; rw [h98, t_hi98.1] at hf3; omega
    refine e_aload0 dX0_accepts_73 ?_
    refine e_iload1 dX0_accepts_74 ?_
    refine e_vI (M' := mX0_acceptsTaker) fX0_acceptsTaker lkX0_26 (x_taker h pi buf cnt sn len rd w (c := c) (fi := fi) (ta := ta) hc hf4 (by omega) (hr.2.2.1 (by dsimp only; decide)) (hr.2.1 (by dsimp only; decide)).2) rfl rfl dX0_accepts_75 (by rw [hK_0]; rfl) rfl (by decide) (Nat.le_of_ble_eq_true rfl) rfl ?_
    rintro _ _ (⟨hd, rfl, rfl⟩ | ⟨hd, rfl, rfl⟩)
    · skip
      refine e_zret dX0_accepts_78 rfl (by first | rfl | exact q_nar _) ?_
      exact ⟨_, rfl, rfl, _, rfl, Or.inl ⟨_, t_step_tk (Or.inl rfl) hd, rfl, ⟨rfl, fun _ => ⟨(hr.2.1 (by dsimp only; decide)).1, rfl⟩, fun _ => hr.2.2.1 (by dsimp only; decide), fun q => absurd q (by (try dsimp only); omega)⟩⟩⟩
    · skip
      refine e_zret dX0_accepts_78 rfl (by first | rfl | exact q_nar _) ?_
      exact ⟨_, rfl, rfl, _, rfl, Or.inr ⟨t_step_no3 rfl (by rw [Bool.not_eq_true] at hd; exact hd), rfl, hr⟩⟩
  · refine e_tableIn 79 (off := 75) dX0_accepts_4 (by decide) (by decide) (by decide +kernel) (by decide) ?_
    have h98 : le = 98 := hw.2.2.2.1 (by dsimp only; decide) (by dsimp only; decide)
    have hta := hw.2.2.2.2.2.2.1 (by dsimp only; decide) h98
    have hf3 := hw.2.2.1 (by dsimp only; decide)
    have hf4 : fi < 4 := by have hf3 : t_lo le ≤ fi ∧ fi ≤ t_hi le := hf3; rw [h98, t_hi98.1] at hf3; omega
    refine e_aload0 dX0_accepts_79 ?_
    refine e_iload1 dX0_accepts_80 ?_
    refine e_bipush (v := nI 58) dX0_accepts_81 (by decide) ?_
    refine e_iconst (z := 5) dX0_accepts_83 ?_
    refine e_vI (M' := mX0_acceptsSign) fX0_acceptsSign lkX0_22 (x_sign h pi buf cnt sn len rd w (c := c) (g := 58) (nx := 5) hc (by decide)) rfl rfl dX0_accepts_84 (by rw [hK_0]; rfl) rfl (by decide) (Nat.le_of_ble_eq_true rfl) rfl ?_
    rintro _ _ (⟨hd, rfl, rfl⟩ | ⟨hd, rfl, rfl⟩)
    · skip
      refine e_if_neN 98 dX0_accepts_87 (by decide) (by first | omega | decide) (fun hc87 => ?_) (fun q => absurd q (by decide))
      refine e_iconst (z := 1) dX0_accepts_98 ?_
      refine e_goto 103 dX0_accepts_99 (by decide) ?_
      refine e_zret dX0_accepts_103 rfl (by first | rfl | exact q_nar _) ?_
      exact ⟨_, rfl, rfl, _, rfl, Or.inl ⟨_, t_step_58 rfl hd, rfl, ⟨rfl, fun _ => hr.2.1 (by dsimp only; decide), fun _ => hr.2.2.1 (by dsimp only; decide), fun q => absurd q (by (try dsimp only); omega)⟩⟩⟩
    · skip
      refine e_if_neN 98 dX0_accepts_87 (by decide) (by first | omega | decide) (fun q => absurd rfl q) (fun hc87 => ?_)
      refine e_aload0 dX0_accepts_90 ?_
      refine e_iload1 dX0_accepts_91 ?_
      refine e_vI (M' := mX0_acceptsTaker) fX0_acceptsTaker lkX0_26 (x_taker h pi buf cnt sn len rd w (c := c) (fi := fi) (ta := ta) hc hf4 hta.2.1 (hr.2.2.1 (by dsimp only; decide)) (hr.2.1 (by dsimp only; decide)).2) rfl rfl dX0_accepts_92 (by rw [hK_0]; rfl) rfl (by decide) (Nat.le_of_ble_eq_true rfl) rfl ?_
      rintro _ _ (⟨he, rfl, rfl⟩ | ⟨he, rfl, rfl⟩)
      · skip
        refine e_if_eqN 102 dX0_accepts_95 (by decide) (by first | omega | decide) (fun q => absurd q (by decide)) (fun hc95 => ?_)
        refine e_iconst (z := 1) dX0_accepts_98 ?_
        refine e_goto 103 dX0_accepts_99 (by decide) ?_
        refine e_zret dX0_accepts_103 rfl (by first | rfl | exact q_nar _) ?_
        exact ⟨_, rfl, rfl, _, rfl, Or.inl ⟨_, t_step_tk (Or.inr rfl) he, rfl, ⟨rfl, fun _ => ⟨(hr.2.1 (by dsimp only; decide)).1, rfl⟩, fun _ => hr.2.2.1 (by dsimp only; decide), fun q => absurd q (by (try dsimp only); omega)⟩⟩⟩
      · skip
        refine e_if_eqN 102 dX0_accepts_95 (by decide) (by first | omega | decide) (fun hc95 => ?_) (fun q => absurd rfl q)
        refine e_iconst (z := 0) dX0_accepts_102 ?_
        refine e_zret dX0_accepts_103 rfl (by first | rfl | exact q_nar _) ?_
        exact ⟨_, rfl, rfl, _, rfl, Or.inr ⟨t_step_no4 rfl (by rw [Bool.not_eq_true] at he; exact he) hd, rfl, hr⟩⟩
  · refine e_tableIn 104 (off := 100) dX0_accepts_4 (by decide) (by decide) (by decide +kernel) (by decide) ?_
    refine e_aload0 dX0_accepts_104 ?_
    refine e_iload1 dX0_accepts_105 ?_
    refine e_iconst (z := 1) dX0_accepts_106 ?_
    refine e_bipush (v := nI 9) dX0_accepts_107 (by decide) ?_
    refine e_bipush (v := nI 6) dX0_accepts_109 (by decide) ?_
    refine e_vI (M' := mX0_acceptsNumber) fX0_acceptsNumber lkX0_29 (x_number h pi buf cnt sn len rd w (c := c) (lo := 1) (hi := 9) (nx := 6) hc (by decide) (by decide)) rfl rfl dX0_accepts_111 (by rw [hK_0]; rfl) rfl (by decide) (Nat.le_of_ble_eq_true rfl) rfl ?_
    rintro _ _ (⟨hd, rfl, rfl⟩ | ⟨hd, rfl, rfl⟩)
    · skip
      refine e_zret dX0_accepts_114 rfl (by first | rfl | exact q_nar _) ?_
      exact ⟨_, rfl, rfl, _, rfl, Or.inl ⟨_, t_step_5 rfl hd, rfl, ⟨rfl, fun _ => hr.2.1 (by dsimp only; decide), fun _ => hr.2.2.1 (by dsimp only; decide), fun _ => rfl⟩⟩⟩
    · skip
      refine e_zret dX0_accepts_114 rfl (by first | rfl | exact q_nar _) ?_
      exact ⟨_, rfl, rfl, _, rfl, Or.inr ⟨t_step_no5 rfl hd, rfl, hr⟩⟩
  · refine e_tableIn 115 (off := 111) dX0_accepts_4 (by decide) (by decide) (by decide +kernel) (by decide) ?_
    have hla := hw.2.2.2.2.2.2.2.1 rfl
    have hla : 1 ≤ la ∧ la ≤ 9 := hla
    refine e_aload0 dX0_accepts_115 ?_
    refine e_iload1 dX0_accepts_116 ?_
    refine e_bipush (v := nI 59) dX0_accepts_117 (by decide) ?_
    refine e_iconst (z := 0) dX0_accepts_119 ?_
    refine e_vI (M' := mX0_acceptsSign) fX0_acceptsSign lkX0_22 (x_sign h pi buf cnt sn len rd w (c := c) (g := 59) (nx := 0) hc (by decide)) rfl rfl dX0_accepts_120 (by rw [hK_0]; rfl) rfl (by decide) (Nat.le_of_ble_eq_true rfl) rfl ?_
    rintro _ _ (⟨hd, rfl, rfl⟩ | ⟨hd, rfl, rfl⟩)
    · skip
      refine e_if_neN 134 dX0_accepts_123 (by decide) (by first | omega | decide) (fun hc123 => ?_) (fun q => absurd q (by decide))
      refine e_iconst (z := 1) dX0_accepts_134 ?_
      refine e_goto 139 dX0_accepts_135 (by decide) ?_
      refine e_zret dX0_accepts_139 rfl (by first | rfl | exact q_nar _) ?_
      exact ⟨_, rfl, rfl, _, rfl, Or.inl ⟨_, t_step_59 (Or.inl rfl) hd, rfl, rdr_0⟩⟩
    · skip
      refine e_if_neN 134 dX0_accepts_123 (by decide) (by first | omega | decide) (fun q => absurd rfl q) (fun hc123 => ?_)
      refine e_aload0 dX0_accepts_126 ?_
      refine e_iload1 dX0_accepts_127 ?_
      refine e_vI (M' := mX0_acceptsSecondDigit) fX0_acceptsSecondDigit lkX0_33 (x_second h pi buf cnt sn len rd w (c := c) (la := la) hc (by omega) (hr.2.2.2 (Or.inl rfl))) rfl rfl dX0_accepts_128 (by rw [hK_0]; rfl) rfl (by decide) (Nat.le_of_ble_eq_true rfl) rfl ?_
      rintro _ _ (⟨he, rfl, rfl⟩ | ⟨he, rfl, rfl⟩)
      · skip
        refine e_if_eqN 138 dX0_accepts_131 (by decide) (by first | omega | decide) (fun q => absurd q (by decide)) (fun hc131 => ?_)
        refine e_iconst (z := 1) dX0_accepts_134 ?_
        refine e_goto 139 dX0_accepts_135 (by decide) ?_
        refine e_zret dX0_accepts_139 rfl (by first | rfl | exact q_nar _) ?_
        exact ⟨_, rfl, rfl, _, rfl, Or.inl ⟨_, t_step_6 rfl he.1 he.2.1 he.2.2, rfl, ⟨rfl, fun _ => hr.2.1 (by dsimp only; decide), fun _ => hr.2.2.1 (by dsimp only; decide), fun _ => rfl⟩⟩⟩
      · skip
        refine e_if_eqN 138 dX0_accepts_131 (by decide) (by first | omega | decide) (fun hc131 => ?_) (fun q => absurd rfl q)
        refine e_iconst (z := 0) dX0_accepts_138 ?_
        refine e_zret dX0_accepts_139 rfl (by first | rfl | exact q_nar _) ?_
        exact ⟨_, rfl, rfl, _, rfl, Or.inr ⟨t_step_no6 rfl hd he, rfl, hr⟩⟩
  · refine e_tableIn 140 (off := 136) dX0_accepts_4 (by decide) (by decide) (by decide +kernel) (by decide) ?_
    refine e_aload0 dX0_accepts_140 ?_
    refine e_iload1 dX0_accepts_141 ?_
    refine e_iconst (z := 0) dX0_accepts_142 ?_
    refine e_bipush (v := nI 7) dX0_accepts_143 (by decide) ?_
    refine e_bipush (v := nI 8) dX0_accepts_145 (by decide) ?_
    refine e_vI (M' := mX0_acceptsNumber) fX0_acceptsNumber lkX0_29 (x_number h pi buf cnt sn len rd w (c := c) (lo := 0) (hi := 7) (nx := 8) hc (by decide) (by decide)) rfl rfl dX0_accepts_147 (by rw [hK_0]; rfl) rfl (by decide) (Nat.le_of_ble_eq_true rfl) rfl ?_
    rintro _ _ (⟨hd, rfl, rfl⟩ | ⟨hd, rfl, rfl⟩)
    · skip
      refine e_zret dX0_accepts_150 rfl (by first | rfl | exact q_nar _) ?_
      exact ⟨_, rfl, rfl, _, rfl, Or.inl ⟨_, t_step_7 rfl hd, rfl, ⟨rfl, fun _ => hr.2.1 (by dsimp only; decide), fun _ => hr.2.2.1 (by dsimp only; decide), fun _ => rfl⟩⟩⟩
    · skip
      refine e_zret dX0_accepts_150 rfl (by first | rfl | exact q_nar _) ?_
      exact ⟨_, rfl, rfl, _, rfl, Or.inr ⟨t_step_no7 rfl hd, rfl, hr⟩⟩
  · refine e_tableOut 151 dX0_accepts_4 (by decide) (by decide) ?_
    refine e_aload0 dX0_accepts_151 ?_
    refine e_iload1 dX0_accepts_152 ?_
    refine e_bipush (v := nI 59) dX0_accepts_153 (by decide) ?_
    refine e_iconst (z := 0) dX0_accepts_155 ?_
    refine e_vI (M' := mX0_acceptsSign) fX0_acceptsSign lkX0_22 (x_sign h pi buf cnt sn len rd w (c := c) (g := 59) (nx := 0) hc (by decide)) rfl rfl dX0_accepts_156 (by rw [hK_0]; rfl) rfl (by decide) (Nat.le_of_ble_eq_true rfl) rfl ?_
    rintro _ _ (⟨hd, rfl, rfl⟩ | ⟨hd, rfl, rfl⟩)
    · skip
      refine e_zret dX0_accepts_159 rfl (by first | rfl | exact q_nar _) ?_
      exact ⟨_, rfl, rfl, _, rfl, Or.inl ⟨_, t_step_59 (Or.inr rfl) hd, rfl, rdr_0⟩⟩
    · skip
      refine e_zret dX0_accepts_159 rfl (by first | rfl | exact q_nar _) ?_
      exact ⟨_, rfl, rfl, _, rfl, Or.inr ⟨t_step_no8 rfl hd, rfl, hr⟩⟩
