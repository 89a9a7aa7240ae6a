/-! THE CLASS: its reader -/
def RdR (rd : Nat → Int32) (s : qt) : Prop := rd 0 = nI s.1 ∧ (1 ≤ s.1 → rd 1 = nI s.2.1 ∧ rd 3 = nI s.2.2.2.1) ∧ (2 ≤ s.1 → rd 2 = nI s.2.2.1) ∧ ((s.1 = 6 ∨ (s.1 = 8 ∧ (s.2.1 = 98 ∨ s.2.1 = 113))) → rd 4 = nI s.2.2.2.2)
theorem dg_neg : ∀ c, c < 48 → nI c - nI 48 < 0 := by decide +kernel
theorem dg_neg2 : ∀ c, c < 48 → ∀ k, k < 10 → nI c - nI 48 < nI k := by decide +kernel
theorem b_shr : ∀ a, a < 16 → ∀ k, k < 4 → nI a >>> (nI k &&& 31) = nI (a / 2 ^ k) := by decide +kernel
theorem b_div16 : ∀ a, a < 16 → ∀ k, k < 4 → a / 2 ^ k < 16 := by decide +kernel
set_option maxRecDepth 20000 in
set_option maxHeartbeats 4000000 in
theorem x_restart (h : qB) (pi : Nat → Option qK) (buf : Nat → Int32) (cnt sn len : Int32) (rd : Nat → Int32) (w : Fin 16 → qw) : CtV mX0_restart 0 [qR 0 3] (hK h (oC pi buf cnt sn len rd) w 10) (fun h2 => h2 = hK h (oC pi buf cnt sn len (upd rd 0 (nI 0))) w 10) := by
  refine ct_of (by decide +kernel) rfl rfl (Nat.le_of_ble_eq_true rfl) ?_
  show Ev mX0_restart 0 0 [some (qR 0 3)] [] 132 (hK h (oC pi buf cnt sn len rd) w 10) 0 0 _ _
  refine e_aload0 dX0_restart_0 ?_
  refine e_iconst (z := 0) dX0_restart_1 ?_
  refine e_put0 flX0_11 dX0_restart_2 rfl (Nat.le_of_ble_eq_true rfl) (fun _ => rfl) (fun _ => rfl) ?_
  refine e_vret dX0_restart_5 rfl ?_
  exact ⟨rfl, rfl, rfl⟩
set_option maxRecDepth 20000 in
set_option maxHeartbeats 4000000 in
theorem x_isComplete (h : qB) (pi : Nat → Option qK) (buf : Nat → Int32) (cnt sn len : Int32) (rd : Nat → Int32) (w : Fin 16 → qw) {s : qt} (hr : RdR rd s) (hw : t_wf s) : CtI mX0_isComplete 0 [qR 0 3] (hK h (oC pi buf cnt sn len rd) w 10) (fun r h2 => r = q_b (t_end s) ∧ h2 = hK h (oC pi buf cnt sn len rd) w 10) := by
  refine ct_of (by decide +kernel) rfl rfl (Nat.le_of_ble_eq_true rfl) ?_
  show Ev mX0_isComplete 0 0 [some (qR 0 3)] [] 132 (hK h (oC pi buf cnt sn len rd) w 10) 0 0 _ _
  refine e_aload0 dX0_isComplete_0 ?_
  refine e_get0 flX0_11 dX0_isComplete_1 rfl rfl ?_
  rw [hr.1]
  have h8 := hw.1
  refine e_bipush (v := nI 6) dX0_isComplete_4 (by decide) ?_
  first | refine e_icmp_eqN 18 dX0_isComplete_6 (by decide) (by omega) (by omega) (fun hc6 => ?_) (fun hc6 => ?_) | refine e_icmp_eq 18 dX0_isComplete_6 (by decide) (fun hc6 => ?_) (fun hc6 => ?_)
  · refine e_iconst (z := 1) dX0_isComplete_18 ?_
    refine e_goto 23 dX0_isComplete_19 (by decide) ?_
    refine e_zret dX0_isComplete_23 rfl (by first | rfl | exact q_nar _) ?_
    first
      | exact ⟨_, rfl, rfl, by unfold t_end; rw [decide_eq_true (by omega)]; rfl, rfl⟩
      | exact ⟨_, rfl, rfl, by unfold t_end; rw [decide_eq_false (by omega)]; rfl, rfl⟩
  · refine e_aload0 dX0_isComplete_9 ?_
    refine e_get0 flX0_11 dX0_isComplete_10 rfl rfl ?_
    rw [hr.1]
    refine e_bipush (v := nI 8) dX0_isComplete_13 (by decide) ?_
    first | refine e_icmp_neN 22 dX0_isComplete_15 (by decide) (by omega) (by omega) (fun hc15 => ?_) (fun hc15 => ?_) | refine e_icmp_ne 22 dX0_isComplete_15 (by decide) (fun hc15 => ?_) (fun hc15 => ?_)
    · refine e_iconst (z := 0) dX0_isComplete_22 ?_
      refine e_zret dX0_isComplete_23 rfl (by first | rfl | exact q_nar _) ?_
      first
        | exact ⟨_, rfl, rfl, by unfold t_end; rw [decide_eq_true (by omega)]; rfl, rfl⟩
        | exact ⟨_, rfl, rfl, by unfold t_end; rw [decide_eq_false (by omega)]; rfl, rfl⟩
    · refine e_iconst (z := 1) dX0_isComplete_18 ?_
      refine e_goto 23 dX0_isComplete_19 (by decide) ?_
      refine e_zret dX0_isComplete_23 rfl (by first | rfl | exact q_nar _) ?_
      first
        | exact ⟨_, rfl, rfl, by unfold t_end; rw [decide_eq_true (by omega)]; rfl, rfl⟩
        | exact ⟨_, rfl, rfl, by unfold t_end; rw [decide_eq_false (by omega)]; rfl, rfl⟩
set_option maxRecDepth 20000 in
set_option maxHeartbeats 4000000 in
theorem x_sign (h : qB) (pi : Nat → Option qK) (buf : Nat → Int32) (cnt sn len : Int32) (rd : Nat → Int32) (w : Fin 16 → qw) {c g nx : Nat} (hc : c < 128) (hg : g < 128) : CtI mX0_acceptsSign 0 [qR 0 3, qI (nI c), qI (nI g), qI (nI nx)] (hK h (oC pi buf cnt sn len rd) w 10) (fun r h2 => ((c = g) ∧ r = nI 1 ∧ h2 = hK h (oC pi buf cnt sn len (upd rd 0 (nI nx))) w 10) ∨ (¬ (c = g) ∧ r = nI 0 ∧ h2 = hK h (oC pi buf cnt sn len rd) w 10)) := by
  refine ct_of (by decide +kernel) rfl rfl (Nat.le_of_ble_eq_true rfl) ?_
  show Ev mX0_acceptsSign 0 0 [some (qR 0 3), some (qI (nI c)), some (qI (nI g)), some (qI (nI nx))] [] 132 (hK h (oC pi buf cnt sn len rd) w 10) 0 0 _ _
  refine e_iload1 dX0_acceptsSign_0 ?_
  refine e_iload2 dX0_acceptsSign_1 ?_
  first | refine e_icmp_eqN 7 dX0_acceptsSign_2 (by decide) (by omega) (by omega) (fun hc2 => ?_) (fun hc2 => ?_) | refine e_icmp_eq 7 dX0_acceptsSign_2 (by decide) (fun hc2 => ?_) (fun hc2 => ?_)
  · refine e_aload0 dX0_acceptsSign_7 ?_
    refine e_iload3 dX0_acceptsSign_8 ?_
    refine e_put0 flX0_11 dX0_acceptsSign_9 rfl (Nat.le_of_ble_eq_true rfl) (fun _ => rfl) (fun _ => rfl) ?_
    refine e_iconst (z := 1) dX0_acceptsSign_12 ?_
    refine e_zret dX0_acceptsSign_13 rfl (by first | rfl | exact q_nar _) ?_
    first
      | exact ⟨_, rfl, rfl, Or.inl ⟨(by omega), rfl, rfl⟩⟩
      | exact ⟨_, rfl, rfl, Or.inr ⟨(by omega), rfl, rfl⟩⟩
  · refine e_iconst (z := 0) dX0_acceptsSign_5 ?_
    refine e_zret dX0_acceptsSign_6 rfl (by first | rfl | exact q_nar _) ?_
    first
      | exact ⟨_, rfl, rfl, Or.inl ⟨(by omega), rfl, rfl⟩⟩
      | exact ⟨_, rfl, rfl, Or.inr ⟨(by omega), rfl, rfl⟩⟩
set_option maxRecDepth 20000 in
set_option maxHeartbeats 4000000 in
theorem x_number (h : qB) (pi : Nat → Option qK) (buf : Nat → Int32) (cnt sn len : Int32) (rd : Nat → Int32) (w : Fin 16 → qw) {c lo hi nx : Nat} (hc : c < 128) (hlo : lo < 10) (hhi : hi < 10) : CtI mX0_acceptsNumber 0 [qR 0 3, qI (nI c), qI (nI lo), qI (nI hi), qI (nI nx)] (hK h (oC pi buf cnt sn len rd) w 10) (fun r h2 => ((48 + lo ≤ c ∧ c ≤ 48 + hi) ∧ r = nI 1 ∧ h2 = hK h (oC pi buf cnt sn len (upd (upd rd 4 (nI (c - 48))) 0 (nI nx))) w 10) ∨ (¬ (48 + lo ≤ c ∧ c ≤ 48 + hi) ∧ r = nI 0 ∧ h2 = hK h (oC pi buf cnt sn len rd) w 10)) := by
  refine ct_of (by decide +kernel) rfl rfl (Nat.le_of_ble_eq_true rfl) ?_
  show Ev mX0_acceptsNumber 0 0 [some (qR 0 3), some (qI (nI c)), some (qI (nI lo)), some (qI (nI hi)), some (qI (nI nx)), none] [] 132 (hK h (oC pi buf cnt sn len rd) w 10) 0 0 _ _
  refine e_iload1 dX0_acceptsNumber_0 ?_
  refine e_bipush (v := nI 48) dX0_acceptsNumber_1 (by decide) ?_
  by_cases h48 : 48 ≤ c
  · skip
    refine e_isubN dX0_acceptsNumber_3 h48 ?_
    refine e_istore5 dX0_acceptsNumber_4 rfl (by decide) ?_
    refine e_iload5 dX0_acceptsNumber_6 ?_
    refine e_iload2 dX0_acceptsNumber_8 ?_
    first | refine e_icmp_ltN 18 dX0_acceptsNumber_9 (by decide) (by omega) (by omega) (fun hc9 => ?_) (fun hc9 => ?_) | refine e_icmp_lt 18 dX0_acceptsNumber_9 (by decide) (fun hc9 => ?_) (fun hc9 => ?_)
    · refine e_iconst (z := 0) dX0_acceptsNumber_18 ?_
      refine e_zret dX0_acceptsNumber_19 rfl (by first | rfl | exact q_nar _) ?_
      exact ⟨_, rfl, rfl, Or.inr ⟨by omega, rfl, rfl⟩⟩
    · refine e_iload5 dX0_acceptsNumber_12 ?_
      refine e_iload3 dX0_acceptsNumber_14 ?_
      first | refine e_icmp_leN 20 dX0_acceptsNumber_15 (by decide) (by omega) (by omega) (fun hc15 => ?_) (fun hc15 => ?_) | refine e_icmp_le 20 dX0_acceptsNumber_15 (by decide) (fun hc15 => ?_) (fun hc15 => ?_)
      · refine e_aload0 dX0_acceptsNumber_20 ?_
        refine e_iload5 dX0_acceptsNumber_21 ?_
        refine e_put0 flX0_49 dX0_acceptsNumber_23 rfl (Nat.le_of_ble_eq_true rfl) (fun _ => rfl) (fun _ => rfl) ?_
        refine e_aload0 dX0_acceptsNumber_26 ?_
        refine e_iload4 dX0_acceptsNumber_27 ?_
        refine e_put0 flX0_11 dX0_acceptsNumber_29 rfl (Nat.le_of_ble_eq_true rfl) (fun _ => rfl) (fun _ => rfl) ?_
        refine e_iconst (z := 1) dX0_acceptsNumber_32 ?_
        refine e_zret dX0_acceptsNumber_33 rfl (by first | rfl | exact q_nar _) ?_
        exact ⟨_, rfl, rfl, Or.inl ⟨by omega, rfl, rfl⟩⟩
      · refine e_iconst (z := 0) dX0_acceptsNumber_18 ?_
        refine e_zret dX0_acceptsNumber_19 rfl (by first | rfl | exact q_nar _) ?_
        exact ⟨_, rfl, rfl, Or.inr ⟨by omega, rfl, rfl⟩⟩
  · skip
    refine e_isub dX0_acceptsNumber_3 ?_
    refine e_istore5 dX0_acceptsNumber_4 rfl (by decide) ?_
    refine e_iload5 dX0_acceptsNumber_6 ?_
    refine e_iload2 dX0_acceptsNumber_8 ?_
    refine e_icmp_lt 18 dX0_acceptsNumber_9 (by decide) (fun hc9 => ?_) (fun q => absurd (dg_neg2 c (by omega) lo hlo) q)
    refine e_iconst (z := 0) dX0_acceptsNumber_18 ?_
    refine e_zret dX0_acceptsNumber_19 rfl (by first | rfl | exact q_nar _) ?_
    exact ⟨_, rfl, rfl, Or.inr ⟨by omega, rfl, rfl⟩⟩
set_option maxRecDepth 20000 in
set_option maxHeartbeats 4000000 in
theorem x_taker (h : qB) (pi : Nat → Option qK) (buf : Nat → Int32) (cnt sn len : Int32) (rd : Nat → Int32) (w : Fin 16 → qw) {c fi ta : Nat} (hc : c < 128) (hfi : fi < 4) (hta : ta < 16) (h2r : rd 2 = nI fi) (h3r : rd 3 = nI ta) : CtI mX0_acceptsTaker 0 [qR 0 3, qI (nI c)] (hK h (oC pi buf cnt sn len rd) w 10) (fun r h2 => ((t_tk fi ta c = true) ∧ r = nI 1 ∧ h2 = hK h (oC pi buf cnt sn len (upd (upd rd 3 (nI (ta ||| 2 ^ (c - 48)))) 0 (nI 4))) w 10) ∨ (¬ (t_tk fi ta c = true) ∧ r = nI 0 ∧ h2 = hK h (oC pi buf cnt sn len rd) w 10)) := by
  refine ct_of (by decide +kernel) rfl rfl (Nat.le_of_ble_eq_true rfl) ?_
  show Ev mX0_acceptsTaker 0 0 [some (qR 0 3), some (qI (nI c)), none] [] 132 (hK h (oC pi buf cnt sn len rd) w 10) 0 0 _ _
  refine e_iload1 dX0_acceptsTaker_0 ?_
  refine e_bipush (v := nI 48) dX0_acceptsTaker_1 (by decide) ?_
  by_cases h48 : 48 ≤ c
  · skip
    refine e_isubN dX0_acceptsTaker_3 h48 ?_
    refine e_istore2 dX0_acceptsTaker_4 rfl (by decide) ?_
    refine e_iload2 dX0_acceptsTaker_5 ?_
    refine e_if_lt 31 dX0_acceptsTaker_6 (by decide) (fun q => absurd q (nI_pos (by omega))) (fun hc6 => ?_)
    refine e_iload2 dX0_acceptsTaker_9 ?_
    refine e_iconst (z := 4) dX0_acceptsTaker_10 ?_
    first | refine e_icmp_geN 31 dX0_acceptsTaker_11 (by decide) (by omega) (by omega) (fun hc11 => ?_) (fun hc11 => ?_) | refine e_icmp_ge 31 dX0_acceptsTaker_11 (by decide) (fun hc11 => ?_) (fun hc11 => ?_)
    · refine e_iconst (z := 0) dX0_acceptsTaker_31 ?_
      refine e_zret dX0_acceptsTaker_32 rfl (by first | rfl | exact q_nar _) ?_
      first
        | exact ⟨_, rfl, rfl, Or.inl ⟨(by unfold t_tk; exact decide_eq_true ⟨h48, by omega, by omega, hc28⟩), rfl, rfl⟩⟩
        | exact ⟨_, rfl, rfl, Or.inr ⟨(fun q => by have q2 := t_tk_of q; first | omega | exact hc28 q2.2.2.2), rfl, rfl⟩⟩
    · refine e_iload2 dX0_acceptsTaker_14 ?_
      refine e_aload0 dX0_acceptsTaker_15 ?_
      refine e_get0 flX0_46 dX0_acceptsTaker_16 rfl rfl ?_
      rw [h2r]
      first | refine e_icmp_eqN 31 dX0_acceptsTaker_19 (by decide) (by omega) (by omega) (fun hc19 => ?_) (fun hc19 => ?_) | refine e_icmp_eq 31 dX0_acceptsTaker_19 (by decide) (fun hc19 => ?_) (fun hc19 => ?_)
      · refine e_iconst (z := 0) dX0_acceptsTaker_31 ?_
        refine e_zret dX0_acceptsTaker_32 rfl (by first | rfl | exact q_nar _) ?_
        first
          | exact ⟨_, rfl, rfl, Or.inl ⟨(by unfold t_tk; exact decide_eq_true ⟨h48, by omega, by omega, hc28⟩), rfl, rfl⟩⟩
          | exact ⟨_, rfl, rfl, Or.inr ⟨(fun q => by have q2 := t_tk_of q; first | omega | exact hc28 q2.2.2.2), rfl, rfl⟩⟩
      · refine e_aload0 dX0_acceptsTaker_22 ?_
        refine e_get0 flX0_39 dX0_acceptsTaker_23 rfl rfl ?_
        refine e_iload2 dX0_acceptsTaker_26 ?_
        refine e_ishr dX0_acceptsTaker_27 ?_
        have hd4 : c - 48 < 4 := by omega
        have hdv := b_div16 ta hta (c - 48) hd4
        rw [h3r, b_shr _ hta _ hd4]
        first | refine e_if_eqN 33 dX0_acceptsTaker_28 (by decide) (by omega) (fun hc28 => ?_) (fun hc28 => ?_) | refine e_if_eq 33 dX0_acceptsTaker_28 (by decide) (fun hc28 => ?_) (fun hc28 => ?_)
        · refine e_aload0 dX0_acceptsTaker_33 ?_
          refine e_dup dX0_acceptsTaker_34 rfl ?_
          refine e_get0 flX0_39 dX0_acceptsTaker_35 rfl rfl ?_
          refine e_iconst (z := 1) dX0_acceptsTaker_38 ?_
          refine e_iload2 dX0_acceptsTaker_39 ?_
          refine e_ishl dX0_acceptsTaker_40 ?_
          rw [h3r]
          refine e_ior dX0_acceptsTaker_41 ?_
          rw [b_or _ hta _ hd4]
          refine e_put0 flX0_39 dX0_acceptsTaker_42 rfl (Nat.le_of_ble_eq_true rfl) (fun _ => rfl) (fun _ => rfl) ?_
          refine e_aload0 dX0_acceptsTaker_45 ?_
          refine e_iconst (z := 4) dX0_acceptsTaker_46 ?_
          refine e_put0 flX0_11 dX0_acceptsTaker_47 rfl (Nat.le_of_ble_eq_true rfl) (fun _ => rfl) (fun _ => rfl) ?_
          refine e_iconst (z := 1) dX0_acceptsTaker_50 ?_
          refine e_zret dX0_acceptsTaker_51 rfl (by first | rfl | exact q_nar _) ?_
          first
            | exact ⟨_, rfl, rfl, Or.inl ⟨(by unfold t_tk; exact decide_eq_true ⟨h48, by omega, by omega, hc28⟩), rfl, rfl⟩⟩
            | exact ⟨_, rfl, rfl, Or.inr ⟨(fun q => by have q2 := t_tk_of q; first | omega | exact hc28 q2.2.2.2), rfl, rfl⟩⟩
        · refine e_iconst (z := 0) dX0_acceptsTaker_31 ?_
          refine e_zret dX0_acceptsTaker_32 rfl (by first | rfl | exact q_nar _) ?_
          first
            | exact ⟨_, rfl, rfl, Or.inl ⟨(by unfold t_tk; exact decide_eq_true ⟨h48, by omega, by omega, hc28⟩), rfl, rfl⟩⟩
            | exact ⟨_, rfl, rfl, Or.inr ⟨(fun q => by have q2 := t_tk_of q; first | omega | exact hc28 q2.2.2.2), rfl, rfl⟩⟩
  · skip
    refine e_isub dX0_acceptsTaker_3 ?_
    refine e_istore2 dX0_acceptsTaker_4 rfl (by decide) ?_
    refine e_iload2 dX0_acceptsTaker_5 ?_
    refine e_if_lt 31 dX0_acceptsTaker_6 (by decide) (fun hc6 => ?_) (fun q => absurd (dg_neg c (by omega)) q)
    refine e_iconst (z := 0) dX0_acceptsTaker_31 ?_
    refine e_zret dX0_acceptsTaker_32 rfl (by first | rfl | exact q_nar _) ?_
    exact ⟨_, rfl, rfl, Or.inr ⟨(fun q => by have q2 := t_tk_of q; omega), rfl, rfl⟩⟩
set_option maxRecDepth 20000 in
set_option maxHeartbeats 4000000 in
theorem x_second (h : qB) (pi : Nat → Option qK) (buf : Nat → Int32) (cnt sn len : Int32) (rd : Nat → Int32) (w : Fin 16 → qw) {c la : Nat} (hc : c < 128) (hla : la ≤ 50) (h4r : rd 4 = nI la) : CtI mX0_acceptsSecondDigit 0 [qR 0 3, qI (nI c)] (hK h (oC pi buf cnt sn len rd) w 10) (fun r h2 => ((48 ≤ c ∧ c ≤ 57 ∧ la * 10 + (c - 48) ≤ 50) ∧ r = nI 1 ∧ h2 = hK h (oC pi buf cnt sn len (upd (upd rd 4 (nI (la * 10 + (c - 48)))) 0 (nI 8))) w 10) ∨ (¬ (48 ≤ c ∧ c ≤ 57 ∧ la * 10 + (c - 48) ≤ 50) ∧ r = nI 0 ∧ h2 = hK h (oC pi buf cnt sn len rd) w 10)) := by
  refine ct_of (by decide +kernel) rfl rfl (Nat.le_of_ble_eq_true rfl) ?_
  show Ev mX0_acceptsSecondDigit 0 0 [some (qR 0 3), some (qI (nI c)), none] [] 132 (hK h (oC pi buf cnt sn len rd) w 10) 0 0 _ _
  refine e_iload1 dX0_acceptsSecondDigit_0 ?_
  refine e_bipush (v := nI 48) dX0_acceptsSecondDigit_1 (by decide) ?_
  by_cases h48 : 48 ≤ c
  · skip
    refine e_isubN dX0_acceptsSecondDigit_3 h48 ?_
    refine e_istore2 dX0_acceptsSecondDigit_4 rfl (by decide) ?_
    refine e_iload2 dX0_acceptsSecondDigit_5 ?_
    refine e_if_lt 29 dX0_acceptsSecondDigit_6 (by decide) (fun q => absurd q (nI_pos (by omega))) (fun hc6 => ?_)
    refine e_iload2 dX0_acceptsSecondDigit_9 ?_
    refine e_bipush (v := nI 9) dX0_acceptsSecondDigit_10 (by decide) ?_
    first | refine e_icmp_gtN 29 dX0_acceptsSecondDigit_12 (by decide) (by omega) (by omega) (fun hc12 => ?_) (fun hc12 => ?_) | refine e_icmp_gt 29 dX0_acceptsSecondDigit_12 (by decide) (fun hc12 => ?_) (fun hc12 => ?_)
    · refine e_iconst (z := 0) dX0_acceptsSecondDigit_29 ?_
      refine e_zret dX0_acceptsSecondDigit_30 rfl (by first | rfl | exact q_nar _) ?_
      first
        | exact ⟨_, rfl, rfl, Or.inl ⟨by omega, rfl, rfl⟩⟩
        | exact ⟨_, rfl, rfl, Or.inr ⟨by omega, rfl, rfl⟩⟩
    · refine e_aload0 dX0_acceptsSecondDigit_15 ?_
      refine e_get0 flX0_49 dX0_acceptsSecondDigit_16 rfl rfl ?_
      rw [h4r]
      refine e_bipush (v := nI 10) dX0_acceptsSecondDigit_19 (by decide) ?_
      first | refine e_imulN dX0_acceptsSecondDigit_21 ?_ | refine e_imul dX0_acceptsSecondDigit_21 ?_
      refine e_iload2 dX0_acceptsSecondDigit_22 ?_
      first | refine e_iaddN dX0_acceptsSecondDigit_23 ?_ | refine e_iadd dX0_acceptsSecondDigit_23 ?_
      refine e_bipush (v := nI 50) dX0_acceptsSecondDigit_24 (by decide) ?_
      first | refine e_icmp_leN 31 dX0_acceptsSecondDigit_26 (by decide) (by omega) (by omega) (fun hc26 => ?_) (fun hc26 => ?_) | refine e_icmp_le 31 dX0_acceptsSecondDigit_26 (by decide) (fun hc26 => ?_) (fun hc26 => ?_)
      · refine e_aload0 dX0_acceptsSecondDigit_31 ?_
        refine e_aload0 dX0_acceptsSecondDigit_32 ?_
        refine e_get0 flX0_49 dX0_acceptsSecondDigit_33 rfl rfl ?_
        rw [h4r]
        refine e_bipush (v := nI 10) dX0_acceptsSecondDigit_36 (by decide) ?_
        first | refine e_imulN dX0_acceptsSecondDigit_38 ?_ | refine e_imul dX0_acceptsSecondDigit_38 ?_
        refine e_iload2 dX0_acceptsSecondDigit_39 ?_
        first | refine e_iaddN dX0_acceptsSecondDigit_40 ?_ | refine e_iadd dX0_acceptsSecondDigit_40 ?_
        refine e_put0 flX0_49 dX0_acceptsSecondDigit_41 rfl (Nat.le_of_ble_eq_true rfl) (fun _ => rfl) (fun _ => rfl) ?_
        refine e_aload0 dX0_acceptsSecondDigit_44 ?_
        refine e_bipush (v := nI 8) dX0_acceptsSecondDigit_45 (by decide) ?_
        refine e_put0 flX0_11 dX0_acceptsSecondDigit_47 rfl (Nat.le_of_ble_eq_true rfl) (fun _ => rfl) (fun _ => rfl) ?_
        refine e_iconst (z := 1) dX0_acceptsSecondDigit_50 ?_
        refine e_zret dX0_acceptsSecondDigit_51 rfl (by first | rfl | exact q_nar _) ?_
        first
          | exact ⟨_, rfl, rfl, Or.inl ⟨by omega, rfl, rfl⟩⟩
          | exact ⟨_, rfl, rfl, Or.inr ⟨by omega, rfl, rfl⟩⟩
      · refine e_iconst (z := 0) dX0_acceptsSecondDigit_29 ?_
        refine e_zret dX0_acceptsSecondDigit_30 rfl (by first | rfl | exact q_nar _) ?_
        first
          | exact ⟨_, rfl, rfl, Or.inl ⟨by omega, rfl, rfl⟩⟩
          | exact ⟨_, rfl, rfl, Or.inr ⟨by omega, rfl, rfl⟩⟩
  · skip
    refine e_isub dX0_acceptsSecondDigit_3 ?_
    refine e_istore2 dX0_acceptsSecondDigit_4 rfl (by decide) ?_
    refine e_iload2 dX0_acceptsSecondDigit_5 ?_
    refine e_if_lt 29 dX0_acceptsSecondDigit_6 (by decide) (fun hc6 => ?_) (fun q => absurd (dg_neg c (by omega)) q)
    refine e_iconst (z := 0) dX0_acceptsSecondDigit_29 ?_
    refine e_zret dX0_acceptsSecondDigit_30 rfl (by first | rfl | exact q_nar _) ?_
    exact ⟨_, rfl, rfl, Or.inr ⟨by omega, rfl, rfl⟩⟩
