set_option maxRecDepth 20000 in
set_option maxHeartbeats 4000000 in
theorem x_greatest (h : qB) (pi : Nat → Option qK) (buf : Nat → Int32) (cnt sn len : Int32) (rd : Nat → Int32) (w : Fin 16 → qw) {le : Nat} (hl : t_let le = true) (h1r : rd 1 = nI le) : CtI mX0_greatestFirst 0 [qR 0 3] (hK h (oC pi buf cnt sn len rd) w 10) (fun r h2 => r = nI (t_hi le) ∧ h2 = hK h (oC pi buf cnt sn len rd) w 10) := by
  refine ct_of (by decide +kernel) rfl rfl (Nat.le_of_ble_eq_true rfl) ?_
  show Ev mX0_greatestFirst 0 0 [some (qR 0 3)] [] 132 (hK h (oC pi buf cnt sn len rd) w 10) 0 0 _ _
  refine e_aload0 dX0_greatestFirst_0 ?_
  refine e_get0 flX0_36 dX0_greatestFirst_1 rfl rfl ?_
  rw [h1r]
  rcases t_let_of hl with hc | hc | hc | hc | hc | hc | hc
  · subst hc
    refine e_lookup (off := 52) 56 dX0_greatestFirst_4 (by decide) (by decide +kernel) (by decide) ?_
    refine e_iconst (z := 3) dX0_greatestFirst_56 ?_
    refine e_iret dX0_greatestFirst_57 rfl ?_
    exact ⟨_, rfl, rfl, rfl, rfl⟩
  · subst hc
    refine e_lookup (off := 59) 63 dX0_greatestFirst_4 (by decide) (by decide +kernel) (by decide) ?_
    refine e_bipush (v := nI 9) dX0_greatestFirst_63 (by decide) ?_
    refine e_iret dX0_greatestFirst_65 rfl ?_
    exact ⟨_, rfl, rfl, rfl, rfl⟩
  · subst hc
    refine e_lookup (off := 59) 63 dX0_greatestFirst_4 (by decide) (by decide +kernel) (by decide) ?_
    refine e_bipush (v := nI 9) dX0_greatestFirst_63 (by decide) ?_
    refine e_iret dX0_greatestFirst_65 rfl ?_
    exact ⟨_, rfl, rfl, rfl, rfl⟩
  · subst hc
    refine e_lookup (off := 54) 58 dX0_greatestFirst_4 (by decide) (by decide +kernel) (by decide) ?_
    refine e_iconst (z := 4) dX0_greatestFirst_58 ?_
    refine e_iret dX0_greatestFirst_59 rfl ?_
    exact ⟨_, rfl, rfl, rfl, rfl⟩
  · subst hc
    refine e_lookup (off := 54) 58 dX0_greatestFirst_4 (by decide) (by decide +kernel) (by decide) ?_
    refine e_iconst (z := 4) dX0_greatestFirst_58 ?_
    refine e_iret dX0_greatestFirst_59 rfl ?_
    exact ⟨_, rfl, rfl, rfl, rfl⟩
  · subst hc
    refine e_lookup (off := 56) 60 dX0_greatestFirst_4 (by decide) (by decide +kernel) (by decide) ?_
    refine e_bipush (v := nI 7) dX0_greatestFirst_60 (by decide) ?_
    refine e_iret dX0_greatestFirst_62 rfl ?_
    exact ⟨_, rfl, rfl, rfl, rfl⟩
  · subst hc
    refine e_lookup (off := 52) 56 dX0_greatestFirst_4 (by decide) (by decide +kernel) (by decide) ?_
    refine e_iconst (z := 3) dX0_greatestFirst_56 ?_
    refine e_iret dX0_greatestFirst_57 rfl ?_
    exact ⟨_, rfl, rfl, rfl, rfl⟩
set_option maxRecDepth 20000 in
set_option maxHeartbeats 4000000 in
theorem x_letter (h : qB) (pi : Nat → Option qK) (buf : Nat → Int32) (cnt sn len : Int32) (rd : Nat → Int32) (w : Fin 16 → qw) {c : Nat} (hc : c < 128) : CtI mX0_acceptsLetter 0 [qR 0 3, qI (nI c)] (hK h (oC pi buf cnt sn len rd) w 10) (fun r h2 => ((t_let c = true) ∧ r = nI 1 ∧ h2 = hK h (oC pi buf cnt sn len (upd (upd (upd rd 1 (nI c)) 3 (nI 0)) 0 (nI 1))) w 10) ∨ (¬ (t_let c = true) ∧ r = nI 0 ∧ h2 = hK h (oC pi buf cnt sn len rd) w 10)) := by
  refine ct_of (by decide +kernel) rfl rfl (Nat.le_of_ble_eq_true rfl) ?_
  show Ev mX0_acceptsLetter 0 0 [some (qR 0 3), some (qI (nI c))] [] 132 (hK h (oC pi buf cnt sn len rd) w 10) 0 0 _ _
  refine e_iload1 dX0_acceptsLetter_0 ?_
  by_cases hl : t_let c = true
  · rcases t_let_of hl with hx | hx | hx | hx | hx | hx | hx
    · subst hx
      refine e_tableIn 84 (off := 83) dX0_acceptsLetter_1 (by decide) (by decide) (by decide +kernel) (by decide) ?_
      refine e_aload0 dX0_acceptsLetter_84 ?_
      refine e_iload1 dX0_acceptsLetter_85 ?_
      refine e_put0 flX0_36 dX0_acceptsLetter_86 rfl (Nat.le_of_ble_eq_true rfl) (fun _ => rfl) (fun _ => rfl) ?_
      refine e_aload0 dX0_acceptsLetter_89 ?_
      refine e_iconst (z := 0) dX0_acceptsLetter_90 ?_
      refine e_put0 flX0_39 dX0_acceptsLetter_91 rfl (Nat.le_of_ble_eq_true rfl) (fun _ => rfl) (fun _ => rfl) ?_
      refine e_aload0 dX0_acceptsLetter_94 ?_
      refine e_iconst (z := 1) dX0_acceptsLetter_95 ?_
      refine e_put0 flX0_11 dX0_acceptsLetter_96 rfl (Nat.le_of_ble_eq_true rfl) (fun _ => rfl) (fun _ => rfl) ?_
      refine e_iconst (z := 1) dX0_acceptsLetter_99 ?_
      refine e_zret dX0_acceptsLetter_100 rfl (by first | rfl | exact q_nar _) ?_
      exact ⟨_, rfl, rfl, Or.inl ⟨rfl, rfl, rfl⟩⟩
    · subst hx
      refine e_tableIn 84 (off := 83) dX0_acceptsLetter_1 (by decide) (by decide) (by decide +kernel) (by decide) ?_
      refine e_aload0 dX0_acceptsLetter_84 ?_
      refine e_iload1 dX0_acceptsLetter_85 ?_
      refine e_put0 flX0_36 dX0_acceptsLetter_86 rfl (Nat.le_of_ble_eq_true rfl) (fun _ => rfl) (fun _ => rfl) ?_
      refine e_aload0 dX0_acceptsLetter_89 ?_
      refine e_iconst (z := 0) dX0_acceptsLetter_90 ?_
      refine e_put0 flX0_39 dX0_acceptsLetter_91 rfl (Nat.le_of_ble_eq_true rfl) (fun _ => rfl) (fun _ => rfl) ?_
      refine e_aload0 dX0_acceptsLetter_94 ?_
      refine e_iconst (z := 1) dX0_acceptsLetter_95 ?_
      refine e_put0 flX0_11 dX0_acceptsLetter_96 rfl (Nat.le_of_ble_eq_true rfl) (fun _ => rfl) (fun _ => rfl) ?_
      refine e_iconst (z := 1) dX0_acceptsLetter_99 ?_
      refine e_zret dX0_acceptsLetter_100 rfl (by first | rfl | exact q_nar _) ?_
      exact ⟨_, rfl, rfl, Or.inl ⟨rfl, rfl, rfl⟩⟩
    · subst hx
      refine e_tableIn 84 (off := 83) dX0_acceptsLetter_1 (by decide) (by decide) (by decide +kernel) (by decide) ?_
      refine e_aload0 dX0_acceptsLetter_84 ?_
      refine e_iload1 dX0_acceptsLetter_85 ?_
      refine e_put0 flX0_36 dX0_acceptsLetter_86 rfl (Nat.le_of_ble_eq_true rfl) (fun _ => rfl) (fun _ => rfl) ?_
      refine e_aload0 dX0_acceptsLetter_89 ?_
      refine e_iconst (z := 0) dX0_acceptsLetter_90 ?_
      refine e_put0 flX0_39 dX0_acceptsLetter_91 rfl (Nat.le_of_ble_eq_true rfl) (fun _ => rfl) (fun _ => rfl) ?_
      refine e_aload0 dX0_acceptsLetter_94 ?_
      refine e_iconst (z := 1) dX0_acceptsLetter_95 ?_
      refine e_put0 flX0_11 dX0_acceptsLetter_96 rfl (Nat.le_of_ble_eq_true rfl) (fun _ => rfl) (fun _ => rfl) ?_
      refine e_iconst (z := 1) dX0_acceptsLetter_99 ?_
      refine e_zret dX0_acceptsLetter_100 rfl (by first | rfl | exact q_nar _) ?_
      exact ⟨_, rfl, rfl, Or.inl ⟨rfl, rfl, rfl⟩⟩
    · subst hx
      refine e_tableIn 84 (off := 83) dX0_acceptsLetter_1 (by decide) (by decide) (by decide +kernel) (by decide) ?_
      refine e_aload0 dX0_acceptsLetter_84 ?_
      refine e_iload1 dX0_acceptsLetter_85 ?_
      refine e_put0 flX0_36 dX0_acceptsLetter_86 rfl (Nat.le_of_ble_eq_true rfl) (fun _ => rfl) (fun _ => rfl) ?_
      refine e_aload0 dX0_acceptsLetter_89 ?_
      refine e_iconst (z := 0) dX0_acceptsLetter_90 ?_
      refine e_put0 flX0_39 dX0_acceptsLetter_91 rfl (Nat.le_of_ble_eq_true rfl) (fun _ => rfl) (fun _ => rfl) ?_
      refine e_aload0 dX0_acceptsLetter_94 ?_
      refine e_iconst (z := 1) dX0_acceptsLetter_95 ?_
      refine e_put0 flX0_11 dX0_acceptsLetter_96 rfl (Nat.le_of_ble_eq_true rfl) (fun _ => rfl) (fun _ => rfl) ?_
      refine e_iconst (z := 1) dX0_acceptsLetter_99 ?_
      refine e_zret dX0_acceptsLetter_100 rfl (by first | rfl | exact q_nar _) ?_
      exact ⟨_, rfl, rfl, Or.inl ⟨rfl, rfl, rfl⟩⟩
    · subst hx
      refine e_tableIn 84 (off := 83) dX0_acceptsLetter_1 (by decide) (by decide) (by decide +kernel) (by decide) ?_
      refine e_aload0 dX0_acceptsLetter_84 ?_
      refine e_iload1 dX0_acceptsLetter_85 ?_
      refine e_put0 flX0_36 dX0_acceptsLetter_86 rfl (Nat.le_of_ble_eq_true rfl) (fun _ => rfl) (fun _ => rfl) ?_
      refine e_aload0 dX0_acceptsLetter_89 ?_
      refine e_iconst (z := 0) dX0_acceptsLetter_90 ?_
      refine e_put0 flX0_39 dX0_acceptsLetter_91 rfl (Nat.le_of_ble_eq_true rfl) (fun _ => rfl) (fun _ => rfl) ?_
      refine e_aload0 dX0_acceptsLetter_94 ?_
      refine e_iconst (z := 1) dX0_acceptsLetter_95 ?_
      refine e_put0 flX0_11 dX0_acceptsLetter_96 rfl (Nat.le_of_ble_eq_true rfl) (fun _ => rfl) (fun _ => rfl) ?_
      refine e_iconst (z := 1) dX0_acceptsLetter_99 ?_
      refine e_zret dX0_acceptsLetter_100 rfl (by first | rfl | exact q_nar _) ?_
      exact ⟨_, rfl, rfl, Or.inl ⟨rfl, rfl, rfl⟩⟩
    · subst hx
      refine e_tableIn 84 (off := 83) dX0_acceptsLetter_1 (by decide) (by decide) (by decide +kernel) (by decide) ?_
      refine e_aload0 dX0_acceptsLetter_84 ?_
      refine e_iload1 dX0_acceptsLetter_85 ?_
      refine e_put0 flX0_36 dX0_acceptsLetter_86 rfl (Nat.le_of_ble_eq_true rfl) (fun _ => rfl) (fun _ => rfl) ?_
      refine e_aload0 dX0_acceptsLetter_89 ?_
      refine e_iconst (z := 0) dX0_acceptsLetter_90 ?_
      refine e_put0 flX0_39 dX0_acceptsLetter_91 rfl (Nat.le_of_ble_eq_true rfl) (fun _ => rfl) (fun _ => rfl) ?_
      refine e_aload0 dX0_acceptsLetter_94 ?_
      refine e_iconst (z := 1) dX0_acceptsLetter_95 ?_
      refine e_put0 flX0_11 dX0_acceptsLetter_96 rfl (Nat.le_of_ble_eq_true rfl) (fun _ => rfl) (fun _ => rfl) ?_
      refine e_iconst (z := 1) dX0_acceptsLetter_99 ?_
      refine e_zret dX0_acceptsLetter_100 rfl (by first | rfl | exact q_nar _) ?_
      exact ⟨_, rfl, rfl, Or.inl ⟨rfl, rfl, rfl⟩⟩
    · subst hx
      refine e_tableIn 84 (off := 83) dX0_acceptsLetter_1 (by decide) (by decide) (by decide +kernel) (by decide) ?_
      refine e_aload0 dX0_acceptsLetter_84 ?_
      refine e_iload1 dX0_acceptsLetter_85 ?_
      refine e_put0 flX0_36 dX0_acceptsLetter_86 rfl (Nat.le_of_ble_eq_true rfl) (fun _ => rfl) (fun _ => rfl) ?_
      refine e_aload0 dX0_acceptsLetter_89 ?_
      refine e_iconst (z := 0) dX0_acceptsLetter_90 ?_
      refine e_put0 flX0_39 dX0_acceptsLetter_91 rfl (Nat.le_of_ble_eq_true rfl) (fun _ => rfl) (fun _ => rfl) ?_
      refine e_aload0 dX0_acceptsLetter_94 ?_
      refine e_iconst (z := 1) dX0_acceptsLetter_95 ?_
      refine e_put0 flX0_11 dX0_acceptsLetter_96 rfl (Nat.le_of_ble_eq_true rfl) (fun _ => rfl) (fun _ => rfl) ?_
      refine e_iconst (z := 1) dX0_acceptsLetter_99 ?_
      refine e_zret dX0_acceptsLetter_100 rfl (by first | rfl | exact q_nar _) ?_
      exact ⟨_, rfl, rfl, Or.inl ⟨rfl, rfl, rfl⟩⟩
  · have hz : ¬ (c = 98 ∨ c = 100 ∨ c = 108 ∨ c = 99 ∨ c = 114 ∨ c = 103 ∨ c = 113) := fun q => hl (decide_eq_true q)
    by_cases hr : c < 98 ∨ 114 < c
    · refine e_tableOut 101 dX0_acceptsLetter_1 (by rw [nI_toInt (by omega)]; omega) (by decide) ?_
      refine e_iconst (z := 0) dX0_acceptsLetter_101 ?_
      refine e_zret dX0_acceptsLetter_102 rfl (by first | rfl | exact q_nar _) ?_
      exact ⟨_, rfl, rfl, Or.inr ⟨hl, rfl, rfl⟩⟩
    · rcases (show c = 101 ∨ c = 102 ∨ c = 104 ∨ c = 105 ∨ c = 106 ∨ c = 107 ∨ c = 109 ∨ c = 110 ∨ c = 111 ∨ c = 112 by omega) with hx | hx | hx | hx | hx | hx | hx | hx | hx | hx
      · subst hx
        refine e_tableIn 101 (off := 100) dX0_acceptsLetter_1 (by decide) (by decide) (by decide +kernel) (by decide) ?_
        refine e_iconst (z := 0) dX0_acceptsLetter_101 ?_
        refine e_zret dX0_acceptsLetter_102 rfl (by first | rfl | exact q_nar _) ?_
        exact ⟨_, rfl, rfl, Or.inr ⟨hl, rfl, rfl⟩⟩
      · subst hx
        refine e_tableIn 101 (off := 100) dX0_acceptsLetter_1 (by decide) (by decide) (by decide +kernel) (by decide) ?_
        refine e_iconst (z := 0) dX0_acceptsLetter_101 ?_
        refine e_zret dX0_acceptsLetter_102 rfl (by first | rfl | exact q_nar _) ?_
        exact ⟨_, rfl, rfl, Or.inr ⟨hl, rfl, rfl⟩⟩
      · subst hx
        refine e_tableIn 101 (off := 100) dX0_acceptsLetter_1 (by decide) (by decide) (by decide +kernel) (by decide) ?_
        refine e_iconst (z := 0) dX0_acceptsLetter_101 ?_
        refine e_zret dX0_acceptsLetter_102 rfl (by first | rfl | exact q_nar _) ?_
        exact ⟨_, rfl, rfl, Or.inr ⟨hl, rfl, rfl⟩⟩
      · subst hx
        refine e_tableIn 101 (off := 100) dX0_acceptsLetter_1 (by decide) (by decide) (by decide +kernel) (by decide) ?_
        refine e_iconst (z := 0) dX0_acceptsLetter_101 ?_
        refine e_zret dX0_acceptsLetter_102 rfl (by first | rfl | exact q_nar _) ?_
        exact ⟨_, rfl, rfl, Or.inr ⟨hl, rfl, rfl⟩⟩
      · subst hx
        refine e_tableIn 101 (off := 100) dX0_acceptsLetter_1 (by decide) (by decide) (by decide +kernel) (by decide) ?_
        refine e_iconst (z := 0) dX0_acceptsLetter_101 ?_
        refine e_zret dX0_acceptsLetter_102 rfl (by first | rfl | exact q_nar _) ?_
        exact ⟨_, rfl, rfl, Or.inr ⟨hl, rfl, rfl⟩⟩
      · subst hx
        refine e_tableIn 101 (off := 100) dX0_acceptsLetter_1 (by decide) (by decide) (by decide +kernel) (by decide) ?_
        refine e_iconst (z := 0) dX0_acceptsLetter_101 ?_
        refine e_zret dX0_acceptsLetter_102 rfl (by first | rfl | exact q_nar _) ?_
        exact ⟨_, rfl, rfl, Or.inr ⟨hl, rfl, rfl⟩⟩
      · subst hx
        refine e_tableIn 101 (off := 100) dX0_acceptsLetter_1 (by decide) (by decide) (by decide +kernel) (by decide) ?_
        refine e_iconst (z := 0) dX0_acceptsLetter_101 ?_
        refine e_zret dX0_acceptsLetter_102 rfl (by first | rfl | exact q_nar _) ?_
        exact ⟨_, rfl, rfl, Or.inr ⟨hl, rfl, rfl⟩⟩
      · subst hx
        refine e_tableIn 101 (off := 100) dX0_acceptsLetter_1 (by decide) (by decide) (by decide +kernel) (by decide) ?_
        refine e_iconst (z := 0) dX0_acceptsLetter_101 ?_
        refine e_zret dX0_acceptsLetter_102 rfl (by first | rfl | exact q_nar _) ?_
        exact ⟨_, rfl, rfl, Or.inr ⟨hl, rfl, rfl⟩⟩
      · subst hx
        refine e_tableIn 101 (off := 100) dX0_acceptsLetter_1 (by decide) (by decide) (by decide +kernel) (by decide) ?_
        refine e_iconst (z := 0) dX0_acceptsLetter_101 ?_
        refine e_zret dX0_acceptsLetter_102 rfl (by first | rfl | exact q_nar _) ?_
        exact ⟨_, rfl, rfl, Or.inr ⟨hl, rfl, rfl⟩⟩
      · subst hx
        refine e_tableIn 101 (off := 100) dX0_acceptsLetter_1 (by decide) (by decide) (by decide +kernel) (by decide) ?_
        refine e_iconst (z := 0) dX0_acceptsLetter_101 ?_
        refine e_zret dX0_acceptsLetter_102 rfl (by first | rfl | exact q_nar _) ?_
        exact ⟨_, rfl, rfl, Or.inr ⟨hl, rfl, rfl⟩⟩
set_option maxRecDepth 20000 in
set_option maxHeartbeats 4000000 in
theorem x_first (h : qB) (pi : Nat → Option qK) (buf : Nat → Int32) (cnt sn len : Int32) (rd : Nat → Int32) (w : Fin 16 → qw) {c le : Nat} (hc : c < 128) (hl : t_let le = true) (h1r : rd 1 = nI le) : CtI mX0_acceptsFirst 1 [qR 0 3, qI (nI c)] (hK h (oC pi buf cnt sn len rd) w 10) (fun r h2 => ((48 + t_lo le ≤ c ∧ c ≤ 48 + t_hi le) ∧ r = nI 1 ∧ h2 = hK h (oC pi buf cnt sn len (upd (upd rd 2 (nI (c - 48))) 0 (nI (if le = 98 then 2 else if le = 113 then 7 else 8)))) w 10) ∨ (¬ (48 + t_lo le ≤ c ∧ c ≤ 48 + t_hi le) ∧ r = nI 0 ∧ h2 = hK h (oC pi buf cnt sn len rd) w 10)) := by
  have hle : le < 128 := by have := t_let_of hl; omega
  have hhi : t_hi le ≤ 9 := by unfold t_hi; repeat (first | omega | split)
  refine ct_of (by decide +kernel) rfl rfl (Nat.le_of_ble_eq_true rfl) ?_
  show Ev mX0_acceptsFirst 1 0 [some (qR 0 3), some (qI (nI c)), none] [] 132 (hK h (oC pi buf cnt sn len rd) w 10) 0 0 _ _
  refine e_iload1 dX0_acceptsFirst_0 ?_
  refine e_bipush (v := nI 48) dX0_acceptsFirst_1 (by decide) ?_
  by_cases h48 : 48 ≤ c
  · skip
    refine e_isubN dX0_acceptsFirst_3 h48 ?_
    refine e_istore2 dX0_acceptsFirst_4 rfl (by decide) ?_
    refine e_iload2 dX0_acceptsFirst_5 ?_
    refine e_aload0 dX0_acceptsFirst_6 ?_
    refine e_get0 flX0_36 dX0_acceptsFirst_7 rfl rfl ?_
    refine e_top (w := qI (nI le)) (by rw [← h1r]) ?_
    refine e_bipush (v := nI 100) dX0_acceptsFirst_10 (by decide) ?_
    first | refine e_icmp_neN 19 dX0_acceptsFirst_12 (by decide) (by omega) (by omega) (fun hc12 => ?_) (fun hc12 => ?_) | refine e_icmp_ne 19 dX0_acceptsFirst_12 (by decide) (fun hc12 => ?_) (fun hc12 => ?_)
    · refine e_iconst (z := 0) dX0_acceptsFirst_19 ?_
      first | refine e_icmp_ltN 31 dX0_acceptsFirst_20 (by decide) (by omega) (by omega) (fun hc20 => ?_) (fun hc20 => ?_) | refine e_icmp_lt 31 dX0_acceptsFirst_20 (by decide) (fun hc20 => ?_) (fun hc20 => ?_)
      · refine e_iconst (z := 0) dX0_acceptsFirst_31 ?_
        refine e_zret dX0_acceptsFirst_32 rfl (by first | rfl | exact q_nar _) ?_
        first
          | exact ⟨_, rfl, rfl, Or.inl ⟨⟨by unfold t_lo; first | (rw [if_pos hc12]; omega) | (rw [if_neg hc12]; omega), by omega⟩, rfl, by first | (rw [if_pos hc44]; rfl) | (rw [if_neg hc44, if_pos hc62]; rfl) | (rw [if_neg hc44, if_neg hc62]; rfl)⟩⟩
          | exact ⟨_, rfl, rfl, Or.inr ⟨(by unfold t_lo; first | (rw [if_pos hc12]; omega) | (rw [if_neg hc12]; omega)), rfl, rfl⟩⟩
      · refine e_iload2 dX0_acceptsFirst_23 ?_
        refine e_aload0 dX0_acceptsFirst_24 ?_
        refine e_vI (M' := mX0_greatestFirst) fX0_greatestFirst lkX0_42 (x_greatest h pi buf cnt sn len rd w hl h1r) rfl rfl dX0_acceptsFirst_25 (by rw [hK_0]; rfl) rfl (by decide) (Nat.le_of_ble_eq_true rfl) rfl ?_
        rintro _ _ ⟨rfl, rfl⟩
        first | refine e_icmp_leN 33 dX0_acceptsFirst_28 (by decide) (by omega) (by omega) (fun hc28 => ?_) (fun hc28 => ?_) | refine e_icmp_le 33 dX0_acceptsFirst_28 (by decide) (fun hc28 => ?_) (fun hc28 => ?_)
        · refine e_aload0 dX0_acceptsFirst_33 ?_
          refine e_iload2 dX0_acceptsFirst_34 ?_
          refine e_put0 flX0_46 dX0_acceptsFirst_35 rfl (Nat.le_of_ble_eq_true rfl) (fun _ => rfl) (fun _ => rfl) ?_
          refine e_aload0 dX0_acceptsFirst_38 ?_
          refine e_get0 flX0_36 dX0_acceptsFirst_39 rfl rfl ?_
          refine e_top (w := qI (nI le)) (by rw [← h1r]) ?_
          refine e_bipush (v := nI 98) dX0_acceptsFirst_42 (by decide) ?_
          first | refine e_icmp_neN 55 dX0_acceptsFirst_44 (by decide) (by omega) (by omega) (fun hc44 => ?_) (fun hc44 => ?_) | refine e_icmp_ne 55 dX0_acceptsFirst_44 (by decide) (fun hc44 => ?_) (fun hc44 => ?_)
          · refine e_aload0 dX0_acceptsFirst_55 ?_
            refine e_aload0 dX0_acceptsFirst_56 ?_
            refine e_get0 flX0_36 dX0_acceptsFirst_57 rfl rfl ?_
            refine e_top (w := qI (nI le)) (by rw [← h1r]) ?_
            refine e_bipush (v := nI 113) dX0_acceptsFirst_60 (by decide) ?_
            first | refine e_icmp_neN 70 dX0_acceptsFirst_62 (by decide) (by omega) (by omega) (fun hc62 => ?_) (fun hc62 => ?_) | refine e_icmp_ne 70 dX0_acceptsFirst_62 (by decide) (fun hc62 => ?_) (fun hc62 => ?_)
            · refine e_bipush (v := nI 8) dX0_acceptsFirst_70 (by decide) ?_
              refine e_put0 flX0_11 dX0_acceptsFirst_72 rfl (Nat.le_of_ble_eq_true rfl) (fun _ => rfl) (fun _ => rfl) ?_
              refine e_iconst (z := 1) dX0_acceptsFirst_75 ?_
              refine e_zret dX0_acceptsFirst_76 rfl (by first | rfl | exact q_nar _) ?_
              first
                | exact ⟨_, rfl, rfl, Or.inl ⟨⟨by unfold t_lo; first | (rw [if_pos hc12]; omega) | (rw [if_neg hc12]; omega), by omega⟩, rfl, by first | (rw [if_pos hc44]; rfl) | (rw [if_neg hc44, if_pos hc62]; rfl) | (rw [if_neg hc44, if_neg hc62]; rfl)⟩⟩
                | exact ⟨_, rfl, rfl, Or.inr ⟨(by unfold t_lo; first | (rw [if_pos hc12]; omega) | (rw [if_neg hc12]; omega)), rfl, rfl⟩⟩
            · refine e_bipush (v := nI 7) dX0_acceptsFirst_65 (by decide) ?_
              refine e_goto 72 dX0_acceptsFirst_67 (by decide) ?_
              refine e_put0 flX0_11 dX0_acceptsFirst_72 rfl (Nat.le_of_ble_eq_true rfl) (fun _ => rfl) (fun _ => rfl) ?_
              refine e_iconst (z := 1) dX0_acceptsFirst_75 ?_
              refine e_zret dX0_acceptsFirst_76 rfl (by first | rfl | exact q_nar _) ?_
              first
                | exact ⟨_, rfl, rfl, Or.inl ⟨⟨by unfold t_lo; first | (rw [if_pos hc12]; omega) | (rw [if_neg hc12]; omega), by omega⟩, rfl, by first | (rw [if_pos hc44]; rfl) | (rw [if_neg hc44, if_pos hc62]; rfl) | (rw [if_neg hc44, if_neg hc62]; rfl)⟩⟩
                | exact ⟨_, rfl, rfl, Or.inr ⟨(by unfold t_lo; first | (rw [if_pos hc12]; omega) | (rw [if_neg hc12]; omega)), rfl, rfl⟩⟩
          · refine e_aload0 dX0_acceptsFirst_47 ?_
            refine e_iconst (z := 2) dX0_acceptsFirst_48 ?_
            refine e_put0 flX0_11 dX0_acceptsFirst_49 rfl (Nat.le_of_ble_eq_true rfl) (fun _ => rfl) (fun _ => rfl) ?_
            refine e_goto 75 dX0_acceptsFirst_52 (by decide) ?_
            refine e_iconst (z := 1) dX0_acceptsFirst_75 ?_
            refine e_zret dX0_acceptsFirst_76 rfl (by first | rfl | exact q_nar _) ?_
            first
              | exact ⟨_, rfl, rfl, Or.inl ⟨⟨by unfold t_lo; first | (rw [if_pos hc12]; omega) | (rw [if_neg hc12]; omega), by omega⟩, rfl, by first | (rw [if_pos hc44]; rfl) | (rw [if_neg hc44, if_pos hc62]; rfl) | (rw [if_neg hc44, if_neg hc62]; rfl)⟩⟩
              | exact ⟨_, rfl, rfl, Or.inr ⟨(by unfold t_lo; first | (rw [if_pos hc12]; omega) | (rw [if_neg hc12]; omega)), rfl, rfl⟩⟩
        · refine e_iconst (z := 0) dX0_acceptsFirst_31 ?_
          refine e_zret dX0_acceptsFirst_32 rfl (by first | rfl | exact q_nar _) ?_
          first
            | exact ⟨_, rfl, rfl, Or.inl ⟨⟨by unfold t_lo; first | (rw [if_pos hc12]; omega) | (rw [if_neg hc12]; omega), by omega⟩, rfl, by first | (rw [if_pos hc44]; rfl) | (rw [if_neg hc44, if_pos hc62]; rfl) | (rw [if_neg hc44, if_neg hc62]; rfl)⟩⟩
            | exact ⟨_, rfl, rfl, Or.inr ⟨(by unfold t_lo; first | (rw [if_pos hc12]; omega) | (rw [if_neg hc12]; omega)), rfl, rfl⟩⟩
    · refine e_iconst (z := 1) dX0_acceptsFirst_15 ?_
      refine e_goto 20 dX0_acceptsFirst_16 (by decide) ?_
      first | refine e_icmp_ltN 31 dX0_acceptsFirst_20 (by decide) (by omega) (by omega) (fun hc20 => ?_) (fun hc20 => ?_) | refine e_icmp_lt 31 dX0_acceptsFirst_20 (by decide) (fun hc20 => ?_) (fun hc20 => ?_)
      · refine e_iconst (z := 0) dX0_acceptsFirst_31 ?_
        refine e_zret dX0_acceptsFirst_32 rfl (by first | rfl | exact q_nar _) ?_
        first
          | exact ⟨_, rfl, rfl, Or.inl ⟨⟨by unfold t_lo; first | (rw [if_pos hc12]; omega) | (rw [if_neg hc12]; omega), by omega⟩, rfl, by first | (rw [if_pos hc44]; rfl) | (rw [if_neg hc44, if_pos hc62]; rfl) | (rw [if_neg hc44, if_neg hc62]; rfl)⟩⟩
          | exact ⟨_, rfl, rfl, Or.inr ⟨(by unfold t_lo; first | (rw [if_pos hc12]; omega) | (rw [if_neg hc12]; omega)), rfl, rfl⟩⟩
      · refine e_iload2 dX0_acceptsFirst_23 ?_
        refine e_aload0 dX0_acceptsFirst_24 ?_
        refine e_vI (M' := mX0_greatestFirst) fX0_greatestFirst lkX0_42 (x_greatest h pi buf cnt sn len rd w hl h1r) rfl rfl dX0_acceptsFirst_25 (by rw [hK_0]; rfl) rfl (by decide) (Nat.le_of_ble_eq_true rfl) rfl ?_
        rintro _ _ ⟨rfl, rfl⟩
        first | refine e_icmp_leN 33 dX0_acceptsFirst_28 (by decide) (by omega) (by omega) (fun hc28 => ?_) (fun hc28 => ?_) | refine e_icmp_le 33 dX0_acceptsFirst_28 (by decide) (fun hc28 => ?_) (fun hc28 => ?_)
        · refine e_aload0 dX0_acceptsFirst_33 ?_
          refine e_iload2 dX0_acceptsFirst_34 ?_
          refine e_put0 flX0_46 dX0_acceptsFirst_35 rfl (Nat.le_of_ble_eq_true rfl) (fun _ => rfl) (fun _ => rfl) ?_
          refine e_aload0 dX0_acceptsFirst_38 ?_
          refine e_get0 flX0_36 dX0_acceptsFirst_39 rfl rfl ?_
          refine e_top (w := qI (nI le)) (by rw [← h1r]) ?_
          refine e_bipush (v := nI 98) dX0_acceptsFirst_42 (by decide) ?_
          first | refine e_icmp_neN 55 dX0_acceptsFirst_44 (by decide) (by omega) (by omega) (fun hc44 => ?_) (fun hc44 => ?_) | refine e_icmp_ne 55 dX0_acceptsFirst_44 (by decide) (fun hc44 => ?_) (fun hc44 => ?_)
          · refine e_aload0 dX0_acceptsFirst_55 ?_
            refine e_aload0 dX0_acceptsFirst_56 ?_
            refine e_get0 flX0_36 dX0_acceptsFirst_57 rfl rfl ?_
            refine e_top (w := qI (nI le)) (by rw [← h1r]) ?_
            refine e_bipush (v := nI 113) dX0_acceptsFirst_60 (by decide) ?_
            first | refine e_icmp_neN 70 dX0_acceptsFirst_62 (by decide) (by omega) (by omega) (fun hc62 => ?_) (fun hc62 => ?_) | refine e_icmp_ne 70 dX0_acceptsFirst_62 (by decide) (fun hc62 => ?_) (fun hc62 => ?_)
            · refine e_bipush (v := nI 8) dX0_acceptsFirst_70 (by decide) ?_
              refine e_put0 flX0_11 dX0_acceptsFirst_72 rfl (Nat.le_of_ble_eq_true rfl) (fun _ => rfl) (fun _ => rfl) ?_
              refine e_iconst (z := 1) dX0_acceptsFirst_75 ?_
              refine e_zret dX0_acceptsFirst_76 rfl (by first | rfl | exact q_nar _) ?_
              first
                | exact ⟨_, rfl, rfl, Or.inl ⟨⟨by unfold t_lo; first | (rw [if_pos hc12]; omega) | (rw [if_neg hc12]; omega), by omega⟩, rfl, by first | (rw [if_pos hc44]; rfl) | (rw [if_neg hc44, if_pos hc62]; rfl) | (rw [if_neg hc44, if_neg hc62]; rfl)⟩⟩
                | exact ⟨_, rfl, rfl, Or.inr ⟨(by unfold t_lo; first | (rw [if_pos hc12]; omega) | (rw [if_neg hc12]; omega)), rfl, rfl⟩⟩
            · refine e_bipush (v := nI 7) dX0_acceptsFirst_65 (by decide) ?_
              refine e_goto 72 dX0_acceptsFirst_67 (by decide) ?_
              refine e_put0 flX0_11 dX0_acceptsFirst_72 rfl (Nat.le_of_ble_eq_true rfl) (fun _ => rfl) (fun _ => rfl) ?_
              refine e_iconst (z := 1) dX0_acceptsFirst_75 ?_
              refine e_zret dX0_acceptsFirst_76 rfl (by first | rfl | exact q_nar _) ?_
              first
                | exact ⟨_, rfl, rfl, Or.inl ⟨⟨by unfold t_lo; first | (rw [if_pos hc12]; omega) | (rw [if_neg hc12]; omega), by omega⟩, rfl, by first | (rw [if_pos hc44]; rfl) | (rw [if_neg hc44, if_pos hc62]; rfl) | (rw [if_neg hc44, if_neg hc62]; rfl)⟩⟩
                | exact ⟨_, rfl, rfl, Or.inr ⟨(by unfold t_lo; first | (rw [if_pos hc12]; omega) | (rw [if_neg hc12]; omega)), rfl, rfl⟩⟩
          · refine e_aload0 dX0_acceptsFirst_47 ?_
            refine e_iconst (z := 2) dX0_acceptsFirst_48 ?_
            refine e_put0 flX0_11 dX0_acceptsFirst_49 rfl (Nat.le_of_ble_eq_true rfl) (fun _ => rfl) (fun _ => rfl) ?_
            refine e_goto 75 dX0_acceptsFirst_52 (by decide) ?_
            refine e_iconst (z := 1) dX0_acceptsFirst_75 ?_
            refine e_zret dX0_acceptsFirst_76 rfl (by first | rfl | exact q_nar _) ?_
            first
              | exact ⟨_, rfl, rfl, Or.inl ⟨⟨by unfold t_lo; first | (rw [if_pos hc12]; omega) | (rw [if_neg hc12]; omega), by omega⟩, rfl, by first | (rw [if_pos hc44]; rfl) | (rw [if_neg hc44, if_pos hc62]; rfl) | (rw [if_neg hc44, if_neg hc62]; rfl)⟩⟩
              | exact ⟨_, rfl, rfl, Or.inr ⟨(by unfold t_lo; first | (rw [if_pos hc12]; omega) | (rw [if_neg hc12]; omega)), rfl, rfl⟩⟩
        · refine e_iconst (z := 0) dX0_acceptsFirst_31 ?_
          refine e_zret dX0_acceptsFirst_32 rfl (by first | rfl | exact q_nar _) ?_
          first
            | exact ⟨_, rfl, rfl, Or.inl ⟨⟨by unfold t_lo; first | (rw [if_pos hc12]; omega) | (rw [if_neg hc12]; omega), by omega⟩, rfl, by first | (rw [if_pos hc44]; rfl) | (rw [if_neg hc44, if_pos hc62]; rfl) | (rw [if_neg hc44, if_neg hc62]; rfl)⟩⟩
            | exact ⟨_, rfl, rfl, Or.inr ⟨(by unfold t_lo; first | (rw [if_pos hc12]; omega) | (rw [if_neg hc12]; omega)), rfl, rfl⟩⟩
  · skip
    refine e_isub dX0_acceptsFirst_3 ?_
    refine e_istore2 dX0_acceptsFirst_4 rfl (by decide) ?_
    refine e_iload2 dX0_acceptsFirst_5 ?_
    refine e_aload0 dX0_acceptsFirst_6 ?_
    refine e_get0 flX0_36 dX0_acceptsFirst_7 rfl rfl ?_
    refine e_top (w := qI (nI le)) (by rw [← h1r]) ?_
    refine e_bipush (v := nI 100) dX0_acceptsFirst_10 (by decide) ?_
    first | refine e_icmp_neN 19 dX0_acceptsFirst_12 (by decide) (by omega) (by omega) (fun hc12 => ?_) (fun hc12 => ?_) | refine e_icmp_ne 19 dX0_acceptsFirst_12 (by decide) (fun hc12 => ?_) (fun hc12 => ?_)
    · refine e_iconst (z := 0) dX0_acceptsFirst_19 ?_
      refine e_icmp_lt 31 dX0_acceptsFirst_20 (by decide) (fun hc20 => ?_) (fun q => absurd (dg_neg2 c (by omega) _ (by decide)) q)
      refine e_iconst (z := 0) dX0_acceptsFirst_31 ?_
      refine e_zret dX0_acceptsFirst_32 rfl (by first | rfl | exact q_nar _) ?_
      exact ⟨_, rfl, rfl, Or.inr ⟨(by omega), rfl, rfl⟩⟩
    · refine e_iconst (z := 1) dX0_acceptsFirst_15 ?_
      refine e_goto 20 dX0_acceptsFirst_16 (by decide) ?_
      refine e_icmp_lt 31 dX0_acceptsFirst_20 (by decide) (fun hc20 => ?_) (fun q => absurd (dg_neg2 c (by omega) _ (by decide)) q)
      refine e_iconst (z := 0) dX0_acceptsFirst_31 ?_
      refine e_zret dX0_acceptsFirst_32 rfl (by first | rfl | exact q_nar _) ?_
      exact ⟨_, rfl, rfl, Or.inr ⟨(by omega), rfl, rfl⟩⟩
