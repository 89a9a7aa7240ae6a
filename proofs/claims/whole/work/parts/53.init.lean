/-! THE MODEL'S PROGRAM: new -/
theorem relR_new {f : Nat → Int32} (hf : ∀ k, k < 256 → f k = if k < 5 then nI 1 else if k < 9 then nI 100 else nI 0) : RelR f m_new := by
  refine ⟨fun k hk => ?_, fun s hs => ?_, ?_, ?_, ?_, ?_, ?_, fun t j ht hj => ?_, fun s t hs ht => ?_, fun s hs => ?_, fun s k hs hk => absurd hk (Nat.not_lt_zero k), fun k hk => absurd hk (Nat.not_lt_zero k)⟩
  · rw [hf k (by omega), if_pos hk]; show nI 1 = nI (if 1 = 1 ∧ k < 5 then 1 else 0); rw [if_pos ⟨rfl, hk⟩]
  · rw [hf _ (by omega), if_neg (by omega), if_pos (by omega)]; rfl
  · rw [hf _ (by omega)]; rfl
  · rw [hf _ (by omega)]; rfl
  · rw [hf _ (by omega)]; rfl
  · rw [hf _ (by omega)]; rfl
  · rw [hf _ (by omega)]; rfl
  · rw [hf _ (by omega), if_neg (by omega), if_neg (by omega)]
    show nI 0 = nI (if j + 2 = 1 ∧ t < 5 then 1 else 0)
    rw [if_neg (by omega)]
  · rw [hf _ (by omega), if_neg (by omega), if_neg (by omega)]; rfl
  · rw [hf _ (by omega), if_neg (by omega), if_neg (by omega)]; rfl
set_option maxRecDepth 20000 in
set_option maxHeartbeats 4000000 in
theorem r_init (h : qB) : Ct mX3_init 1 6 2488 [qR 11 0] 125 (q_put h 11 [eO 3 [qI 0, qN, qN, qN, qI 0, qN, qI 0, qN, qI 0, qI 0, qI 0, qN, qI 0]]) (fun r n h' => r = none ∧ n = 131 ∧ ∃ sf, RelR sf m_new ∧ h' = q_put h 11 (oR (nI 0) sf (fun _ => 0) (fun _ => 0) (fun _ => 0) (fun _ => 0) (fun _ => 0) 0 0 0 0 0 0)) qNo := by
  refine ct_of (by decide +kernel) rfl rfl (Nat.le_of_ble_eq_true rfl) ?_
  show Ev mX3_init 1 0 [some (qR 11 0), none] [] 125 (q_put h 11 [eO 3 [qI 0, qN, qN, qN, qI 0, qN, qI 0, qN, qI 0, qI 0, qI 0, qN, qI 0]]) 6 2488 _ _
  refine e_aload0 dX3_init_0 ?_
  refine e_objInit lkX3_1 w_oi w_oc dX3_init_1 (by decide) (by decide) ?_
  refine e_aload0 dX3_init_4 ?_
  refine e_sipush (v := nI 256) dX3_init_5 (by decide) ?_
  refine e_newint 11 1 w_ai dX3_init_8 rfl (by decide) (by decide) (by decide) (by rw [q_put_at]; rfl) (by decide) (Nat.le_of_ble_eq_true rfl) ?_
  rw [q_push_put]
  refine e_putfieldI rfl (fun _ _ _ q => by cases q; rfl) flX3_7 dX3_init_10 rfl (Nat.le_of_ble_eq_true rfl) (fun _ => rfl) (fun _ => rfl) ?_
  show Ev mX3_init 1 13 [some (qR 11 0), none] [] 126 (q_put h 11 [eO 3 [qI 0, qR 11 1, qN, qN, qI 0, qN, qI 0, qN, qI 0, qI 0, qI 0, qN, qI 0], eI 256 (fun _ => 0)]) 5 2232 _ _
  refine e_aload0 dX3_init_13 ?_
  refine e_sipush (v := nI 256) dX3_init_14 (by decide) ?_
  refine e_newint 11 2 w_ai dX3_init_17 rfl (by decide) (by decide) (by decide) (by rw [q_put_at]; rfl) (by decide) (Nat.le_of_ble_eq_true rfl) ?_
  rw [q_push_put]
  refine e_putfieldI rfl (fun _ _ _ q => by cases q; rfl) flX3_13 dX3_init_19 rfl (Nat.le_of_ble_eq_true rfl) (fun _ => rfl) (fun _ => rfl) ?_
  show Ev mX3_init 1 22 [some (qR 11 0), none] [] 127 (q_put h 11 [eO 3 [qI 0, qR 11 1, qR 11 2, qN, qI 0, qN, qI 0, qN, qI 0, qI 0, qI 0, qN, qI 0], eI 256 (fun _ => 0), eI 256 (fun _ => 0)]) 4 1976 _ _
  refine e_aload0 dX3_init_22 ?_
  refine e_sipush (v := nI 1536) dX3_init_23 (by decide) ?_
  refine e_newint 11 3 w_ai dX3_init_26 rfl (by decide) (by decide) (by decide) (by rw [q_put_at]; rfl) (by decide) (Nat.le_of_ble_eq_true rfl) ?_
  rw [q_push_put]
  refine e_putfieldI rfl (fun _ _ _ q => by cases q; rfl) flX3_16 dX3_init_28 rfl (Nat.le_of_ble_eq_true rfl) (fun _ => rfl) (fun _ => rfl) ?_
  show Ev mX3_init 1 31 [some (qR 11 0), none] [] 128 (q_put h 11 [eO 3 [qI 0, qR 11 1, qR 11 2, qR 11 3, qI 0, qN, qI 0, qN, qI 0, qI 0, qI 0, qN, qI 0], eI 256 (fun _ => 0), eI 256 (fun _ => 0), eI 1536 (fun _ => 0)]) 3 440 _ _
  refine e_aload0 dX3_init_31 ?_
  refine e_sipush (v := nI 256) dX3_init_32 (by decide) ?_
  refine e_newint 11 4 w_ai dX3_init_35 rfl (by decide) (by decide) (by decide) (by rw [q_put_at]; rfl) (by decide) (Nat.le_of_ble_eq_true rfl) ?_
  rw [q_push_put]
  refine e_putfieldI rfl (fun _ _ _ q => by cases q; rfl) flX3_19 dX3_init_37 rfl (Nat.le_of_ble_eq_true rfl) (fun _ => rfl) (fun _ => rfl) ?_
  show Ev mX3_init 1 40 [some (qR 11 0), none] [] 129 (q_put h 11 [eO 3 [qI 0, qR 11 1, qR 11 2, qR 11 3, qI 0, qR 11 4, qI 0, qN, qI 0, qI 0, qI 0, qN, qI 0], eI 256 (fun _ => 0), eI 256 (fun _ => 0), eI 1536 (fun _ => 0), eI 256 (fun _ => 0)]) 2 184 _ _
  refine e_aload0 dX3_init_40 ?_
  refine e_bipush (v := nI 60) dX3_init_41 (by decide) ?_
  refine e_newint 11 5 w_ai dX3_init_43 rfl (by decide) (by decide) (by decide) (by rw [q_put_at]; rfl) (by decide) (Nat.le_of_ble_eq_true rfl) ?_
  rw [q_push_put]
  refine e_putfieldI rfl (fun _ _ _ q => by cases q; rfl) flX3_22 dX3_init_45 rfl (Nat.le_of_ble_eq_true rfl) (fun _ => rfl) (fun _ => rfl) ?_
  show Ev mX3_init 1 48 [some (qR 11 0), none] [] 130 (q_put h 11 [eO 3 [qI 0, qR 11 1, qR 11 2, qR 11 3, qI 0, qR 11 4, qI 0, qR 11 5, qI 0, qI 0, qI 0, qN, qI 0], eI 256 (fun _ => 0), eI 256 (fun _ => 0), eI 1536 (fun _ => 0), eI 256 (fun _ => 0), eI 60 (fun _ => 0)]) 1 124 _ _
  refine e_aload0 dX3_init_48 ?_
  refine e_bipush (v := nI 124) dX3_init_49 (by decide) ?_
  refine e_newint 11 6 w_ai dX3_init_51 rfl (by decide) (by decide) (by decide) (by rw [q_put_at]; rfl) (by decide) (Nat.le_of_ble_eq_true rfl) ?_
  rw [q_push_put]
  refine e_putfieldI rfl (fun _ _ _ q => by cases q; rfl) flX3_25 dX3_init_53 rfl (Nat.le_of_ble_eq_true rfl) (fun _ => rfl) (fun _ => rfl) ?_
  show Ev mX3_init 1 56 [some (qR 11 0), none] [] 131 (q_put h 11 [eO 3 [qI 0, qR 11 1, qR 11 2, qR 11 3, qI 0, qR 11 4, qI 0, qR 11 5, qI 0, qI 0, qI 0, qR 11 6, qI 0], eI 256 (fun _ => 0), eI 256 (fun _ => 0), eI 1536 (fun _ => 0), eI 256 (fun _ => 0), eI 60 (fun _ => 0), eI 124 (fun _ => 0)]) 0 0 _ _
  refine e_aload0 dX3_init_56 ?_
  refine e_iconst (z := 0) dX3_init_57 ?_
  refine e_putfieldF flX3_28 dX3_init_58 rfl (Nat.le_of_ble_eq_true rfl) (fun _ => rfl) (fun _ => rfl) ?_
  show Ev mX3_init 1 61 [some (qR 11 0), none] [] 131 (q_put h 11 (oR (nI 0) (fun _ => 0) (fun _ => 0) (fun _ => 0) (fun _ => 0) (fun _ => 0) (fun _ => 0) 0 0 0 0 0 0)) 0 0 _ _
  refine e_iconst (z := 0) dX3_init_61 ?_
  refine e_istore1 dX3_init_62 rfl (by decide) ?_
  have H : ∀ (m i : Nat) (f : Nat → Int32), i ≤ 5 → m = 5 - i → (∀ k, f k = if k < i then nI 1 else 0) → Ev mX3_init 1 63 [some (qR 11 0), some (qI (nI i))] [] 131 (q_put h 11 (oR (nI 0) f (fun _ => 0) (fun _ => 0) (fun _ => 0) (fun _ => 0) (fun _ => 0) 0 0 0 0 0 0)) 0 0 (fun r n h' => r = none ∧ n = 131 ∧ ∃ sf, RelR sf m_new ∧ h' = q_put h 11 (oR (nI 0) sf (fun _ => 0) (fun _ => 0) (fun _ => 0) (fun _ => 0) (fun _ => 0) 0 0 0 0 0 0)) qNo := by
    intro m
    induction m using Nat.strongRecOn with
    | _ m ih =>
    intro i f hi hm hf
    refine e_iload1 dX3_init_63 ?_
    refine e_iconst (z := 5) dX3_init_64 ?_
    first | refine e_icmp_geN 83 dX3_init_65 (by decide) (by omega) (by omega) (fun hc65 => ?_) (fun hc65 => ?_) | refine e_icmp_ge 83 dX3_init_65 (by decide) (fun hc65 => ?_) (fun hc65 => ?_)
    · obtain rfl : i = 5 := by omega
      refine e_iconst (z := 0) dX3_init_83 ?_
      refine e_istore1 dX3_init_84 rfl (by decide) ?_
      have H : ∀ (m i : Nat) (f : Nat → Int32), i ≤ 4 → m = 4 - i → (∀ k, f k = if k < 5 then nI 1 else if k < 5 + i then nI 100 else 0) → Ev mX3_init 1 85 [some (qR 11 0), some (qI (nI i))] [] 131 (q_put h 11 (oR (nI 0) f (fun _ => 0) (fun _ => 0) (fun _ => 0) (fun _ => 0) (fun _ => 0) 0 0 0 0 0 0)) 0 0 (fun r n h' => r = none ∧ n = 131 ∧ ∃ sf, RelR sf m_new ∧ h' = q_put h 11 (oR (nI 0) sf (fun _ => 0) (fun _ => 0) (fun _ => 0) (fun _ => 0) (fun _ => 0) 0 0 0 0 0 0)) qNo := by
        intro m
        induction m using Nat.strongRecOn with
        | _ m ih =>
        intro i f hi hm hf
        refine e_iload1 dX3_init_85 ?_
        refine e_iconst (z := 4) dX3_init_86 ?_
        first | refine e_icmp_geN 106 dX3_init_87 (by decide) (by omega) (by omega) (fun hc87 => ?_) (fun hc87 => ?_) | refine e_icmp_ge 106 dX3_init_87 (by decide) (fun hc87 => ?_) (fun hc87 => ?_)
        · refine e_vret dX3_init_106 rfl ?_
          obtain rfl : i = 4 := by omega
          exact ⟨rfl, rfl, f, relR_new (fun k hk => by rw [hf k]; by_cases q : k < 5 <;> by_cases q2 : k < 9 <;> simp [q, q2] <;> rfl), rfl⟩
        · refine e_aload0 dX3_init_90 ?_
          refine e_getfieldF flX3_7 dX3_init_91 rfl rfl ?_
          refine e_iconst (z := 5) dX3_init_94 ?_
          refine e_iload1 dX3_init_95 ?_
          first | refine e_iaddN dX3_init_96 ?_ | refine e_iadd dX3_init_96 ?_
          refine e_bipush (v := nI 100) dX3_init_97 (by decide) ?_
          refine e_iastoreN dX3_init_99 rfl (by omega) (by decide) ?_
          first | refine e_iinc1N (z := 1) dX3_init_100 rfl (by decide) ?_ | refine e_iinc1 dX3_init_100 rfl rfl (by decide) ?_
          refine e_goto 85 dX3_init_103 (by decide) ?_
          refine ih _ (by omega) (i + 1) _ (by omega) rfl (fun k => ?_)
          by_cases q : k = 5 + i
          · rw [q, upd_same, if_neg (by omega), if_pos (by omega)]
          · rw [upd_ne q, hf k]
            by_cases q1 : k < 5
            · rw [if_pos q1, if_pos q1]
            · rw [if_neg q1, if_neg q1]
              by_cases q2 : k < 5 + i
              · rw [if_pos q2, if_pos (by omega)]
              · rw [if_neg q2, if_neg (by omega)]
      exact H _ 0 _ (Nat.zero_le _) rfl (fun k => by rw [hf k]; by_cases q : k < 5 <;> simp [q])
    · refine e_aload0 dX3_init_68 ?_
      refine e_getfieldF flX3_7 dX3_init_69 rfl rfl ?_
      refine e_iconst (z := 0) dX3_init_72 ?_
      refine e_iload1 dX3_init_73 ?_
      first | refine e_iaddN dX3_init_74 ?_ | refine e_iadd dX3_init_74 ?_
      refine e_iconst (z := 1) dX3_init_75 ?_
      refine e_iastoreN dX3_init_76 rfl (by omega) (by decide) ?_
      first | refine e_iinc1N (z := 1) dX3_init_77 rfl (by decide) ?_ | refine e_iinc1 dX3_init_77 rfl rfl (by decide) ?_
      refine e_goto 63 dX3_init_80 (by decide) ?_
      refine ih _ (by omega) (i + 1) _ (by omega) rfl (fun k => ?_)
      by_cases q : k = i
      · rw [q, Nat.zero_add i, upd_same, if_pos (by omega)]
      · rw [Nat.zero_add i, upd_ne q, hf k]
        by_cases q2 : k < i
        · rw [if_pos q2, if_pos (by omega)]
        · rw [if_neg q2, if_neg (by omega)]
  exact H _ 0 _ (Nat.zero_le _) rfl (fun k => by rw [if_neg (by omega)])
