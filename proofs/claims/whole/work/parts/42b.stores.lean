set_option maxRecDepth 20000 in
set_option maxHeartbeats 4000000 in
theorem st_dead (h : qB) (th : Int32) (sf asd sts snp txt rdd : Nat → Int32) (cnt hq : Int32) {tx : Nat → Nat} {nt : Nat} (hn : nt ≤ 60) (htx : ∀ i, i < nt → txt i = nI (tx i) ∧ 33 ≤ tx i ∧ tx i ≤ 126) (rm : Int32) {a : Nat} {f : Int32} : CtI mX3_readsStores 1 [qR 11 0, qI f] (q_put h 11 (oR th sf asd sts snp txt rdd cnt hq (nI nt) (nI a) (nI 0) rm)) (fun r h2 => h2 = q_put h 11 (oR th sf asd sts snp txt rdd cnt hq (nI nt) (nI a) (nI 0) rm)) := by
  refine ct_of (by decide +kernel) rfl rfl (Nat.le_of_ble_eq_true rfl) ?_
  show Ev mX3_readsStores 1 0 [some (qR 11 0), some (qI f), none, none, none, none] [] 132 (q_put h 11 (oR th sf asd sts snp txt rdd cnt hq (nI nt) (nI a) (nI 0) rm)) 0 0 _ _
  refine e_iconst (z := 0) dX3_readsStores_0 ?_
  refine e_istore2 dX3_readsStores_1 rfl (by decide) ?_
  refine e_bipush (v := nI 48) dX3_readsStores_2 (by decide) ?_
  refine e_istore3 dX3_readsStores_4 rfl (by decide) ?_
  refine e_aload0 dX3_readsStores_5 ?_
  refine e_getfieldF flX3_162 dX3_readsStores_6 rfl rfl ?_
  refine e_istore4 dX3_readsStores_9 rfl (by decide) ?_
  refine e_iload4 dX3_readsStores_11 ?_
  refine e_if_eqN 82 dX3_readsStores_13 (by decide) (by first | omega | decide) (fun hc13 => ?_) (fun q => absurd rfl q)
  refine e_aload0 dX3_readsStores_82 ?_
  refine e_aload0 dX3_readsStores_83 ?_
  refine e_getfieldF flX3_162 dX3_readsStores_84 rfl rfl ?_
  refine e_if_eqN 98 dX3_readsStores_87 (by decide) (by first | omega | decide) (fun hc87 => ?_) (fun q => absurd rfl q)
  refine e_iconst (z := 0) dX3_readsStores_98 ?_
  refine e_putfieldF flX3_162 dX3_readsStores_99 rfl (Nat.le_of_ble_eq_true rfl) (fun _ => rfl) (fun _ => rfl) ?_
  refine e_iload2 dX3_readsStores_102 ?_
  refine e_iret dX3_readsStores_103 rfl ?_
  exact ⟨_, rfl, rfl, rfl⟩
theorem t_more : ∀ to, to < 16 → ∀ d, d < 4 → ∀ e, e < 4 → (if to / 2 ^ d = 0 then (decide ((to ||| 2 ^ d) / 2 ^ e = 0) == decide (d + 1 ≤ e)) else true) = true := by decide +kernel
theorem t_or_lt : ∀ to, to < 16 → ∀ d, d < 4 → to ||| 2 ^ d < 16 ∧ ¬ to ||| 2 ^ d = 0 := by decide +kernel
theorem t_step_tk {s : qt} {c : Nat} (h : s.1 = 3 ∨ s.1 = 4) (hk : t_tk s.2.2.1 s.2.2.2.1 c = true) : t_step s c = some (4, (s.2.1, (s.2.2.1, (s.2.2.2.1 ||| 2 ^ (c - 48), s.2.2.2.2)))) := by
  have b := (t_tk_of hk).2.1
  have n58 : ¬ c = 58 := by omega
  unfold t_step
  rcases h with h | h <;> simp [h, hk, n58]
theorem t_step_no3 {s : qt} {c : Nat} (h : s.1 = 3) (hk : t_tk s.2.2.1 s.2.2.2.1 c = false) : t_step s c = none := by
  unfold t_step
  simp [h, hk]
theorem t_step_no4 {s : qt} {c : Nat} (h : s.1 = 4) (hk : t_tk s.2.2.1 s.2.2.2.1 c = false) (h58 : ¬ c = 58) : t_step s c = none := by
  unfold t_step
  simp [h, hk, h58]
set_option maxRecDepth 20000 in
set_option maxHeartbeats 4000000 in
theorem st_live (h : qB) (th : Int32) (sf asd sts snp txt rdd : Nat → Int32) (cnt hq : Int32) {tx : Nat → Nat} {nt : Nat} (hn : nt ≤ 60) (htx : ∀ i, i < nt → txt i = nI (tx i) ∧ 33 ≤ tx i ∧ tx i ≤ 126) (rm : Int32) {a f : Nat} {s : qt} {l : List qt} (hp : TP tx nt a s l) (h3 : s.1 = 3) (hsf : s.2.2.1 = f) (hf : f < 4) : CtI mX3_readsStores 2 [qR 11 0, qI (nI f)] (q_put h 11 (oR th sf asd sts snp txt rdd cnt hq (nI nt) (nI a) (nI 1) rm)) (fun r h2 => (∃ (a' to : Nat) (s' : qt), TP tx nt a' s' l ∧ r = nI to ∧ s'.1 = 4 ∧ s'.2.1 = s.2.1 ∧ s'.2.2.1 = s.2.2.1 ∧ s'.2.2.2.1 = to ∧ t_tk s'.2.2.1 s'.2.2.2.1 (t_sg tx nt a') = false ∧ a < a' ∧ h2 = q_put h 11 (oR th sf asd sts snp txt rdd cnt hq (nI nt) (nI a') (nI 1) rm)) ∨ (t_bad tx nt a s ∧ h2 = q_put h 11 (oR th sf asd sts snp txt rdd cnt hq (nI nt) (nI a) (nI 0) rm))) := by
  have hta : s.2.2.2.1 = 0 := hp.2.2.2.2.2.2.2.2.1 (by omega)
  refine ct_of (by decide +kernel) rfl rfl (Nat.le_of_ble_eq_true rfl) ?_
  show Ev mX3_readsStores 2 0 [some (qR 11 0), some (qI (nI f)), none, none, none, none] [] 132 (q_put h 11 (oR th sf asd sts snp txt rdd cnt hq (nI nt) (nI a) (nI 1) rm)) 0 0 _ _
  refine e_iconst (z := 0) dX3_readsStores_0 ?_
  refine e_istore2 dX3_readsStores_1 rfl (by decide) ?_
  refine e_bipush (v := nI 48) dX3_readsStores_2 (by decide) ?_
  refine e_istore3 dX3_readsStores_4 rfl (by decide) ?_
  refine e_aload0 dX3_readsStores_5 ?_
  refine e_getfieldF flX3_162 dX3_readsStores_6 rfl rfl ?_
  refine e_istore4 dX3_readsStores_9 rfl (by decide) ?_
  have H : ∀ (m i : Nat) (to ls : Nat) (s2 : qt), i ≤ nt → m = nt - i → TP tx nt i s2 l → (s2.2.1 = s.2.1 ∧ s2.2.2.1 = s.2.2.1 ∧ s2.2.2.2.1 = to ∧ to < 16 ∧ 48 ≤ ls ∧ ls ≤ 52 ∧ (∀ e, e < 4 → (to / 2 ^ e = 0 ↔ ls ≤ 48 + e)) ∧ ((s2.1 = 3 ∧ to = 0 ∧ s2 = s ∧ i = a) ∨ (s2.1 = 4 ∧ ¬ to = 0 ∧ a < i))) → Ev mX3_readsStores 2 11 [some (qR 11 0), some (qI (nI f)), some (qI (nI to)), some (qI (nI ls)), some (qI (nI 1)), none] [] 132 (q_put h 11 (oR th sf asd sts snp txt rdd cnt hq (nI nt) (nI i) (nI 1) rm)) 0 0 (fun r n h' => ∃ x, r = some (qI x) ∧ n = 132 ∧ ((fun r h2 => (∃ (a' to : Nat) (s' : qt), TP tx nt a' s' l ∧ r = nI to ∧ s'.1 = 4 ∧ s'.2.1 = s.2.1 ∧ s'.2.2.1 = s.2.2.1 ∧ s'.2.2.2.1 = to ∧ t_tk s'.2.2.1 s'.2.2.2.1 (t_sg tx nt a') = false ∧ a < a' ∧ h2 = q_put h 11 (oR th sf asd sts snp txt rdd cnt hq (nI nt) (nI a') (nI 1) rm)) ∨ (t_bad tx nt a s ∧ h2 = q_put h 11 (oR th sf asd sts snp txt rdd cnt hq (nI nt) (nI a) (nI 0) rm)))) x h') qNo := by
    intro m
    induction m using Nat.strongRecOn with
    | _ m ih =>
    intro i to ls s2 hi hm hp ⟨p1, p2, p3, p4, p5, p6, p7, p8⟩
    refine e_iload4 dX3_readsStores_11 ?_
    refine e_if_eqN 82 dX3_readsStores_13 (by decide) (by first | omega | decide) (fun q => absurd q (by decide)) (fun hc13 => ?_)
    have hs := t_sg_le htx i
    by_cases hk : t_tk s2.2.2.1 s2.2.2.2.1 (t_sg tx nt i) = true
    · obtain ⟨k1, k2, k3, k4⟩ := t_tk_of hk
      rw [p2] at k3
      rw [p3] at k4
      have k5 := (p7 _ (by omega)).mp k4
      refine e_aload0 dX3_readsStores_16 ?_
      refine e_vIF (M' := mX3_sign) fX3_sign lkX3_166 (r_sign h th sf asd sts snp txt rdd cnt hq hn htx rm (a := i) (by omega) (nI 1)) rfl rfl dX3_readsStores_17 rfl rfl (by decide) (Nat.le_of_ble_eq_true rfl) rfl ?_
      rintro _ _ ⟨rfl, rfl⟩
      refine e_istore5 dX3_readsStores_20 rfl (by decide) ?_
      refine e_iload5 dX3_readsStores_22 ?_
      refine e_iload3 dX3_readsStores_24 ?_
      refine e_bipush (v := nI 51) dX3_readsStores_25 (by decide) ?_
      refine e_sI (M' := mX3_in) fX3_in lkX3_32 (r_in _ _ _ _) rfl rfl dX3_readsStores_27 (by decide) (Nat.le_of_ble_eq_true rfl) rfl ?_
      rintro _ _ ⟨rfl, rfl⟩
      rw [i_rngT hs (by omega) (by decide), decide_eq_true (by omega)]
      refine e_if_eqN 46 dX3_readsStores_30 (by decide) (by first | omega | decide) (fun q => absurd q (by decide)) (fun hc30 => ?_)
      refine e_iload5 dX3_readsStores_33 ?_
      refine e_bipush (v := nI 48) dX3_readsStores_35 (by decide) ?_
      refine e_isubN dX3_readsStores_37 (by omega) ?_
      refine e_iload1 dX3_readsStores_38 ?_
      refine e_icmp_eqN 46 dX3_readsStores_39 (by decide) (by first | omega | decide) (by first | omega | decide) (fun q => absurd q (by omega)) (fun hc39 => ?_)
      refine e_iconst (z := 1) dX3_readsStores_42 ?_
      refine e_goto 47 dX3_readsStores_43 (by decide) ?_
      refine e_istore4 dX3_readsStores_47 rfl (by decide) ?_
      refine e_iload4 dX3_readsStores_49 ?_
      refine e_if_eqN 79 dX3_readsStores_51 (by decide) (by first | omega | decide) (fun q => absurd q (by decide)) (fun hc51 => ?_)
      refine e_iload2 dX3_readsStores_54 ?_
      refine e_iconst (z := 1) dX3_readsStores_55 ?_
      refine e_iload5 dX3_readsStores_56 ?_
      refine e_bipush (v := nI 48) dX3_readsStores_58 (by decide) ?_
      refine e_isubN dX3_readsStores_60 (by omega) ?_
      refine e_ishl dX3_readsStores_61 ?_
      refine e_ior dX3_readsStores_62 ?_
      rw [b_or _ p4 _ (by omega)]
      refine e_istore2 dX3_readsStores_63 rfl (by decide) ?_
      refine e_iload5 dX3_readsStores_64 ?_
      refine e_iconst (z := 1) dX3_readsStores_66 ?_
      first | refine e_iaddN dX3_readsStores_67 ?_ | refine e_iadd dX3_readsStores_67 ?_
      refine e_istore3 dX3_readsStores_68 rfl (by decide) ?_
      refine e_aload0 dX3_readsStores_69 ?_
      refine e_dup dX3_readsStores_70 rfl ?_
      refine e_getfieldF flX3_159 dX3_readsStores_71 rfl rfl ?_
      refine e_iconst (z := 1) dX3_readsStores_74 ?_
      first | refine e_iaddN dX3_readsStores_75 ?_ | refine e_iadd dX3_readsStores_75 ?_
      refine e_putfieldF flX3_159 dX3_readsStores_76 rfl (Nat.le_of_ble_eq_true rfl) (fun _ => rfl) (fun _ => rfl) ?_
      refine e_goto 11 dX3_readsStores_79 (by decide) ?_
      have hin := t_sg_in (tx := tx) (nt := nt) (a := i) (by omega)
      have hk' := hk
      rw [hin.2] at hk'
      have o2 := t_or_lt to p4 (t_sg tx nt i - 48) (by omega)
      have hp2 := tp_next hp hin.1 (t_step_tk (by omega) hk') (by rw [← hin.2]; omega)
      refine e_drop5 ?_
      refine ih _ (by omega) (i + 1) (to ||| 2 ^ (t_sg tx nt i - 48)) (t_sg tx nt i + 1) _ (by omega) rfl hp2 ⟨p1, p2, by dsimp only; rw [p3, hin.2], o2.1, by omega, by omega, fun e he => ?_, Or.inr ⟨rfl, o2.2, by omega⟩⟩
      have m1 := t_more to p4 (t_sg tx nt i - 48) (by omega) e he
      have m3 := (p7 (t_sg tx nt i - 48) (by omega)).mpr (by omega)
      rw [if_pos m3, beq_iff_eq, decide_eq_decide] at m1
      rw [m1]
      omega
    · rw [Bool.not_eq_true] at hk
      by_cases hin1 : ls ≤ t_sg tx nt i ∧ t_sg tx nt i ≤ 51
      · have hef : t_sg tx nt i - 48 = f := by
          refine Classical.byContradiction (fun q => ?_)
          have := of_decide_eq_false hk
          rw [p2, p3, hsf] at this
          exact this ⟨by omega, by omega, q, (p7 _ (by omega)).mpr (by omega)⟩
        refine e_aload0 dX3_readsStores_16 ?_
        refine e_vIF (M' := mX3_sign) fX3_sign lkX3_166 (r_sign h th sf asd sts snp txt rdd cnt hq hn htx rm (a := i) (by omega) (nI 1)) rfl rfl dX3_readsStores_17 rfl rfl (by decide) (Nat.le_of_ble_eq_true rfl) rfl ?_
        rintro _ _ ⟨rfl, rfl⟩
        refine e_istore5 dX3_readsStores_20 rfl (by decide) ?_
        refine e_iload5 dX3_readsStores_22 ?_
        refine e_iload3 dX3_readsStores_24 ?_
        refine e_bipush (v := nI 51) dX3_readsStores_25 (by decide) ?_
        refine e_sI (M' := mX3_in) fX3_in lkX3_32 (r_in _ _ _ _) rfl rfl dX3_readsStores_27 (by decide) (Nat.le_of_ble_eq_true rfl) rfl ?_
        rintro _ _ ⟨rfl, rfl⟩
        rw [i_rngT hs (by omega) (by decide), decide_eq_true hin1]
        refine e_if_eqN 46 dX3_readsStores_30 (by decide) (by first | omega | decide) (fun q => absurd q (by decide)) (fun hc30 => ?_)
        refine e_iload5 dX3_readsStores_33 ?_
        refine e_bipush (v := nI 48) dX3_readsStores_35 (by decide) ?_
        refine e_isubN dX3_readsStores_37 (by omega) ?_
        refine e_iload1 dX3_readsStores_38 ?_
        refine e_icmp_eqN 46 dX3_readsStores_39 (by decide) (by first | omega | decide) (by first | omega | decide) (fun hc39 => ?_) (fun q => absurd hef q)
        refine e_iconst (z := 0) dX3_readsStores_46 ?_
        refine e_istore4 dX3_readsStores_47 rfl (by decide) ?_
        refine e_iload4 dX3_readsStores_49 ?_
        refine e_if_eqN 79 dX3_readsStores_51 (by decide) (by first | omega | decide) (fun hc51 => ?_) (fun q => absurd rfl q)
        rcases p8 with ⟨q1, q2, q3, q4⟩ | ⟨q1, q2, q3⟩
        · subst q2
          refine e_goto 11 dX3_readsStores_79 (by decide) ?_
          refine e_iload4 dX3_readsStores_11 ?_
          refine e_if_eqN 82 dX3_readsStores_13 (by decide) (by first | omega | decide) (fun hc13 => ?_) (fun q => absurd rfl q)
          refine e_aload0 dX3_readsStores_82 ?_
          refine e_aload0 dX3_readsStores_83 ?_
          refine e_getfieldF flX3_162 dX3_readsStores_84 rfl rfl ?_
          refine e_if_eqN 98 dX3_readsStores_87 (by decide) (by first | omega | decide) (fun q => absurd q (by decide)) (fun hc87 => ?_)
          refine e_iload2 dX3_readsStores_90 ?_
          refine e_if_eqN 98 dX3_readsStores_91 (by decide) (by first | omega | decide) (fun hc91 => ?_) (fun q => absurd rfl q)
          refine e_iconst (z := 0) dX3_readsStores_98 ?_
          refine e_putfieldF flX3_162 dX3_readsStores_99 rfl (Nat.le_of_ble_eq_true rfl) (fun _ => rfl) (fun _ => rfl) ?_
          refine e_iload2 dX3_readsStores_102 ?_
          refine e_iret dX3_readsStores_103 rfl ?_
          subst q3
          subst q4
          refine ⟨_, rfl, rfl, Or.inr ⟨?_, rfl⟩⟩
          have hk0 := hk
          by_cases q5 : i < nt
          · rw [t_sg_tx q5] at hk0
            exact Or.inl ⟨q5, t_step_no3 q1 hk0⟩
          · exact Or.inr ⟨by omega, by unfold t_end; rw [q1]; decide⟩
        · skip
          refine e_goto 11 dX3_readsStores_79 (by decide) ?_
          refine e_iload4 dX3_readsStores_11 ?_
          refine e_if_eqN 82 dX3_readsStores_13 (by decide) (by first | omega | decide) (fun hc13 => ?_) (fun q => absurd rfl q)
          refine e_aload0 dX3_readsStores_82 ?_
          refine e_aload0 dX3_readsStores_83 ?_
          refine e_getfieldF flX3_162 dX3_readsStores_84 rfl rfl ?_
          refine e_if_eqN 98 dX3_readsStores_87 (by decide) (by first | omega | decide) (fun q => absurd q (by decide)) (fun hc87 => ?_)
          refine e_iload2 dX3_readsStores_90 ?_
          refine e_if_eqN 98 dX3_readsStores_91 (by decide) (by first | omega | decide) (fun q => absurd q q2) (fun hc91 => ?_)
          refine e_iconst (z := 1) dX3_readsStores_94 ?_
          refine e_goto 99 dX3_readsStores_95 (by decide) ?_
          refine e_putfieldF flX3_162 dX3_readsStores_99 rfl (Nat.le_of_ble_eq_true rfl) (fun _ => rfl) (fun _ => rfl) ?_
          refine e_iload2 dX3_readsStores_102 ?_
          refine e_iret dX3_readsStores_103 rfl ?_
          exact ⟨_, rfl, rfl, Or.inl ⟨i, to, s2, hp, rfl, q1, p1, p2, p3, hk, q3, rfl⟩⟩
      · skip
        refine e_aload0 dX3_readsStores_16 ?_
        refine e_vIF (M' := mX3_sign) fX3_sign lkX3_166 (r_sign h th sf asd sts snp txt rdd cnt hq hn htx rm (a := i) (by omega) (nI 1)) rfl rfl dX3_readsStores_17 rfl rfl (by decide) (Nat.le_of_ble_eq_true rfl) rfl ?_
        rintro _ _ ⟨rfl, rfl⟩
        refine e_istore5 dX3_readsStores_20 rfl (by decide) ?_
        refine e_iload5 dX3_readsStores_22 ?_
        refine e_iload3 dX3_readsStores_24 ?_
        refine e_bipush (v := nI 51) dX3_readsStores_25 (by decide) ?_
        refine e_sI (M' := mX3_in) fX3_in lkX3_32 (r_in _ _ _ _) rfl rfl dX3_readsStores_27 (by decide) (Nat.le_of_ble_eq_true rfl) rfl ?_
        rintro _ _ ⟨rfl, rfl⟩
        rw [i_rngT hs (by omega) (by decide), decide_eq_false hin1]
        refine e_if_eqN 46 dX3_readsStores_30 (by decide) (by first | omega | decide) (fun hc30 => ?_) (fun q => absurd rfl q)
        refine e_iconst (z := 0) dX3_readsStores_46 ?_
        refine e_istore4 dX3_readsStores_47 rfl (by decide) ?_
        refine e_iload4 dX3_readsStores_49 ?_
        refine e_if_eqN 79 dX3_readsStores_51 (by decide) (by first | omega | decide) (fun hc51 => ?_) (fun q => absurd rfl q)
        rcases p8 with ⟨q1, q2, q3, q4⟩ | ⟨q1, q2, q3⟩
        · subst q2
          refine e_goto 11 dX3_readsStores_79 (by decide) ?_
          refine e_iload4 dX3_readsStores_11 ?_
          refine e_if_eqN 82 dX3_readsStores_13 (by decide) (by first | omega | decide) (fun hc13 => ?_) (fun q => absurd rfl q)
          refine e_aload0 dX3_readsStores_82 ?_
          refine e_aload0 dX3_readsStores_83 ?_
          refine e_getfieldF flX3_162 dX3_readsStores_84 rfl rfl ?_
          refine e_if_eqN 98 dX3_readsStores_87 (by decide) (by first | omega | decide) (fun q => absurd q (by decide)) (fun hc87 => ?_)
          refine e_iload2 dX3_readsStores_90 ?_
          refine e_if_eqN 98 dX3_readsStores_91 (by decide) (by first | omega | decide) (fun hc91 => ?_) (fun q => absurd rfl q)
          refine e_iconst (z := 0) dX3_readsStores_98 ?_
          refine e_putfieldF flX3_162 dX3_readsStores_99 rfl (Nat.le_of_ble_eq_true rfl) (fun _ => rfl) (fun _ => rfl) ?_
          refine e_iload2 dX3_readsStores_102 ?_
          refine e_iret dX3_readsStores_103 rfl ?_
          subst q3
          subst q4
          refine ⟨_, rfl, rfl, Or.inr ⟨?_, rfl⟩⟩
          have hk0 := hk
          by_cases q5 : i < nt
          · rw [t_sg_tx q5] at hk0
            exact Or.inl ⟨q5, t_step_no3 q1 hk0⟩
          · exact Or.inr ⟨by omega, by unfold t_end; rw [q1]; decide⟩
        · skip
          refine e_goto 11 dX3_readsStores_79 (by decide) ?_
          refine e_iload4 dX3_readsStores_11 ?_
          refine e_if_eqN 82 dX3_readsStores_13 (by decide) (by first | omega | decide) (fun hc13 => ?_) (fun q => absurd rfl q)
          refine e_aload0 dX3_readsStores_82 ?_
          refine e_aload0 dX3_readsStores_83 ?_
          refine e_getfieldF flX3_162 dX3_readsStores_84 rfl rfl ?_
          refine e_if_eqN 98 dX3_readsStores_87 (by decide) (by first | omega | decide) (fun q => absurd q (by decide)) (fun hc87 => ?_)
          refine e_iload2 dX3_readsStores_90 ?_
          refine e_if_eqN 98 dX3_readsStores_91 (by decide) (by first | omega | decide) (fun q => absurd q q2) (fun hc91 => ?_)
          refine e_iconst (z := 1) dX3_readsStores_94 ?_
          refine e_goto 99 dX3_readsStores_95 (by decide) ?_
          refine e_putfieldF flX3_162 dX3_readsStores_99 rfl (Nat.le_of_ble_eq_true rfl) (fun _ => rfl) (fun _ => rfl) ?_
          refine e_iload2 dX3_readsStores_102 ?_
          refine e_iret dX3_readsStores_103 rfl ?_
          exact ⟨_, rfl, rfl, Or.inl ⟨i, to, s2, hp, rfl, q1, p1, p2, p3, hk, q3, rfl⟩⟩
  exact H _ a 0 48 s hp.1 rfl hp ⟨rfl, rfl, hta, by decide, by decide, by decide, fun e he => by simp <;> omega, Or.inl ⟨h3, rfl, rfl, rfl⟩⟩
