/-! NEW WORLDS, AND THE CLASS'S OWN CELLS -/
def m_new : qm := (fun f i => if f = 1 ∧ i < 5 then 1 else 0, fun _ => nI 100)
theorem m_outLog_0 (t : Nat) : m_outLog m_new t 0 = 0 := rfl
theorem j_new : J m_new := by
  refine ⟨⟨by decide, by decide, ?_, ?_, ?_, ?_, ?_, by decide, ?_, ?_⟩, ?_, by decide, ?_, ?_, ?_, ?_⟩
  · intro k hk; show (if 1 = 1 ∧ k < 5 then 1 else 0) ≤ 1; split <;> omega
  · intro t _; exact ⟨Nat.zero_lt_succ _, Nat.zero_lt_succ _, Nat.zero_le _, Nat.zero_lt_succ _, Nat.zero_lt_succ _, Nat.zero_le _, Nat.zero_le _⟩
  · intro t _ _; exact ⟨rfl, rfl, rfl, rfl, rfl, rfl, rfl⟩
  · intro s t _ _; exact ⟨Nat.zero_le _, fun _ => rfl⟩
  · intro s _; exact Nat.zero_le _
  · intro s k _ hk; exact absurd hk (Nat.not_lt_zero k)
  · intro k hk; exact absurd hk (Nat.not_lt_zero k)
  · intro s _; exact Nat.zero_le _
  · intro t _; rfl
  · intro s k _ hk; exact absurd hk (Nat.not_lt_zero k)
  · intro k hk; exact absurd hk (Nat.not_lt_zero k)
  · intro t ht; exact absurd ht (Nat.not_lt_zero t)
def w_new (f : Nat → Int32) : qw := fun j => if j = 8 then fun _ => 31 else if j = 9 then f else fun _ => 0
theorem relC_new {f : Nat → Int32} (hf : ∀ s, s < 4 → f s = nI 100) : RelC (w_new f) m_new := by
  refine ⟨rfl, fun t _ => rfl, fun t _ => ?_, fun s t hs _ => ?_, fun t _ => rfl, fun t _ => rfl, fun t _ => rfl, rfl, rfl, fun s hs => hf s hs, fun s t _ _ => rfl, fun s k _ hk => absurd hk (Nat.not_lt_zero k), fun s _ => rfl, fun k hk => absurd hk (Nat.not_lt_zero k), rfl, rfl, rfl, rfl⟩
  · show (0 : Int32) = nI (if t < 0 then _ else 0)
    rw [if_neg (Nat.not_lt_zero t)]; rfl
  · rcases (show s = 0 ∨ s = 1 ∨ s = 2 ∨ s = 3 by omega) with rfl | rfl | rfl | rfl
    · show (0 : Int32) = m_sh 0 0 0 0; decide +kernel
    · show (0 : Int32) = m_sh 0 0 0 1; decide +kernel
    · show (0 : Int32) = m_sh 0 0 0 2; decide +kernel
    · show (0 : Int32) = m_sh 0 0 0 3; decide +kernel
set_option maxRecDepth 20000 in
set_option maxHeartbeats 4000000 in
theorem w_initWorld (h : qB) (b : Fin 16) (n0 : Nat) (hn : n0 + 12 ≤ 124) (htb : ∀ o : Fin 16, o.val < 12 → q_tb (b, o) = n0 + o.val) : Ct mX1_init 1 11 293 [qR b 0] (n0 + 1) (q_put h b [eO 1 [qI 0, qN, qN, qN, qN, qN, qN, qI 0, qI 0, qN, qN, qN, qN, qN, qI 0, qI 0, qI 0, qI 0]]) (fun r n h' => r = none ∧ n = n0 + 12 ∧ ∃ w', RelC w' m_new ∧ h' = q_put h b (wblk b w')) qNo := by
  refine ct_of (by decide +kernel) rfl rfl (Nat.le_of_ble_eq_true rfl) ?_
  show Ev mX1_init 1 0 [some (qR b 0), none] [] (n0 + 1) (q_put h b [eO 1 [qI 0, qN, qN, qN, qN, qN, qN, qI 0, qI 0, qN, qN, qN, qN, qN, qI 0, qI 0, qI 0, qI 0]]) 11 293 _ _
  refine e_aload0 dX1_init_0 ?_
  refine e_objInit lkX1_3 w_oi w_oc dX1_init_1 (by decide) (by decide) ?_
  refine e_aload0 dX1_init_4 ?_
  refine e_bipush (v := nI 8) dX1_init_5 (by decide) ?_
  refine e_newint b 1 w_ai dX1_init_7 rfl (by decide) (by omega) (htb 1 (by decide)) (by rw [q_put_at]; rfl) (by decide) (by decide) ?_
  rw [q_push_put]
  refine e_putfieldI rfl (fun _ _ _ q => by cases q; rfl) flX1_9 dX1_init_9 rfl (Nat.le_of_ble_eq_true rfl) (fun _ => rfl) (fun _ => rfl) ?_
  show Ev mX1_init 1 12 [some (qR b 0), none] [] (n0 + 1 + 1) (q_put h b [eO 1 [qI 0, qR b 1, qN, qN, qN, qN, qN, qI 0, qI 0, qN, qN, qN, qN, qN, qI 0, qI 0, qI 0, qI 0], eI 8 (fun _ => 0)]) 10 285 _ _
  refine e_aload0 dX1_init_12 ?_
  refine e_bipush (v := nI 8) dX1_init_13 (by decide) ?_
  refine e_newint b 2 w_ai dX1_init_15 rfl (by decide) (by omega) (htb 2 (by decide)) (by rw [q_put_at]; rfl) (by decide) (by decide) ?_
  rw [q_push_put]
  refine e_putfieldI rfl (fun _ _ _ q => by cases q; rfl) flX1_15 dX1_init_17 rfl (Nat.le_of_ble_eq_true rfl) (fun _ => rfl) (fun _ => rfl) ?_
  show Ev mX1_init 1 20 [some (qR b 0), none] [] (n0 + 2 + 1) (q_put h b [eO 1 [qI 0, qR b 1, qR b 2, qN, qN, qN, qN, qI 0, qI 0, qN, qN, qN, qN, qN, qI 0, qI 0, qI 0, qI 0], eI 8 (fun _ => 0), eI 8 (fun _ => 0)]) 9 277 _ _
  refine e_aload0 dX1_init_20 ?_
  refine e_bipush (v := nI 32) dX1_init_21 (by decide) ?_
  refine e_newint b 3 w_ai dX1_init_23 rfl (by decide) (by omega) (htb 3 (by decide)) (by rw [q_put_at]; rfl) (by decide) (by decide) ?_
  rw [q_push_put]
  refine e_putfieldI rfl (fun _ _ _ q => by cases q; rfl) flX1_18 dX1_init_25 rfl (Nat.le_of_ble_eq_true rfl) (fun _ => rfl) (fun _ => rfl) ?_
  show Ev mX1_init 1 28 [some (qR b 0), none] [] (n0 + 3 + 1) (q_put h b [eO 1 [qI 0, qR b 1, qR b 2, qR b 3, qN, qN, qN, qI 0, qI 0, qN, qN, qN, qN, qN, qI 0, qI 0, qI 0, qI 0], eI 8 (fun _ => 0), eI 8 (fun _ => 0), eI 32 (fun _ => 0)]) 8 245 _ _
  refine e_aload0 dX1_init_28 ?_
  refine e_bipush (v := nI 8) dX1_init_29 (by decide) ?_
  refine e_newint b 4 w_ai dX1_init_31 rfl (by decide) (by omega) (htb 4 (by decide)) (by rw [q_put_at]; rfl) (by decide) (by decide) ?_
  rw [q_push_put]
  refine e_putfieldI rfl (fun _ _ _ q => by cases q; rfl) flX1_21 dX1_init_33 rfl (Nat.le_of_ble_eq_true rfl) (fun _ => rfl) (fun _ => rfl) ?_
  show Ev mX1_init 1 36 [some (qR b 0), none] [] (n0 + 4 + 1) (q_put h b [eO 1 [qI 0, qR b 1, qR b 2, qR b 3, qR b 4, qN, qN, qI 0, qI 0, qN, qN, qN, qN, qN, qI 0, qI 0, qI 0, qI 0], eI 8 (fun _ => 0), eI 8 (fun _ => 0), eI 32 (fun _ => 0), eI 8 (fun _ => 0)]) 7 237 _ _
  refine e_aload0 dX1_init_36 ?_
  refine e_bipush (v := nI 8) dX1_init_37 (by decide) ?_
  refine e_newint b 5 w_ai dX1_init_39 rfl (by decide) (by omega) (htb 5 (by decide)) (by rw [q_put_at]; rfl) (by decide) (by decide) ?_
  rw [q_push_put]
  refine e_putfieldI rfl (fun _ _ _ q => by cases q; rfl) flX1_24 dX1_init_41 rfl (Nat.le_of_ble_eq_true rfl) (fun _ => rfl) (fun _ => rfl) ?_
  show Ev mX1_init 1 44 [some (qR b 0), none] [] (n0 + 5 + 1) (q_put h b [eO 1 [qI 0, qR b 1, qR b 2, qR b 3, qR b 4, qR b 5, qN, qI 0, qI 0, qN, qN, qN, qN, qN, qI 0, qI 0, qI 0, qI 0], eI 8 (fun _ => 0), eI 8 (fun _ => 0), eI 32 (fun _ => 0), eI 8 (fun _ => 0), eI 8 (fun _ => 0)]) 6 229 _ _
  refine e_aload0 dX1_init_44 ?_
  refine e_bipush (v := nI 8) dX1_init_45 (by decide) ?_
  refine e_newint b 6 w_ai dX1_init_47 rfl (by decide) (by omega) (htb 6 (by decide)) (by rw [q_put_at]; rfl) (by decide) (by decide) ?_
  rw [q_push_put]
  refine e_putfieldI rfl (fun _ _ _ q => by cases q; rfl) flX1_27 dX1_init_49 rfl (Nat.le_of_ble_eq_true rfl) (fun _ => rfl) (fun _ => rfl) ?_
  show Ev mX1_init 1 52 [some (qR b 0), none] [] (n0 + 6 + 1) (q_put h b [eO 1 [qI 0, qR b 1, qR b 2, qR b 3, qR b 4, qR b 5, qR b 6, qI 0, qI 0, qN, qN, qN, qN, qN, qI 0, qI 0, qI 0, qI 0], eI 8 (fun _ => 0), eI 8 (fun _ => 0), eI 32 (fun _ => 0), eI 8 (fun _ => 0), eI 8 (fun _ => 0), eI 8 (fun _ => 0)]) 5 221 _ _
  refine e_aload0 dX1_init_52 ?_
  refine e_iconst (z := 4) dX1_init_53 ?_
  refine e_newint b 7 w_ai dX1_init_54 rfl (by decide) (by omega) (htb 7 (by decide)) (by rw [q_put_at]; rfl) (by decide) (by decide) ?_
  rw [q_push_put]
  refine e_putfieldI rfl (fun _ _ _ q => by cases q; rfl) flX1_30 dX1_init_56 rfl (Nat.le_of_ble_eq_true rfl) (fun _ => rfl) (fun _ => rfl) ?_
  show Ev mX1_init 1 59 [some (qR b 0), none] [] (n0 + 7 + 1) (q_put h b [eO 1 [qI 0, qR b 1, qR b 2, qR b 3, qR b 4, qR b 5, qR b 6, qI 0, qI 0, qR b 7, qN, qN, qN, qN, qI 0, qI 0, qI 0, qI 0], eI 8 (fun _ => 0), eI 8 (fun _ => 0), eI 32 (fun _ => 0), eI 8 (fun _ => 0), eI 8 (fun _ => 0), eI 8 (fun _ => 0), eI 4 (fun _ => 0)]) 4 217 _ _
  refine e_aload0 dX1_init_59 ?_
  refine e_bipush (v := nI 32) dX1_init_60 (by decide) ?_
  refine e_newint b 8 w_ai dX1_init_62 rfl (by decide) (by omega) (htb 8 (by decide)) (by rw [q_put_at]; rfl) (by decide) (by decide) ?_
  rw [q_push_put]
  refine e_putfieldI rfl (fun _ _ _ q => by cases q; rfl) flX1_33 dX1_init_64 rfl (Nat.le_of_ble_eq_true rfl) (fun _ => rfl) (fun _ => rfl) ?_
  show Ev mX1_init 1 67 [some (qR b 0), none] [] (n0 + 8 + 1) (q_put h b [eO 1 [qI 0, qR b 1, qR b 2, qR b 3, qR b 4, qR b 5, qR b 6, qI 0, qI 0, qR b 7, qR b 8, qN, qN, qN, qI 0, qI 0, qI 0, qI 0], eI 8 (fun _ => 0), eI 8 (fun _ => 0), eI 32 (fun _ => 0), eI 8 (fun _ => 0), eI 8 (fun _ => 0), eI 8 (fun _ => 0), eI 4 (fun _ => 0), eI 32 (fun _ => 0)]) 3 185 _ _
  refine e_aload0 dX1_init_67 ?_
  refine e_bipush (v := nI 120) dX1_init_68 (by decide) ?_
  refine e_newint b 9 w_ai dX1_init_70 rfl (by decide) (by omega) (htb 9 (by decide)) (by rw [q_put_at]; rfl) (by decide) (by decide) ?_
  rw [q_push_put]
  refine e_putfieldI rfl (fun _ _ _ q => by cases q; rfl) flX1_36 dX1_init_72 rfl (Nat.le_of_ble_eq_true rfl) (fun _ => rfl) (fun _ => rfl) ?_
  show Ev mX1_init 1 75 [some (qR b 0), none] [] (n0 + 9 + 1) (q_put h b [eO 1 [qI 0, qR b 1, qR b 2, qR b 3, qR b 4, qR b 5, qR b 6, qI 0, qI 0, qR b 7, qR b 8, qR b 9, qN, qN, qI 0, qI 0, qI 0, qI 0], eI 8 (fun _ => 0), eI 8 (fun _ => 0), eI 32 (fun _ => 0), eI 8 (fun _ => 0), eI 8 (fun _ => 0), eI 8 (fun _ => 0), eI 4 (fun _ => 0), eI 32 (fun _ => 0), eI 120 (fun _ => 0)]) 2 65 _ _
  refine e_aload0 dX1_init_75 ?_
  refine e_iconst (z := 5) dX1_init_76 ?_
  refine e_newint b 10 w_ai dX1_init_77 rfl (by decide) (by omega) (htb 10 (by decide)) (by rw [q_put_at]; rfl) (by decide) (by decide) ?_
  rw [q_push_put]
  refine e_putfieldI rfl (fun _ _ _ q => by cases q; rfl) flX1_39 dX1_init_79 rfl (Nat.le_of_ble_eq_true rfl) (fun _ => rfl) (fun _ => rfl) ?_
  show Ev mX1_init 1 82 [some (qR b 0), none] [] (n0 + 10 + 1) (q_put h b [eO 1 [qI 0, qR b 1, qR b 2, qR b 3, qR b 4, qR b 5, qR b 6, qI 0, qI 0, qR b 7, qR b 8, qR b 9, qR b 10, qN, qI 0, qI 0, qI 0, qI 0], eI 8 (fun _ => 0), eI 8 (fun _ => 0), eI 32 (fun _ => 0), eI 8 (fun _ => 0), eI 8 (fun _ => 0), eI 8 (fun _ => 0), eI 4 (fun _ => 0), eI 32 (fun _ => 0), eI 120 (fun _ => 0), eI 5 (fun _ => 0)]) 1 60 _ _
  refine e_aload0 dX1_init_82 ?_
  refine e_bipush (v := nI 60) dX1_init_83 (by decide) ?_
  refine e_newint b 11 w_ai dX1_init_85 rfl (by decide) (by omega) (htb 11 (by decide)) (by rw [q_put_at]; rfl) (by decide) (by decide) ?_
  rw [q_push_put]
  refine e_putfieldI rfl (fun _ _ _ q => by cases q; rfl) flX1_42 dX1_init_87 rfl (Nat.le_of_ble_eq_true rfl) (fun _ => rfl) (fun _ => rfl) ?_
  show Ev mX1_init 1 90 [some (qR b 0), none] [] (n0 + 11 + 1) (q_put h b [eO 1 [qI 0, qR b 1, qR b 2, qR b 3, qR b 4, qR b 5, qR b 6, qI 0, qI 0, qR b 7, qR b 8, qR b 9, qR b 10, qR b 11, qI 0, qI 0, qI 0, qI 0], eI 8 (fun _ => 0), eI 8 (fun _ => 0), eI 32 (fun _ => 0), eI 8 (fun _ => 0), eI 8 (fun _ => 0), eI 8 (fun _ => 0), eI 4 (fun _ => 0), eI 32 (fun _ => 0), eI 120 (fun _ => 0), eI 5 (fun _ => 0), eI 60 (fun _ => 0)]) 0 0 _ _
  refine e_aload0 dX1_init_90 ?_
  refine e_bipush (v := nI 31) dX1_init_91 (by decide) ?_
  refine e_putfieldF flX1_45 dX1_init_93 rfl (Nat.le_of_ble_eq_true rfl) (fun _ => rfl) (fun _ => rfl) ?_
  refine e_iconst (z := 0) dX1_init_96 ?_
  refine e_istore1 dX1_init_97 rfl (by decide) ?_
  have H : ∀ (m i : Nat) (f : Nat → Int32), i ≤ 4 → m = 4 - i → (∀ s, s < 4 → f s = if s < i then nI 100 else 0) → Ev mX1_init 1 98 [some (qR b 0), some (qI (nI i))] [] (n0 + 12) (q_put h b (wblk b (w_new f))) 0 0 (fun r n h' => r = none ∧ n = n0 + 12 ∧ ∃ w', RelC w' m_new ∧ h' = q_put h b (wblk b w')) qNo := by
    intro m
    induction m using Nat.strongRecOn with
    | _ m ih =>
    intro i f hi hm hf
    refine e_iload1 dX1_init_98 ?_
    refine e_iconst (z := 4) dX1_init_99 ?_
    first | refine e_icmp_geN 117 dX1_init_100 (by decide) (by omega) (by omega) (fun hc100 => ?_) (fun hc100 => ?_) | refine e_icmp_ge 117 dX1_init_100 (by decide) (fun hc100 => ?_) (fun hc100 => ?_)
    · refine e_vret dX1_init_117 rfl ?_
      exact ⟨rfl, rfl, w_new f, relC_new (fun s hs => by rw [hf s hs, if_pos (by omega)]), rfl⟩
    · refine e_aload0 dX1_init_103 ?_
      refine e_getfieldF flX1_30 dX1_init_104 rfl rfl ?_
      refine e_iload1 dX1_init_107 ?_
      refine e_bipush (v := nI 100) dX1_init_108 (by decide) ?_
      refine e_iastoreN dX1_init_110 rfl (by omega) (by decide) ?_
      first | refine e_iinc1N (z := 1) dX1_init_111 rfl (by decide) ?_ | refine e_iinc1 dX1_init_111 rfl rfl (by decide) ?_
      refine e_goto 98 dX1_init_114 (by decide) ?_
      refine ih _ (by omega) (i + 1) (upd f i (nI 100)) (by omega) rfl (fun s hs => ?_)
      by_cases q : s = i
      · rw [q, upd_same, if_pos (by omega)]
      · rw [upd_ne q, hf s hs]; by_cases q2 : s < i
        · rw [if_pos q2, if_pos (by omega)]
        · rw [if_neg q2, if_neg (by omega)]
  exact H _ 0 (fun _ => 0) (Nat.zero_le _) rfl (fun s _ => by rw [if_neg (by omega)])
set_option maxRecDepth 20000 in
theorem w_initReader (h : qB) (b o : Fin 16) (n : Nat) {fs : List qV} (hl : fs.length = 5) (hF : (h b)[o.val]? = some (eO 0 fs)) : Ct mX0_init 1 0 0 [qR b o] n h (fun r n' h' => r = none ∧ n' = n ∧ h' = q_up h (b, o) (eO 0 (fs.set 0 (qI (nI 0))))) qNo := by
  refine ct_of (by decide +kernel) rfl rfl (Nat.le_of_ble_eq_true rfl) ?_
  show Ev mX0_init 1 0 [some (qR b o)] [] n h 0 0 _ _
  refine e_aload0 dX0_init_0 ?_
  refine e_objInit lkX0_3 w_oi w_oc dX0_init_1 (by decide) (by decide) ?_
  refine e_aload0 dX0_init_4 ?_
  refine e_iconst (z := 0) dX0_init_5 ?_
  refine e_putfield flX0_11 dX0_init_6 hF (by omega) (fun _ => rfl) (fun _ => rfl) ?_
  refine e_vret dX0_init_9 rfl ?_
  exact ⟨rfl, rfl, rfl⟩
