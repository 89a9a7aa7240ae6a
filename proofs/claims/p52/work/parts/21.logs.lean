def oC (pi : Nat → Option qK) (buf : Nat → Int32) (cnt sn len : Int32) (rd : Nat → Int32) : List qE := [eO 2 [qR 1 0, qR 2 0, qR 3 0, qR 4 0, qR 0 1, qI cnt, qI sn, qR 0 2, qI len, qR 0 3], eQ 6 pi, eI 60 buf, eO 0 [qI (rd 0), qI (rd 1), qI (rd 2), qI (rd 3), qI (rd 4)]]
def p_new : Nat → Option qK := (fun j => if j = 5 then some ((10 : Fin 16), (0 : Fin 16)) else (fun j => if j = 4 then some ((9 : Fin 16), (0 : Fin 16)) else (fun j => if j = 3 then some ((8 : Fin 16), (0 : Fin 16)) else (fun j => if j = 2 then some ((7 : Fin 16), (0 : Fin 16)) else (fun j => if j = 1 then some ((6 : Fin 16), (0 : Fin 16)) else (fun j => if j = 0 then some ((5 : Fin 16), (0 : Fin 16)) else (fun _ => none) j) j) j) j) j) j)
set_option maxRecDepth 20000 in
set_option maxHeartbeats 4000000 in
theorem w_initLogs (h : qB) (w0 : Fin 16 → qw) (hb : ∀ b : Fin 16, 1 ≤ b.val → b.val ≤ 10 → h b = []) : Ct mX2_init 3 123 3181 [qR 0 0] 1 (hK h [eO 2 [qN, qN, qN, qN, qN, qI 0, qI 0, qN, qI 0, qN]] w0 0) (fun r n h' => r = none ∧ n = 124 ∧ ∃ w, (∀ b : Fin 16, 1 ≤ b.val → b.val ≤ 10 → RelC (w b) m_new) ∧ h' = hK h (oC p_new (fun _ => 0) (nI 0) (nI 0) (nI 0) (fun j => if j = 0 then nI 0 else 0)) w 10) qNo := by
  refine ct_of (by decide +kernel) rfl rfl (Nat.le_of_ble_eq_true rfl) ?_
  show Ev mX2_init 3 0 [some (qR 0 0), none] [] 1 (hK h [eO 2 [qN, qN, qN, qN, qN, qI 0, qI 0, qN, qI 0, qN]] w0 0) 123 3181 _ _
  refine e_aload0 dX2_init_0 ?_
  refine e_objInit lkX2_1 w_oi w_oc dX2_init_1 (by decide) (by decide) ?_
  refine e_aload0 dX2_init_4 ?_
  refine e_newW 1 rfl rfl rfl (hb 1 (by decide) (by decide)) (by decide) (by decide) dX2_init_5 dX2_init_8 dX2_init_9 (by decide) (by decide) (by decide) (by decide) (fun x1 hx1 => ?_)
  refine e_putI0 rfl (fun _ _ _ q => by cases q; rfl) flX2_10 dX2_init_12 rfl (Nat.le_of_ble_eq_true rfl) (fun _ => rfl) (fun _ => rfl) ?_
  show Ev mX2_init 3 15 [some (qR 0 0), none] [] 13 (hK h [eO 2 [qR 1 0, qN, qN, qN, qN, qI 0, qI 0, qN, qI 0, qN]] (uw w0 1 x1) 1) 111 2870 _ _
  refine e_aload0 dX2_init_15 ?_
  refine e_newW 2 rfl rfl rfl (hb 2 (by decide) (by decide)) (by decide) (by decide) dX2_init_16 dX2_init_19 dX2_init_20 (by decide) (by decide) (by decide) (by decide) (fun x2 hx2 => ?_)
  refine e_putI0 rfl (fun _ _ _ q => by cases q; rfl) flX2_16 dX2_init_23 rfl (Nat.le_of_ble_eq_true rfl) (fun _ => rfl) (fun _ => rfl) ?_
  show Ev mX2_init 3 26 [some (qR 0 0), none] [] 25 (hK h [eO 2 [qR 1 0, qR 2 0, qN, qN, qN, qI 0, qI 0, qN, qI 0, qN]] (uw (uw w0 1 x1) 2 x2) 2) 99 2559 _ _
  refine e_aload0 dX2_init_26 ?_
  refine e_newW 3 rfl rfl rfl (hb 3 (by decide) (by decide)) (by decide) (by decide) dX2_init_27 dX2_init_30 dX2_init_31 (by decide) (by decide) (by decide) (by decide) (fun x3 hx3 => ?_)
  refine e_putI0 rfl (fun _ _ _ q => by cases q; rfl) flX2_19 dX2_init_34 rfl (Nat.le_of_ble_eq_true rfl) (fun _ => rfl) (fun _ => rfl) ?_
  show Ev mX2_init 3 37 [some (qR 0 0), none] [] 37 (hK h [eO 2 [qR 1 0, qR 2 0, qR 3 0, qN, qN, qI 0, qI 0, qN, qI 0, qN]] (uw (uw (uw w0 1 x1) 2 x2) 3 x3) 3) 87 2248 _ _
  refine e_aload0 dX2_init_37 ?_
  refine e_newW 4 rfl rfl rfl (hb 4 (by decide) (by decide)) (by decide) (by decide) dX2_init_38 dX2_init_41 dX2_init_42 (by decide) (by decide) (by decide) (by decide) (fun x4 hx4 => ?_)
  refine e_putI0 rfl (fun _ _ _ q => by cases q; rfl) flX2_22 dX2_init_45 rfl (Nat.le_of_ble_eq_true rfl) (fun _ => rfl) (fun _ => rfl) ?_
  show Ev mX2_init 3 48 [some (qR 0 0), none] [] 49 (hK h [eO 2 [qR 1 0, qR 2 0, qR 3 0, qR 4 0, qN, qI 0, qI 0, qN, qI 0, qN]] (uw (uw (uw (uw w0 1 x1) 2 x2) 3 x3) 4 x4) 4) 75 1937 _ _
  refine e_aload0 dX2_init_48 ?_
  refine e_bipush (v := nI 6) dX2_init_49 (by decide) ?_
  refine e_newrow 0 1 (by obtain ⟨CC, T, ty0, c1, c2, _⟩ := cnX2_7; cases c1; exact c2) dX2_init_51 rfl (by decide) (by decide) (by decide) (by rw [hK_0]; rfl) (by decide) (by decide) ?_
  rw [hK_push0]
  refine e_putI0 rfl (fun _ _ _ q => by cases q; rfl) flX2_25 dX2_init_54 rfl (Nat.le_of_ble_eq_true rfl) (fun _ => rfl) (fun _ => rfl) ?_
  show Ev mX2_init 3 57 [some (qR 0 0), none] [] 50 (hK h [eO 2 [qR 1 0, qR 2 0, qR 3 0, qR 4 0, qR 0 1, qI 0, qI 0, qN, qI 0, qN], eQ 6 (fun _ => none)] (uw (uw (uw (uw w0 1 x1) 2 x2) 3 x3) 4 x4) 4) 74 1931 _ _
  refine e_aload0 dX2_init_57 ?_
  refine e_bipush (v := nI 60) dX2_init_58 (by decide) ?_
  refine e_newint 0 2 w_ai dX2_init_60 rfl (by decide) (by decide) (by decide) (by rw [hK_0]; rfl) (by decide) (by decide) ?_
  rw [hK_push0]
  refine e_putI0 rfl (fun _ _ _ q => by cases q; rfl) flX2_29 dX2_init_62 rfl (Nat.le_of_ble_eq_true rfl) (fun _ => rfl) (fun _ => rfl) ?_
  show Ev mX2_init 3 65 [some (qR 0 0), none] [] 51 (hK h [eO 2 [qR 1 0, qR 2 0, qR 3 0, qR 4 0, qR 0 1, qI 0, qI 0, qR 0 2, qI 0, qN], eQ 6 (fun _ => none), eI 60 (fun _ => 0)] (uw (uw (uw (uw w0 1 x1) 2 x2) 3 x3) 4 x4) 4) 73 1871 _ _
  refine e_aload0 dX2_init_65 ?_
  refine e_new 0 3 cnX2_33 dX2_init_66 fs_new0 (by decide) (by decide) (by rw [hK_0]; rfl) (by decide) (by decide) ?_
  rw [hK_push0]
  refine e_dup dX2_init_69 rfl ?_
  refine e_callI (as := []) fX0_init lkX2_35 (w_initReader _ 0 3 _ (fs := [qI 0, qI 0, qI 0, qI 0, qI 0]) rfl (by rw [hK_0]; rfl)) rfl dX2_init_70 (by decide) (by decide) (by decide) (by decide) (by intro x hx; cases hx) (fun v n' h' q _ => by rw [q.2.1]; omega) (fun _ _ _ q => q.elim) ?_
  rintro v n' h' ⟨rfl, rfl, rfl⟩
  rw [hK_up0]
  refine e_putI0 rfl (fun _ _ _ q => by cases q; rfl) flX2_36 dX2_init_73 rfl (Nat.le_of_ble_eq_true rfl) (fun _ => rfl) (fun _ => rfl) ?_
  show Ev mX2_init 3 76 [some (qR 0 0), none] [] 52 (hK h [eO 2 [qR 1 0, qR 2 0, qR 3 0, qR 4 0, qR 0 1, qI 0, qI 0, qR 0 2, qI 0, qR 0 3], eQ 6 (fun _ => none), eI 60 (fun _ => 0), eO 0 [qI (nI 0), qI 0, qI 0, qI 0, qI 0]] (uw (uw (uw (uw w0 1 x1) 2 x2) 3 x3) 4 x4) 4) 72 1866 _ _
  refine e_iconst (z := 0) dX2_init_76 ?_
  refine e_istore1 dX2_init_77 rfl (by decide) ?_
  show Ev mX2_init 3 78 [some (qR 0 0), some (qI (nI 0))] [] 52 (hK h [eO 2 [qR 1 0, qR 2 0, qR 3 0, qR 4 0, qR 0 1, qI 0, qI 0, qR 0 2, qI 0, qR 0 3], eQ 6 (fun _ => none), eI 60 (fun _ => 0), eO 0 [qI (nI 0), qI 0, qI 0, qI 0, qI 0]] (uw (uw (uw (uw w0 1 x1) 2 x2) 3 x3) 4 x4) 4) 72 1866 _ _
  refine e_iload1 dX2_init_78 ?_
  refine e_bipush (v := nI 6) dX2_init_79 (by decide) ?_
  refine e_icmp_geN 103 dX2_init_81 (by decide) (by decide) (by decide) (fun q => absurd q (by decide)) (fun _ => ?_)
  refine e_aload0 dX2_init_84 ?_
  refine e_get0 flX2_25 dX2_init_85 rfl rfl ?_
  refine e_iload1 dX2_init_88 ?_
  refine e_newW 5 rfl rfl rfl (hb 5 (by decide) (by decide)) (by decide) (by decide) dX2_init_89 dX2_init_92 dX2_init_93 (by decide) (by decide) (by decide) (by decide) (fun x5 hx5 => ?_)
  refine e_aastore dX2_init_96 (by rw [hK_0]; rfl) (by rw [hK_at (by decide) (by decide)]; rfl) (by decide) (by decide) ?_
  rw [hK_up0]
  refine e_iinc1N (z := 1) dX2_init_97 rfl (by decide) ?_
  refine e_goto 78 dX2_init_100 (by decide) ?_
  show Ev mX2_init 3 78 [some (qR 0 0), some (qI (nI 1))] [] 64 (hK h [eO 2 [qR 1 0, qR 2 0, qR 3 0, qR 4 0, qR 0 1, qI 0, qI 0, qR 0 2, qI 0, qR 0 3], eQ 6 (fun j => if j = 0 then some ((5 : Fin 16), (0 : Fin 16)) else (fun _ => none) j), eI 60 (fun _ => 0), eO 0 [qI (nI 0), qI 0, qI 0, qI 0, qI 0]] (uw (uw (uw (uw (uw w0 1 x1) 2 x2) 3 x3) 4 x4) 5 x5) 5) 60 1555 _ _
  refine e_iload1 dX2_init_78 ?_
  refine e_bipush (v := nI 6) dX2_init_79 (by decide) ?_
  refine e_icmp_geN 103 dX2_init_81 (by decide) (by decide) (by decide) (fun q => absurd q (by decide)) (fun _ => ?_)
  refine e_aload0 dX2_init_84 ?_
  refine e_get0 flX2_25 dX2_init_85 rfl rfl ?_
  refine e_iload1 dX2_init_88 ?_
  refine e_newW 6 rfl rfl rfl (hb 6 (by decide) (by decide)) (by decide) (by decide) dX2_init_89 dX2_init_92 dX2_init_93 (by decide) (by decide) (by decide) (by decide) (fun x6 hx6 => ?_)
  refine e_aastore dX2_init_96 (by rw [hK_0]; rfl) (by rw [hK_at (by decide) (by decide)]; rfl) (by decide) (by decide) ?_
  rw [hK_up0]
  refine e_iinc1N (z := 1) dX2_init_97 rfl (by decide) ?_
  refine e_goto 78 dX2_init_100 (by decide) ?_
  show Ev mX2_init 3 78 [some (qR 0 0), some (qI (nI 2))] [] 76 (hK h [eO 2 [qR 1 0, qR 2 0, qR 3 0, qR 4 0, qR 0 1, qI 0, qI 0, qR 0 2, qI 0, qR 0 3], eQ 6 (fun j => if j = 1 then some ((6 : Fin 16), (0 : Fin 16)) else (fun j => if j = 0 then some ((5 : Fin 16), (0 : Fin 16)) else (fun _ => none) j) j), eI 60 (fun _ => 0), eO 0 [qI (nI 0), qI 0, qI 0, qI 0, qI 0]] (uw (uw (uw (uw (uw (uw w0 1 x1) 2 x2) 3 x3) 4 x4) 5 x5) 6 x6) 6) 48 1244 _ _
  refine e_iload1 dX2_init_78 ?_
  refine e_bipush (v := nI 6) dX2_init_79 (by decide) ?_
  refine e_icmp_geN 103 dX2_init_81 (by decide) (by decide) (by decide) (fun q => absurd q (by decide)) (fun _ => ?_)
  refine e_aload0 dX2_init_84 ?_
  refine e_get0 flX2_25 dX2_init_85 rfl rfl ?_
  refine e_iload1 dX2_init_88 ?_
  refine e_newW 7 rfl rfl rfl (hb 7 (by decide) (by decide)) (by decide) (by decide) dX2_init_89 dX2_init_92 dX2_init_93 (by decide) (by decide) (by decide) (by decide) (fun x7 hx7 => ?_)
  refine e_aastore dX2_init_96 (by rw [hK_0]; rfl) (by rw [hK_at (by decide) (by decide)]; rfl) (by decide) (by decide) ?_
  rw [hK_up0]
  refine e_iinc1N (z := 1) dX2_init_97 rfl (by decide) ?_
  refine e_goto 78 dX2_init_100 (by decide) ?_
  show Ev mX2_init 3 78 [some (qR 0 0), some (qI (nI 3))] [] 88 (hK h [eO 2 [qR 1 0, qR 2 0, qR 3 0, qR 4 0, qR 0 1, qI 0, qI 0, qR 0 2, qI 0, qR 0 3], eQ 6 (fun j => if j = 2 then some ((7 : Fin 16), (0 : Fin 16)) else (fun j => if j = 1 then some ((6 : Fin 16), (0 : Fin 16)) else (fun j => if j = 0 then some ((5 : Fin 16), (0 : Fin 16)) else (fun _ => none) j) j) j), eI 60 (fun _ => 0), eO 0 [qI (nI 0), qI 0, qI 0, qI 0, qI 0]] (uw (uw (uw (uw (uw (uw (uw w0 1 x1) 2 x2) 3 x3) 4 x4) 5 x5) 6 x6) 7 x7) 7) 36 933 _ _
  refine e_iload1 dX2_init_78 ?_
  refine e_bipush (v := nI 6) dX2_init_79 (by decide) ?_
  refine e_icmp_geN 103 dX2_init_81 (by decide) (by decide) (by decide) (fun q => absurd q (by decide)) (fun _ => ?_)
  refine e_aload0 dX2_init_84 ?_
  refine e_get0 flX2_25 dX2_init_85 rfl rfl ?_
  refine e_iload1 dX2_init_88 ?_
  refine e_newW 8 rfl rfl rfl (hb 8 (by decide) (by decide)) (by decide) (by decide) dX2_init_89 dX2_init_92 dX2_init_93 (by decide) (by decide) (by decide) (by decide) (fun x8 hx8 => ?_)
  refine e_aastore dX2_init_96 (by rw [hK_0]; rfl) (by rw [hK_at (by decide) (by decide)]; rfl) (by decide) (by decide) ?_
  rw [hK_up0]
  refine e_iinc1N (z := 1) dX2_init_97 rfl (by decide) ?_
  refine e_goto 78 dX2_init_100 (by decide) ?_
  show Ev mX2_init 3 78 [some (qR 0 0), some (qI (nI 4))] [] 100 (hK h [eO 2 [qR 1 0, qR 2 0, qR 3 0, qR 4 0, qR 0 1, qI 0, qI 0, qR 0 2, qI 0, qR 0 3], eQ 6 (fun j => if j = 3 then some ((8 : Fin 16), (0 : Fin 16)) else (fun j => if j = 2 then some ((7 : Fin 16), (0 : Fin 16)) else (fun j => if j = 1 then some ((6 : Fin 16), (0 : Fin 16)) else (fun j => if j = 0 then some ((5 : Fin 16), (0 : Fin 16)) else (fun _ => none) j) j) j) j), eI 60 (fun _ => 0), eO 0 [qI (nI 0), qI 0, qI 0, qI 0, qI 0]] (uw (uw (uw (uw (uw (uw (uw (uw w0 1 x1) 2 x2) 3 x3) 4 x4) 5 x5) 6 x6) 7 x7) 8 x8) 8) 24 622 _ _
  refine e_iload1 dX2_init_78 ?_
  refine e_bipush (v := nI 6) dX2_init_79 (by decide) ?_
  refine e_icmp_geN 103 dX2_init_81 (by decide) (by decide) (by decide) (fun q => absurd q (by decide)) (fun _ => ?_)
  refine e_aload0 dX2_init_84 ?_
  refine e_get0 flX2_25 dX2_init_85 rfl rfl ?_
  refine e_iload1 dX2_init_88 ?_
  refine e_newW 9 rfl rfl rfl (hb 9 (by decide) (by decide)) (by decide) (by decide) dX2_init_89 dX2_init_92 dX2_init_93 (by decide) (by decide) (by decide) (by decide) (fun x9 hx9 => ?_)
  refine e_aastore dX2_init_96 (by rw [hK_0]; rfl) (by rw [hK_at (by decide) (by decide)]; rfl) (by decide) (by decide) ?_
  rw [hK_up0]
  refine e_iinc1N (z := 1) dX2_init_97 rfl (by decide) ?_
  refine e_goto 78 dX2_init_100 (by decide) ?_
  show Ev mX2_init 3 78 [some (qR 0 0), some (qI (nI 5))] [] 112 (hK h [eO 2 [qR 1 0, qR 2 0, qR 3 0, qR 4 0, qR 0 1, qI 0, qI 0, qR 0 2, qI 0, qR 0 3], eQ 6 (fun j => if j = 4 then some ((9 : Fin 16), (0 : Fin 16)) else (fun j => if j = 3 then some ((8 : Fin 16), (0 : Fin 16)) else (fun j => if j = 2 then some ((7 : Fin 16), (0 : Fin 16)) else (fun j => if j = 1 then some ((6 : Fin 16), (0 : Fin 16)) else (fun j => if j = 0 then some ((5 : Fin 16), (0 : Fin 16)) else (fun _ => none) j) j) j) j) j), eI 60 (fun _ => 0), eO 0 [qI (nI 0), qI 0, qI 0, qI 0, qI 0]] (uw (uw (uw (uw (uw (uw (uw (uw (uw w0 1 x1) 2 x2) 3 x3) 4 x4) 5 x5) 6 x6) 7 x7) 8 x8) 9 x9) 9) 12 311 _ _
  refine e_iload1 dX2_init_78 ?_
  refine e_bipush (v := nI 6) dX2_init_79 (by decide) ?_
  refine e_icmp_geN 103 dX2_init_81 (by decide) (by decide) (by decide) (fun q => absurd q (by decide)) (fun _ => ?_)
  refine e_aload0 dX2_init_84 ?_
  refine e_get0 flX2_25 dX2_init_85 rfl rfl ?_
  refine e_iload1 dX2_init_88 ?_
  refine e_newW 10 rfl rfl rfl (hb 10 (by decide) (by decide)) (by decide) (by decide) dX2_init_89 dX2_init_92 dX2_init_93 (by decide) (by decide) (by decide) (by decide) (fun x10 hx10 => ?_)
  refine e_aastore dX2_init_96 (by rw [hK_0]; rfl) (by rw [hK_at (by decide) (by decide)]; rfl) (by decide) (by decide) ?_
  rw [hK_up0]
  refine e_iinc1N (z := 1) dX2_init_97 rfl (by decide) ?_
  refine e_goto 78 dX2_init_100 (by decide) ?_
  show Ev mX2_init 3 78 [some (qR 0 0), some (qI (nI 6))] [] 124 (hK h [eO 2 [qR 1 0, qR 2 0, qR 3 0, qR 4 0, qR 0 1, qI 0, qI 0, qR 0 2, qI 0, qR 0 3], eQ 6 (fun j => if j = 5 then some ((10 : Fin 16), (0 : Fin 16)) else (fun j => if j = 4 then some ((9 : Fin 16), (0 : Fin 16)) else (fun j => if j = 3 then some ((8 : Fin 16), (0 : Fin 16)) else (fun j => if j = 2 then some ((7 : Fin 16), (0 : Fin 16)) else (fun j => if j = 1 then some ((6 : Fin 16), (0 : Fin 16)) else (fun j => if j = 0 then some ((5 : Fin 16), (0 : Fin 16)) else (fun _ => none) j) j) j) j) j) j), eI 60 (fun _ => 0), eO 0 [qI (nI 0), qI 0, qI 0, qI 0, qI 0]] (uw (uw (uw (uw (uw (uw (uw (uw (uw (uw w0 1 x1) 2 x2) 3 x3) 4 x4) 5 x5) 6 x6) 7 x7) 8 x8) 9 x9) 10 x10) 10) 0 0 _ _
  refine e_iload1 dX2_init_78 ?_
  refine e_bipush (v := nI 6) dX2_init_79 (by decide) ?_
  refine e_icmp_geN 103 dX2_init_81 (by decide) (by decide) (by decide) (fun _ => ?_) (fun q => absurd q (by decide))
  refine e_aload0 dX2_init_103 ?_
  refine e_iconst (z := 0) dX2_init_104 ?_
  refine e_put0 flX2_40 dX2_init_105 rfl (Nat.le_of_ble_eq_true rfl) (fun _ => rfl) (fun _ => rfl) ?_
  show Ev mX2_init 3 108 [some (qR 0 0), some (qI (nI 6))] [] 124 (hK h [eO 2 [qR 1 0, qR 2 0, qR 3 0, qR 4 0, qR 0 1, qI (nI 0), qI 0, qR 0 2, qI 0, qR 0 3], eQ 6 (fun j => if j = 5 then some ((10 : Fin 16), (0 : Fin 16)) else (fun j => if j = 4 then some ((9 : Fin 16), (0 : Fin 16)) else (fun j => if j = 3 then some ((8 : Fin 16), (0 : Fin 16)) else (fun j => if j = 2 then some ((7 : Fin 16), (0 : Fin 16)) else (fun j => if j = 1 then some ((6 : Fin 16), (0 : Fin 16)) else (fun j => if j = 0 then some ((5 : Fin 16), (0 : Fin 16)) else (fun _ => none) j) j) j) j) j) j), eI 60 (fun _ => 0), eO 0 [qI (nI 0), qI 0, qI 0, qI 0, qI 0]] (uw (uw (uw (uw (uw (uw (uw (uw (uw (uw w0 1 x1) 2 x2) 3 x3) 4 x4) 5 x5) 6 x6) 7 x7) 8 x8) 9 x9) 10 x10) 10) 0 0 _ _
  refine e_aload0 dX2_init_108 ?_
  refine e_iconst (z := 0) dX2_init_109 ?_
  refine e_put0 flX2_44 dX2_init_110 rfl (Nat.le_of_ble_eq_true rfl) (fun _ => rfl) (fun _ => rfl) ?_
  show Ev mX2_init 3 113 [some (qR 0 0), some (qI (nI 6))] [] 124 (hK h [eO 2 [qR 1 0, qR 2 0, qR 3 0, qR 4 0, qR 0 1, qI (nI 0), qI (nI 0), qR 0 2, qI 0, qR 0 3], eQ 6 (fun j => if j = 5 then some ((10 : Fin 16), (0 : Fin 16)) else (fun j => if j = 4 then some ((9 : Fin 16), (0 : Fin 16)) else (fun j => if j = 3 then some ((8 : Fin 16), (0 : Fin 16)) else (fun j => if j = 2 then some ((7 : Fin 16), (0 : Fin 16)) else (fun j => if j = 1 then some ((6 : Fin 16), (0 : Fin 16)) else (fun j => if j = 0 then some ((5 : Fin 16), (0 : Fin 16)) else (fun _ => none) j) j) j) j) j) j), eI 60 (fun _ => 0), eO 0 [qI (nI 0), qI 0, qI 0, qI 0, qI 0]] (uw (uw (uw (uw (uw (uw (uw (uw (uw (uw w0 1 x1) 2 x2) 3 x3) 4 x4) 5 x5) 6 x6) 7 x7) 8 x8) 9 x9) 10 x10) 10) 0 0 _ _
  refine e_aload0 dX2_init_113 ?_
  refine e_iconst (z := 0) dX2_init_114 ?_
  refine e_put0 flX2_48 dX2_init_115 rfl (Nat.le_of_ble_eq_true rfl) (fun _ => rfl) (fun _ => rfl) ?_
  show Ev mX2_init 3 118 [some (qR 0 0), some (qI (nI 6))] [] 124 (hK h [eO 2 [qR 1 0, qR 2 0, qR 3 0, qR 4 0, qR 0 1, qI (nI 0), qI (nI 0), qR 0 2, qI (nI 0), qR 0 3], eQ 6 (fun j => if j = 5 then some ((10 : Fin 16), (0 : Fin 16)) else (fun j => if j = 4 then some ((9 : Fin 16), (0 : Fin 16)) else (fun j => if j = 3 then some ((8 : Fin 16), (0 : Fin 16)) else (fun j => if j = 2 then some ((7 : Fin 16), (0 : Fin 16)) else (fun j => if j = 1 then some ((6 : Fin 16), (0 : Fin 16)) else (fun j => if j = 0 then some ((5 : Fin 16), (0 : Fin 16)) else (fun _ => none) j) j) j) j) j) j), eI 60 (fun _ => 0), eO 0 [qI (nI 0), qI 0, qI 0, qI 0, qI 0]] (uw (uw (uw (uw (uw (uw (uw (uw (uw (uw w0 1 x1) 2 x2) 3 x3) 4 x4) 5 x5) 6 x6) 7 x7) 8 x8) 9 x9) 10 x10) 10) 0 0 _ _
  refine e_vret dX2_init_118 rfl ?_
  refine ⟨rfl, rfl, (uw (uw (uw (uw (uw (uw (uw (uw (uw (uw w0 1 x1) 2 x2) 3 x3) 4 x4) 5 x5) 6 x6) 7 x7) 8 x8) 9 x9) 10 x10), ?_, rfl⟩
  intro b h1 h2
  rcases (show b = (1 : Fin 16) ∨ b = (2 : Fin 16) ∨ b = (3 : Fin 16) ∨ b = (4 : Fin 16) ∨ b = (5 : Fin 16) ∨ b = (6 : Fin 16) ∨ b = (7 : Fin 16) ∨ b = (8 : Fin 16) ∨ b = (9 : Fin 16) ∨ b = (10 : Fin 16) by omega) with rfl | rfl | rfl | rfl | rfl | rfl | rfl | rfl | rfl | rfl
  · exact hx1
  · exact hx2
  · exact hx3
  · exact hx4
  · exact hx5
  · exact hx6
  · exact hx7
  · exact hx8
  · exact hx9
  · exact hx10
