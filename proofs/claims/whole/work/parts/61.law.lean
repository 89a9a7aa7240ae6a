/-! THE LAW: its loop and its start -/
def PZ : qP := fun r _ _ => r = some (qI (nI 1))
set_option maxRecDepth 20000 in
set_option maxHeartbeats 4000000 in
theorem L_loop {N : Nat} {xs : Nat → Int32} (hN : N ≤ 2048) : ∀ (m i : Nat), m = N - i → i ≤ N → ∀ (A : qA) (o : List qE) (w : Fin 16 → qw) (F : List qE) (out : Nat → Int64) (l5 l6 l7 l8 : Option qV), GA (600 * i) A → RA A o w → RB A F → Ev (mL_law N xs) 13 23 [some qS, some (qR 0 0), some (qR 11 0), some (qR 12 0), some (qI (nI i)), l5, l6, l7, l8] [] 132 (hL o w F out) (N - i) (6 * (N - i)) PZ qNo := by
  intro m
  induction m using Nat.strongRecOn with
  | _ m ih =>
    intro i hm hiN A o w F out l5 l6 l7 l8 hG hA hB
    refine e_iload4 dL_law_23 ?_
    refine e_aloadS dL_law_25 ?_
    refine e_slen rfl dL_law_26 ?_
    refine e_iconst (z := 4) dL_law_27 ?_
    refine e_isub dL_law_28 ?_
    refine e_icmp_gt 2505 dL_law_29 (by decide) (fun _ => ?_) (fun hc => ?_)
    · refine e_iconst (z := 1) dL_law_2505 ?_
      refine e_zret dL_law_2506 rfl rfl ?_
      exact rfl
    have hi := x_room hN (by omega) hc
    refine e_aloadS dL_law_32 ?_
    refine e_iload4 dL_law_33 ?_
    refine e_sldN dL_law_35 (by omega) hN ?_
    refine e_bipush (v := nI 63) dL_law_36 (by decide) ?_
    refine e_iand dL_law_38 ?_
    have hn : 600 * i < 2 ^ 31 := by omega
    have K : ∀ (A2 : qA) (o2 : List qE) (w2 : Fin 16 → qw) (F2 : List qE) (out2 : Nat → Int64) (a5 a6 a7 a8 : Option qV), GA (600 * i + 2400) A2 → RA A2 o2 w2 → RB A2 F2 → Ev (mL_law N xs) 13 2499 [some qS, some (qR 0 0), some (qR 11 0), some (qR 12 0), some (qI (nI i)), a5, a6, a7, a8] [] 132 (hL o2 w2 F2 out2) (N - (i + 4)) (6 * (N - (i + 4))) PZ qNo := by
      intro A2 o2 w2 F2 out2 a5 a6 a7 a8 hG2 hA2 hB2
      refine e_iinc4N (z := 4) dL_law_2499 rfl (Nat.le_of_ble_eq_true rfl) ?_
      refine e_goto 23 dL_law_2502 (by decide) ?_
      exact ih (N - (i + 4)) (by omega) (i + 4) rfl (by omega) A2 o2 w2 F2 out2 a5 a6 a7 a8 (by rw [show 600 * (i + 4) = 600 * i + 2400 by omega]; exact hG2) hA2 hB2
    obtain ⟨k, hk, ek⟩ := x_and63 (xs i)
    rw [ek]
    by_cases hk49 : k ≤ 48
    · rcases (show k = 0 ∨ k = 1 ∨ k = 2 ∨ k = 3 ∨ k = 4 ∨ k = 5 ∨ k = 6 ∨ k = 7 ∨ k = 8 ∨ k = 9 ∨ k = 10 ∨ k = 11 ∨ k = 12 ∨ k = 13 ∨ k = 14 ∨ k = 15 ∨ k = 16 ∨ k = 17 ∨ k = 18 ∨ k = 19 ∨ k = 20 ∨ k = 21 ∨ k = 22 ∨ k = 23 ∨ k = 24 ∨ k = 25 ∨ k = 26 ∨ k = 27 ∨ k = 28 ∨ k = 29 ∨ k = 30 ∨ k = 31 ∨ k = 32 ∨ k = 33 ∨ k = 34 ∨ k = 35 ∨ k = 36 ∨ k = 37 ∨ k = 38 ∨ k = 39 ∨ k = 40 ∨ k = 41 ∨ k = 42 ∨ k = 43 ∨ k = 44 ∨ k = 45 ∨ k = 46 ∨ k = 47 ∨ k = 48 by omega) with rfl | rfl | rfl | rfl | rfl | rfl | rfl | rfl | rfl | rfl | rfl | rfl | rfl | rfl | rfl | rfl | rfl | rfl | rfl | rfl | rfl | rfl | rfl | rfl | rfl | rfl | rfl | rfl | rfl | rfl | rfl | rfl | rfl | rfl | rfl | rfl | rfl | rfl | rfl | rfl | rfl | rfl | rfl | rfl | rfl | rfl | rfl | rfl | rfl
      · exact e_tableIn 248 dL_law_39 (by decide) (by decide) (off := 209) (by decide) (by decide) (ev_room (L_begin hN hn hG hA hB hi K) (by omega) (by omega))
      · exact e_tableIn 328 dL_law_39 (by decide) (by decide) (off := 289) (by decide) (by decide) (ev_room (L_giveUp hN hn hG hA hB hi K) (by omega) (by omega))
      · exact e_tableIn 384 dL_law_39 (by decide) (by decide) (off := 345) (by decide) (by decide) (ev_room (L_ask hN hn hG hA hB hi K) (by omega) (by omega))
      · exact e_tableIn 452 dL_law_39 (by decide) (by decide) (off := 413) (by decide) (by decide) (ev_room (L_deliver hN hn hG hA hB hi K) (by omega) (by omega))
      · exact e_tableIn 515 dL_law_39 (by decide) (by decide) (off := 476) (by decide) (by decide) (ev_room (L_deliverAll hN hn hG hA hB hi K) (by omega) (by omega))
      · exact e_tableIn 528 dL_law_39 (by decide) (by decide) (off := 489) (by decide) (by decide) (ev_room (L_lose hN hn hG hA hB hi K) (by omega) (by omega))
      · exact e_tableIn 584 dL_law_39 (by decide) (by decide) (off := 545) (by decide) (by decide) (ev_room (L_crash hN hn hG hA hB hi K) (by omega) (by omega))
      · exact e_tableIn 640 dL_law_39 (by decide) (by decide) (off := 601) (by decide) (by decide) (ev_room (L_recover hN hn hG hA hB hi K) (by omega) (by omega))
      · exact e_tableIn 696 dL_law_39 (by decide) (by decide) (off := 657) (by decide) (by decide) (ev_room (L_append hN hn hG hA hB hi K) (by omega) (by omega))
      · exact e_tableIn 752 dL_law_39 (by decide) (by decide) (off := 713) (by decide) (by decide) (ev_room (L_clearBuffer hN hn hG hA hB hi K) (by omega) (by omega))
      · exact e_tableIn 765 dL_law_39 (by decide) (by decide) (off := 726) (by decide) (by decide) (ev_room (L_firstError hN hn hG hA hB hi K) (by omega) (by omega))
      · exact e_tableIn 778 dL_law_39 (by decide) (by decide) (off := 739) (by decide) (by decide) (ev_room (L_runCourse hN hn hG hA hB hi K) (by omega) (by omega))
      · exact e_tableIn 822 dL_law_39 (by decide) (by decide) (off := 783) (by decide) (by decide) (ev_room (L_keep hN hn hG hA hB hi K) (by omega) (by omega))
      · exact e_tableIn 835 dL_law_39 (by decide) (by decide) (off := 796) (by decide) (by decide) (ev_room (L_goBack hN hn hG hA hB hi K) (by omega) (by omega))
      · exact e_tableIn 879 dL_law_39 (by decide) (by decide) (off := 840) (by decide) (by decide) (ev_room (L_undo hN hn hG hA hB hi K) (by omega) (by omega))
      · exact e_tableIn 923 dL_law_39 (by decide) (by decide) (off := 884) (by decide) (by decide) (ev_room (L_transfers hN hn hG hA hB hi K) (by omega) (by omega))
      · exact e_tableIn 936 dL_law_39 (by decide) (by decide) (off := 897) (by decide) (by decide) (ev_room (L_partners hN hn hG hA hB hi K) (by omega) (by omega))
      · exact e_tableIn 992 dL_law_39 (by decide) (by decide) (off := 953) (by decide) (by decide) (ev_room (L_share hN hn hG hA hB hi K) (by omega) (by omega))
      · exact e_tableIn 1060 dL_law_39 (by decide) (by decide) (off := 1021) (by decide) (by decide) (ev_room (L_isUp hN hn hG hA hB hi K) (by omega) (by omega))
      · exact e_tableIn 1123 dL_law_39 (by decide) (by decide) (off := 1084) (by decide) (by decide) (ev_room (L_amount hN hn hG hA hB hi K) (by omega) (by omega))
      · exact e_tableIn 1179 dL_law_39 (by decide) (by decide) (off := 1140) (by decide) (by decide) (ev_room (L_amountByLog hN hn hG hA hB hi K) (by omega) (by omega))
      · exact e_tableIn 1235 dL_law_39 (by decide) (by decide) (off := 1196) (by decide) (by decide) (ev_room (L_state hN hn hG hA hB hi K) (by omega) (by omega))
      · exact e_tableIn 1303 dL_law_39 (by decide) (by decide) (off := 1264) (by decide) (by decide) (ev_room (L_stateByLog hN hn hG hA hB hi K) (by omega) (by omega))
      · exact e_tableIn 1371 dL_law_39 (by decide) (by decide) (off := 1332) (by decide) (by decide) (ev_room (L_inDoubt hN hn hG hA hB hi K) (by omega) (by omega))
      · exact e_tableIn 1427 dL_law_39 (by decide) (by decide) (off := 1388) (by decide) (by decide) (ev_room (L_outcome hN hn hG hA hB hi K) (by omega) (by omega))
      · exact e_tableIn 1483 dL_law_39 (by decide) (by decide) (off := 1444) (by decide) (by decide) (ev_room (L_outcomeByStores hN hn hG hA hB hi K) (by omega) (by omega))
      · exact e_tableIn 1539 dL_law_39 (by decide) (by decide) (off := 1500) (by decide) (by decide) (ev_room (L_hasEnded hN hn hG hA hB hi K) (by omega) (by omega))
      · exact e_tableIn 1602 dL_law_39 (by decide) (by decide) (off := 1563) (by decide) (by decide) (ev_room (L_saidYes hN hn hG hA hB hi K) (by omega) (by omega))
      · exact e_tableIn 1658 dL_law_39 (by decide) (by decide) (off := 1619) (by decide) (by decide) (ev_room (L_saidDone hN hn hG hA hB hi K) (by omega) (by omega))
      · exact e_tableIn 1714 dL_law_39 (by decide) (by decide) (off := 1675) (by decide) (by decide) (ev_room (L_total hN hn hG hA hB hi K) (by omega) (by omega))
      · exact e_tableIn 1727 dL_law_39 (by decide) (by decide) (off := 1688) (by decide) (by decide) (ev_room (L_onTheWay hN hn hG hA hB hi K) (by omega) (by omega))
      · exact e_tableIn 1740 dL_law_39 (by decide) (by decide) (off := 1701) (by decide) (by decide) (ev_room (L_records hN hn hG hA hB hi K) (by omega) (by omega))
      · exact e_tableIn 1796 dL_law_39 (by decide) (by decide) (off := 1757) (by decide) (by decide) (ev_room (L_recordKind hN hn hG hA hB hi K) (by omega) (by omega))
      · exact e_tableIn 1864 dL_law_39 (by decide) (by decide) (off := 1825) (by decide) (by decide) (ev_room (L_recordTransfer hN hn hG hA hB hi K) (by omega) (by omega))
      · exact e_tableIn 1932 dL_law_39 (by decide) (by decide) (off := 1893) (by decide) (by decide) (ev_room (L_waiting hN hn hG hA hB hi K) (by omega) (by omega))
      · exact e_tableIn 1945 dL_law_39 (by decide) (by decide) (off := 1906) (by decide) (by decide) (ev_room (L_kindOf hN hn hG hA hB hi K) (by omega) (by omega))
      · exact e_tableIn 2001 dL_law_39 (by decide) (by decide) (off := 1962) (by decide) (by decide) (ev_room (L_transferOf hN hn hG hA hB hi K) (by omega) (by omega))
      · exact e_tableIn 2057 dL_law_39 (by decide) (by decide) (off := 2018) (by decide) (by decide) (ev_room (L_storeOf hN hn hG hA hB hi K) (by omega) (by omega))
      · exact e_tableIn 2113 dL_law_39 (by decide) (by decide) (off := 2074) (by decide) (by decide) (ev_room (L_sent hN hn hG hA hB hi K) (by omega) (by omega))
      · exact e_tableIn 2126 dL_law_39 (by decide) (by decide) (off := 2087) (by decide) (by decide) (ev_room (L_sentByAccount hN hn hG hA hB hi K) (by omega) (by omega))
      · exact e_tableIn 2139 dL_law_39 (by decide) (by decide) (off := 2100) (by decide) (by decide) (ev_room (L_lost hN hn hG hA hB hi K) (by omega) (by omega))
      · exact e_tableIn 2152 dL_law_39 (by decide) (by decide) (off := 2113) (by decide) (by decide) (ev_room (L_wouldSend hN hn hG hA hB hi K) (by omega) (by omega))
      · exact e_tableIn 2208 dL_law_39 (by decide) (by decide) (off := 2169) (by decide) (by decide) (ev_room (L_messagesToSettle hN hn hG hA hB hi K) (by omega) (by omega))
      · exact e_tableIn 2221 dL_law_39 (by decide) (by decide) (off := 2182) (by decide) (by decide) (ev_room (L_outcomeIfSettled hN hn hG hA hB hi K) (by omega) (by omega))
      · exact e_tableIn 2277 dL_law_39 (by decide) (by decide) (off := 2238) (by decide) (by decide) (ev_room (L_amountIfSettled hN hn hG hA hB hi K) (by omega) (by omega))
      · exact e_tableIn 2333 dL_law_39 (by decide) (by decide) (off := 2294) (by decide) (by decide) (ev_room (L_greatestSize hN hn hG hA hB hi K) (by omega) (by omega))
      · exact e_tableIn 2401 dL_law_39 (by decide) (by decide) (off := 2362) (by decide) (by decide) (ev_room (L_lostShare hN hn hG hA hB hi K) (by omega) (by omega))
      · exact e_tableIn 2442 dL_law_39 (by decide) (by decide) (off := 2403) (by decide) (by decide) (ev_room (L_meanSize hN hn hG hA hB hi K) (by omega) (by omega))
      · exact e_tableIn 2485 dL_law_39 (by decide) (by decide) (off := 2446) (by decide) (by decide) (ev_room (L_digest hN hn hG hA hB hi K) (by omega) (by omega))
    · exact e_tableOut 2499 dL_law_39 (Or.inr (by rw [nI_toInt (by omega)]; omega)) (by decide) (ev_room (K A o w F out _ _ _ _ (ga_mono (Nat.le_add_right _ 2400) hG) hA hB) (by omega) (by omega))
def a_new : qA := (m_new, ((0, fun _ => m_new), ((0, m_new), (0, fun _ => 0))))
theorem ga_new : GA 0 a_new := ⟨⟨j_new, Nat.le_refl _, rfl⟩, Nat.zero_le _, fun i hi => absurd hi (Nat.not_lt_zero i), Nat.zero_le _, fun q => absurd q (by decide), Nat.zero_le _, fun i hi => absurd hi (Nat.not_lt_zero i)⟩
theorem relL_new {w : Fin 16 → qw} {Sv : Nat → qm} : RelL p_new w 0 Sv := by
  refine ⟨fun i => if i = 5 then 10 else if i = 4 then 9 else if i = 3 then 8 else if i = 2 then 7 else if i = 1 then 6 else 5, fun i hi => ?_, fun i j hi hj => ?_, fun i hi => absurd hi (Nat.not_lt_zero i)⟩
  · rcases (show i = 0 ∨ i = 1 ∨ i = 2 ∨ i = 3 ∨ i = 4 ∨ i = 5 by omega) with rfl | rfl | rfl | rfl | rfl | rfl <;> exact ⟨rfl, by decide, by decide⟩
  · rcases (show i = 0 ∨ i = 1 ∨ i = 2 ∨ i = 3 ∨ i = 4 ∨ i = 5 by omega) with rfl | rfl | rfl | rfl | rfl | rfl <;> rcases (show j = 0 ∨ j = 1 ∨ j = 2 ∨ j = 3 ∨ j = 4 ∨ j = 5 by omega) with rfl | rfl | rfl | rfl | rfl | rfl <;> decide
theorem hK_start (e : qE) (w0 : Fin 16 → qw) : q_push (fun _ => []) 0 e = hK (fun _ => []) [e] w0 0 := by
  funext j
  unfold q_push hK
  by_cases q : j = 0
  · rw [if_pos q, if_pos q]; rfl
  · have q2 : ¬ j.val ≤ 0 := fun h9 => q (Fin.ext (Nat.le_zero.mp h9))
    rw [if_neg q, if_neg q, if_neg q2]
theorem q_push1 {h : qB} {b : Fin 16} (e : qE) (hb : h b = []) : q_push h b e = q_put h b [e] := by
  funext j
  show (if j = b then h j ++ [e] else h j) = (if j = b then [e] else h j)
  by_cases q : j = b
  · rw [if_pos q, if_pos q, q, hb]; rfl
  · rw [if_neg q, if_neg q]
theorem hL_start (o : List qE) (w : Fin 16 → qw) (F : List qE) (g : Nat → Int64) : q_push (q_put (hK (fun _ => []) o w 10) 11 F) 12 (eL 1 g) = hL o w F g := by
  funext j
  show (if j = (12 : Fin 16) then (if j = (11 : Fin 16) then F else hK (fun _ => []) o w 10 j) ++ [eL 1 g] else (if j = (11 : Fin 16) then F else hK (fun _ => []) o w 10 j)) = hL o w F g j
  by_cases q : j = 12
  · subst q; rfl
  · by_cases q2 : j = 11
    · subst q2; rfl
    · rw [if_neg q, if_neg q2]
      unfold hL hK h1
      rw [if_neg q2, if_neg q]
set_option maxRecDepth 20000 in
set_option maxHeartbeats 4000000 in
theorem L_law {N : Nat} {xs : Nat → Int32} (hN : N ≤ 2048) : Ev (mL_law N xs) 13 0 [some qS, none, none, none, none, none, none, none, none] [] 0 (fun _ => []) 601024 7293034 PZ qNo := by
  refine e_new 0 0 cnL_8 dL_law_0 fs_new2 (by decide) (by decide) rfl (by decide) (by decide) ?_
  refine e_dup dL_law_3 rfl ?_
  rw [hK_start _ (fun _ _ _ => 0)]
  refine e_callI (b := 0) (o := 0) (M' := mX2_init) (as := []) fX2_init lkL_122 (w_initLogs (fun _ => []) _ (fun _ _ _ => rfl)) rfl dL_law_4 (by decide) (by decide) (by decide) (by decide) (q_noh rfl) (fun v n' h' q => by have := q.2.1; omega) (fun _ _ _ q => q.elim) (fun v n' h' q => ?_)
  obtain ⟨rfl, rfl, w, hw, rfl⟩ := q
  refine e_astore1 dL_law_7 rfl (Nat.le_of_ble_eq_true rfl) ?_
  refine e_new 11 0 cnL_123 dL_law_8 fs_new3 (by decide) (by decide) rfl (by decide) (by decide) ?_
  refine e_dup dL_law_11 rfl ?_
  rw [q_push1 _ (show hK (fun _ => []) (oC p_new (fun _ => 0) (nI 0) (nI 0) (nI 0) (fun j => if j = 0 then nI 0 else 0)) w 10 11 = [] from rfl)]
  refine e_callI (b := 11) (o := 0) (M' := mX3_init) (as := []) fX3_init lkL_125 (r_init _) rfl dL_law_12 (by decide) (by decide) (by decide) (by decide) (q_noh rfl) (fun v n' h' q => by have := q.2.1; omega) (fun _ _ _ q => q.elim) (fun v n' h' q => ?_)
  obtain ⟨rfl, rfl, sf, hsf, rfl⟩ := q
  refine e_astore2 dL_law_15 rfl (Nat.le_of_ble_eq_true rfl) ?_
  refine e_iconst (z := 1) dL_law_16 ?_
  refine e_newlong 12 0 (N := 1) w_al dL_law_17 rfl (by decide) (by decide) (by decide) rfl (by decide) (by decide) ?_
  rw [hL_start]
  refine e_astore3 dL_law_19 rfl (Nat.le_of_ble_eq_true rfl) ?_
  refine e_iconst (z := 0) dL_law_20 ?_
  refine e_istore4 dL_law_21 rfl (Nat.le_of_ble_eq_true rfl) ?_
  refine ev_room (L_loop hN (N - 0) 0 rfl (Nat.zero_le _) a_new _ _ _ _ none none none none (by rw [Nat.mul_zero]; exact ga_new) ?_ ?_) (by omega) (by omega)
  · exact ⟨p_new, fun _ => 0, _, rfl, hw 1 (by decide) (by decide), relL_new, fun q => absurd q (by decide), fun i hi => absurd hi (Nat.not_lt_zero i)⟩
  · exact ⟨nI 0, sf, _, _, _, _, _, _, _, _, rfl, hsf, fun i hi => absurd hi (Nat.not_lt_zero i), fun q => absurd q (by decide), fun i hi => absurd hi (Nat.not_lt_zero i)⟩
