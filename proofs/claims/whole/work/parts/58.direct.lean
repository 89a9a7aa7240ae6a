/-! CALLS WITHOUT A WRAPPER -/
theorem k_deliverAll (h : qB) {n : Nat} {A : qA} (hG : GA n A) {o : List qE} {w : Fin 16 → qw} (hA : RA A o w) {code : Nat} {v : Int32} {A2 : qA} (hS : S_deliverAll A code v A2) : Cl mX2_deliverAll [] h o w code v A2 [] := by
  obtain ⟨⟨hJ, hBd⟩, hC, hGS, hN, hGY, hL, hT⟩ := hG
  have hA0 := hA
  obtain ⟨pi, buf, rd, rfl, hR, hRL, hY, hb⟩ := hA
  obtain ⟨rfl, rfl, rfl⟩ := hS
  exact cl_mv hY hb (by decide) (v_deliverAll h pi buf (aC A) (nI (aN A)) (nI (aL A)) rd w (aX A) hR hJ (aS A) hC hRL)
theorem k_clearBuffer (h : qB) {n : Nat} {A : qA} (hG : GA n A) {o : List qE} {w : Fin 16 → qw} (hA : RA A o w) {code : Nat} {v : Int32} {A2 : qA} (hS : S_clearBuffer A code v A2) : Cl mX2_clearBuffer [] h o w code v A2 [] := by
  obtain ⟨⟨hJ, hBd⟩, hC, hGS, hN, hGY, hL, hT⟩ := hG
  have hA0 := hA
  obtain ⟨pi, buf, rd, rfl, hR, hRL, hY, hb⟩ := hA
  obtain ⟨rfl, rfl, rfl⟩ := hS
  exact cl_ok (by decide) (v_clearBuffer h pi buf (nI (aC A)) (nI (aN A)) (aL A) rd w) fun r h2 q => ⟨q.1, _, w, q.2, pi, buf, rd, rfl, hR, hRL, hY, fun i hi => absurd hi (Nat.not_lt_zero i)⟩
theorem k_firstError (h : qB) {n : Nat} {A : qA} (hG : GA n A) {o : List qE} {w : Fin 16 → qw} (hA : RA A o w) {code : Nat} {v : Int32} {A2 : qA} (hS : S_firstError A code v A2) : Cl mX2_firstError [] h o w code v A2 [] := by
  obtain ⟨⟨hJ, hBd⟩, hC, hGS, hN, hGY, hL, hT⟩ := hG
  have hA0 := hA
  obtain ⟨pi, buf, rd, rfl, hR, hRL, hY, hb⟩ := hA
  obtain ⟨rfl, rfl, rfl⟩ := hS
  refine cl_ok (by decide) (v_firstError h pi buf (nI (aC A)) (nI (aN A)) rd w hL (fun i hi => ⟨hb i hi, hT i hi⟩)) fun r h2 q => ?_
  obtain ⟨q1, rd2, q2, q3⟩ := q
  exact ⟨q1, _, w, q2, pi, buf, rd2, rfl, hR, hRL, hY, hb⟩
theorem k_keep (h : qB) {n : Nat} {A : qA} (hG : GA n A) {o : List qE} {w : Fin 16 → qw} (hA : RA A o w) {code : Nat} {v : Int32} {A2 : qA} (hS : S_keep A code v A2) : Cl mX2_keep [] h o w code v A2 [] := by
  obtain ⟨⟨hJ, hBd⟩, hC, hGS, hN, hGY, hL, hT⟩ := hG
  have hA0 := hA
  obtain ⟨pi, buf, rd, rfl, hR, hRL, hY, hb⟩ := hA
  obtain ⟨rfl, rfl, rfl⟩ := hS
  refine cl_ok (by decide) (v_keep h pi buf (nI (aC A)) (nI (aN A)) (nI (aL A)) rd w (aX A) hR hJ) fun r h2 q => ?_
  obtain ⟨q1, x, q2, q3⟩ := q
  exact ⟨q1, _, _, q3, pi, buf, rd, rfl, by rw [uw_ne w x (by decide)]; exact hR, relL_uw (by decide) hRL hC, fun _ => by rw [uw_at]; exact q2, hb⟩
theorem k_transfers (h : qB) {n : Nat} {A : qA} (hG : GA n A) {o : List qE} {w : Fin 16 → qw} (hA : RA A o w) {code : Nat} {v : Int32} {A2 : qA} (hS : S_transfers A code v A2) : Cl mX2_transfers [] h o w code v A2 [] := by
  obtain ⟨⟨hJ, hBd⟩, hC, hGS, hN, hGY, hL, hT⟩ := hG
  have hA0 := hA
  obtain ⟨pi, buf, rd, rfl, hR, hRL, hY, hb⟩ := hA
  obtain ⟨rfl, rfl, rfl⟩ := hS
  exact cl_look hA0 (by decide) (v_transfers h pi buf (nI (aC A)) (nI (aN A)) (nI (aL A)) rd w (aX A) hR hJ)
theorem k_total (h : qB) {n : Nat} {A : qA} (hG : GA n A) {o : List qE} {w : Fin 16 → qw} (hA : RA A o w) {code : Nat} {v : Int32} {A2 : qA} (hS : S_total A code v A2) : Cl mX2_total [] h o w code v A2 [] := by
  obtain ⟨⟨hJ, hBd⟩, hC, hGS, hN, hGY, hL, hT⟩ := hG
  have hA0 := hA
  obtain ⟨pi, buf, rd, rfl, hR, hRL, hY, hb⟩ := hA
  obtain ⟨rfl, rfl, rfl⟩ := hS
  exact cl_look hA0 (by decide) (v_total h pi buf (nI (aC A)) (nI (aN A)) (nI (aL A)) rd w (aX A) hR hJ)
theorem k_onTheWay (h : qB) {n : Nat} {A : qA} (hG : GA n A) {o : List qE} {w : Fin 16 → qw} (hA : RA A o w) {code : Nat} {v : Int32} {A2 : qA} (hS : S_onTheWay A code v A2) : Cl mX2_onTheWay [] h o w code v A2 [] := by
  obtain ⟨⟨hJ, hBd⟩, hC, hGS, hN, hGY, hL, hT⟩ := hG
  have hA0 := hA
  obtain ⟨pi, buf, rd, rfl, hR, hRL, hY, hb⟩ := hA
  obtain ⟨rfl, rfl, rfl⟩ := hS
  exact cl_look hA0 (by decide) (v_onTheWay h pi buf (nI (aC A)) (nI (aN A)) (nI (aL A)) rd w (aX A) hR hJ)
theorem k_waiting (h : qB) {n : Nat} {A : qA} (hG : GA n A) {o : List qE} {w : Fin 16 → qw} (hA : RA A o w) {code : Nat} {v : Int32} {A2 : qA} (hS : S_waiting A code v A2) : Cl mX2_waiting [] h o w code v A2 [] := by
  obtain ⟨⟨hJ, hBd⟩, hC, hGS, hN, hGY, hL, hT⟩ := hG
  have hA0 := hA
  obtain ⟨pi, buf, rd, rfl, hR, hRL, hY, hb⟩ := hA
  obtain ⟨rfl, rfl, rfl⟩ := hS
  exact cl_look hA0 (by decide) (v_waiting h pi buf (nI (aC A)) (nI (aN A)) (nI (aL A)) rd w (aX A) hR hJ)
theorem k_sent (h : qB) {n : Nat} {A : qA} (hG : GA n A) {o : List qE} {w : Fin 16 → qw} (hA : RA A o w) {code : Nat} {v : Int32} {A2 : qA} (hS : S_sent A code v A2) : Cl mX2_sent [] h o w code v A2 [] := by
  obtain ⟨⟨hJ, hBd⟩, hC, hGS, hN, hGY, hL, hT⟩ := hG
  have hA0 := hA
  obtain ⟨pi, buf, rd, rfl, hR, hRL, hY, hb⟩ := hA
  obtain ⟨rfl, rfl, rfl⟩ := hS
  exact cl_look hA0 (by decide) (v_sent h pi buf (nI (aC A)) (nI (aN A)) (nI (aL A)) rd w (aX A) hR hJ)
theorem k_sentByAccount (h : qB) {n : Nat} {A : qA} (hG : GA n A) {o : List qE} {w : Fin 16 → qw} (hA : RA A o w) {code : Nat} {v : Int32} {A2 : qA} (hS : S_sentByAccount A code v A2) : Cl mX2_sentByAccount [] h o w code v A2 [] := by
  obtain ⟨⟨hJ, hBd⟩, hC, hGS, hN, hGY, hL, hT⟩ := hG
  have hA0 := hA
  obtain ⟨pi, buf, rd, rfl, hR, hRL, hY, hb⟩ := hA
  obtain ⟨rfl, rfl, rfl⟩ := hS
  exact cl_look hA0 (by decide) (v_sentByAccount h pi buf (nI (aC A)) (nI (aN A)) (nI (aL A)) rd w (aX A) hR hJ)
theorem k_lost (h : qB) {n : Nat} {A : qA} (hG : GA n A) {o : List qE} {w : Fin 16 → qw} (hA : RA A o w) {code : Nat} {v : Int32} {A2 : qA} (hS : S_lost A code v A2) : Cl mX2_lost [] h o w code v A2 [] := by
  obtain ⟨⟨hJ, hBd⟩, hC, hGS, hN, hGY, hL, hT⟩ := hG
  have hA0 := hA
  obtain ⟨pi, buf, rd, rfl, hR, hRL, hY, hb⟩ := hA
  obtain ⟨rfl, rfl, rfl⟩ := hS
  exact cl_look hA0 (by decide) (v_lost h pi buf (nI (aC A)) (nI (aN A)) (nI (aL A)) rd w (aX A) hR hJ)
theorem k_messagesToSettle (h : qB) {n : Nat} {A : qA} (hG : GA n A) {o : List qE} {w : Fin 16 → qw} (hA : RA A o w) {code : Nat} {v : Int32} {A2 : qA} (hS : S_messagesToSettle A code v A2) : Cl mX2_messagesToSettle [] h o w code v A2 [] := by
  obtain ⟨⟨hJ, hBd⟩, hC, hGS, hN, hGY, hL, hT⟩ := hG
  have hA0 := hA
  obtain ⟨pi, buf, rd, rfl, hR, hRL, hY, hb⟩ := hA
  obtain ⟨rfl, rfl, rfl⟩ := hS
  exact cl_ok (by decide) (v_messagesToSettle h pi buf (nI (aC A)) (nI (aN A)) (nI (aL A)) rd w (aX A) hR hJ) fun r h2 q => ⟨q.1, _, _, q.2.choose_spec, ra_uw hA0 hC (by decide) (by decide) _⟩
theorem bd_lost {n : Nat} {X : qm} (h : Bd n X) (hn : n < 2 ^ 31) : X.1 0 3 ≤ X.1 0 1 ∧ X.1 0 1 < 2 ^ 31 := by
  obtain ⟨a, b⟩ := h
  exact ⟨by omega, by omega⟩
theorem k_lostShare (h : qB) {n : Nat} {A : qA} (hG : GA n A) (hn : n < 2 ^ 31) {o : List qE} {w : Fin 16 → qw} (hA : RA A o w) : CtD mX2_lostShare 0 [qR 0 0] (hK h o w 10) (fun r h2 => r = m_ls (aX A) ∧ h2 = hK h o w 10) := by
  obtain ⟨⟨hJ, hBd⟩, hC, hGS, hN, hGY, hL, hT⟩ := hG
  obtain ⟨pi, buf, rd, rfl, hR, hRL, hY, hb⟩ := hA
  exact v_lostShare h pi buf (nI (aC A)) (nI (aN A)) (nI (aL A)) rd w (aX A) hR hJ (bd_lost hBd hn).1 (bd_lost hBd hn).2
theorem k_meanSize (h : qB) {n : Nat} {A : qA} (hG : GA n A) {o : List qE} {w : Fin 16 → qw} (hA : RA A o w) : CtF mX2_meanSize 0 [qR 0 0] (hK h o w 10) (fun r h2 => r = m_mean (aX A) ∧ h2 = hK h o w 10) := by
  obtain ⟨⟨hJ, hBd⟩, hC, hGS, hN, hGY, hL, hT⟩ := hG
  obtain ⟨pi, buf, rd, rfl, hR, hRL, hY, hb⟩ := hA
  exact v_meanSize h pi buf (nI (aC A)) (nI (aN A)) (nI (aL A)) rd w (aX A) hR hJ
def a_dg (A : qA) : Int64 := m_dg (aX A) (aC A) (aN A) (aL A) (aT A) (aL A)
theorem k_digest (h : qB) {n : Nat} {A : qA} (hG : GA n A) (hn : n < 2 ^ 31) {o : List qE} {w : Fin 16 → qw} (hA : RA A o w) : CtL mX2_digest 9 [qR 0 0] (hK h o w 10) (fun r h2 => r = a_dg A ∧ ∃ w', h2 = hK h o w' 10 ∧ RA A o w') := by
  obtain ⟨⟨hJ, hBd⟩, hC, hGS, hN, hGY, hL, hT⟩ := hG
  have hA0 := hA
  obtain ⟨pi, buf, rd, rfl, hR, hRL, hY, hb⟩ := hA
  refine (v_digest h pi buf rd w (aX A) hR hJ (bd_lost hBd hn).1 (bd_lost hBd hn).2 hC hN hL hb).imp (fun r n h2 q => ?_) (fun _ _ _ q => q)
  obtain ⟨x, e1, e2, e3, x3, x4, e4⟩ := q
  exact ⟨x, e1, e2, e3, _, e4, ra_uw (ra_uw hA0 hC (by decide) (by decide) _) hC (by decide) (by decide) _⟩
theorem p_thrown (h : qB) {A : qA} {F : List qE} {t : Int32} (hB : RBt A F t) : CtI mX3_thrown 0 [qR 11 0] (q_put h 11 F) (fun r h2 => r = t ∧ h2 = q_put h 11 F) := by
  obtain ⟨sf, asd, sts, snp, txt, rdd, pt, iw, rm, rfl, -⟩ := hB
  exact r_thrown h _ _ _ _ _ _ _ _ _ _ _ _ _
theorem p_digest (h : qB) {n : Nat} {A : qA} (hG : GA n A) (hn : n < 2 ^ 31) {F : List qE} (hB : RB A F) : CtL mX3_digest 11 [qR 11 0] (q_put h 11 F) (fun r h2 => r = a_dg A ∧ ∃ F', RB A F' ∧ h2 = q_put h 11 F') := by
  obtain ⟨⟨hJ, hBd⟩, hC, hGS, hN, hGY, hL, hT⟩ := hG
  obtain ⟨th, sf, asd, sts, snp, txt, rdd, pt, iw, rm, rfl, hR, hRS, hY, hb⟩ := hB
  refine (r_digest h th sf asd sts snp txt rdd pt iw rm (aX A) hR hJ (bd_lost hBd hn).1 (bd_lost hBd hn).2 hC hN hL hb).imp (fun r n h2 q => ?_) (fun _ _ _ q => q)
  obtain ⟨x, e1, e2, e3, sf2, a2, e4, e5⟩ := q
  exact ⟨x, e1, e2, e3, _, ⟨nI 0, sf2, a2, sts, snp, txt, rdd, pt, iw, rm, rfl, e4, hRS, hY, hb⟩, e5⟩
theorem p_lostShare (h : qB) {n : Nat} {A : qA} (hG : GA n A) (hn : n < 2 ^ 31) {F : List qE} (hB : RB A F) : CtD mX3_lostShare 12 [qR 11 0] (q_put h 11 F) (fun r h2 => r = m_ls (aX A) ∧ ∃ F', RB A F' ∧ h2 = q_put h 11 F') := by
  obtain ⟨⟨hJ, hBd⟩, hC, hGS, hN, hGY, hL, hT⟩ := hG
  obtain ⟨th, sf, asd, sts, snp, txt, rdd, pt, iw, rm, rfl, hR, hRS, hY, hb⟩ := hB
  refine ct_of (by decide +kernel) rfl rfl (Nat.le_of_ble_eq_true rfl) ?_
  show Ev mX3_lostShare 12 0 [some (qR 11 0)] [] 132 (q_put h 11 (oR th sf asd sts snp txt rdd (nI (aC A)) (nI (aN A)) (nI (aL A)) pt iw rm)) 0 0 _ _
  refine e_aload0 dX3_lostShare_0 ?_
  refine e_iconst (z := 0) dX3_lostShare_1 ?_
  refine e_putfieldF flX3_28 dX3_lostShare_2 rfl (Nat.le_of_ble_eq_true rfl) (fun _ => rfl) (fun _ => rfl) ?_
  refine e_aload0 dX3_lostShare_5 ?_
  refine e_vDF (M' := mX3_shareLost) fX3_shareLost lkX3_241 (r_shareLost h (nI 0) sf asd sts snp txt rdd (nI (aC A)) (nI (aN A)) (nI (aL A)) pt iw rm (aX A) hR (bd_lost hBd hn).1 (bd_lost hBd hn).2) rfl rfl dX3_lostShare_6 rfl rfl (by decide) (Nat.le_of_ble_eq_true rfl) rfl ?_
  rintro _ _ ⟨rfl, rfl⟩
  refine e_dret dX3_lostShare_9 rfl ?_
  exact ⟨_, rfl, rfl, rfl, _, ⟨nI 0, sf, asd, sts, snp, txt, rdd, pt, iw, rm, rfl, hR, hRS, hY, hb⟩, rfl⟩
theorem p_meanSize (h : qB) {n : Nat} {A : qA} (hG : GA n A) {F : List qE} (hB : RB A F) : CtF mX3_meanSize 12 [qR 11 0] (q_put h 11 F) (fun r h2 => r = m_mean (aX A) ∧ ∃ F', RB A F' ∧ h2 = q_put h 11 F') := by
  obtain ⟨⟨hJ, hBd⟩, hC, hGS, hN, hGY, hL, hT⟩ := hG
  obtain ⟨th, sf, asd, sts, snp, txt, rdd, pt, iw, rm, rfl, hR, hRS, hY, hb⟩ := hB
  refine ct_of (by decide +kernel) rfl rfl (Nat.le_of_ble_eq_true rfl) ?_
  show Ev mX3_meanSize 12 0 [some (qR 11 0)] [] 132 (q_put h 11 (oR th sf asd sts snp txt rdd (nI (aC A)) (nI (aN A)) (nI (aL A)) pt iw rm)) 0 0 _ _
  refine e_aload0 dX3_meanSize_0 ?_
  refine e_iconst (z := 0) dX3_meanSize_1 ?_
  refine e_putfieldF flX3_28 dX3_meanSize_2 rfl (Nat.le_of_ble_eq_true rfl) (fun _ => rfl) (fun _ => rfl) ?_
  refine e_aload0 dX3_meanSize_5 ?_
  refine e_vFF (M' := mX3_mean) fX3_mean lkX3_245 (r_mean h (nI 0) sf asd sts snp txt rdd (nI (aC A)) (nI (aN A)) (nI (aL A)) pt iw rm (aX A) hR hJ) rfl rfl dX3_meanSize_6 rfl rfl (by decide) (Nat.le_of_ble_eq_true rfl) rfl ?_
  rintro _ _ ⟨rfl, rfl⟩
  refine e_fret dX3_meanSize_9 rfl ?_
  exact ⟨_, rfl, rfl, rfl, _, ⟨nI 0, sf, asd, sts, snp, txt, rdd, pt, iw, rm, rfl, hR, hRS, hY, hb⟩, rfl⟩
