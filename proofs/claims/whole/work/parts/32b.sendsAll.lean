set_option maxRecDepth 20000 in
set_option maxHeartbeats 4000000 in
theorem r_sendsAll (h : qB) (th : Int32) (sf asd sts snp txt rdd : Nat → Int32) (cnt hq len pt iw rm : Int32) (X : qm) (hR : RelR sf X) (hW : WK X) {kd t : Nat} (ht : t < 8) : CtV mX3_sendsAll 2 [qR 11 0, qI (nI kd), qI (nI t)] (q_put h 11 (oR th sf asd sts snp txt rdd cnt hq len pt iw rm)) (fun h2 => ∃ sf', RelR sf' (m_sendN X kd t (m_part X t) 4) ∧ h2 = q_put h 11 (oR th sf' asd sts snp txt rdd cnt hq len pt iw rm)) := by
  refine ct_of (by decide +kernel) rfl rfl (Nat.le_of_ble_eq_true rfl) ?_
  show Ev mX3_sendsAll 2 0 [some (qR 11 0), some (qI (nI kd)), some (qI (nI t)), none] [] 132 (q_put h 11 (oR th sf asd sts snp txt rdd cnt hq len pt iw rm)) 0 0 _ _
  refine e_iconst (z := 0) dX3_sendsAll_0 ?_
  refine e_istore3 dX3_sendsAll_1 rfl (by decide) ?_
  have H : ∀ (m i : Nat) (sf2 : Nat → Int32), i ≤ 4 → m = 4 - i → RelR sf2 (m_sendN X kd t (m_part X t) i) → Ev mX3_sendsAll 2 2 [some (qR 11 0), some (qI (nI kd)), some (qI (nI t)), some (qI (nI i))] [] 132 (q_put h 11 (oR th sf2 asd sts snp txt rdd cnt hq len pt iw rm)) 0 0 (fun r n h' => r = none ∧ n = 132 ∧ ((fun h2 => ∃ sf', RelR sf' (m_sendN X kd t (m_part X t) 4) ∧ h2 = q_put h 11 (oR th sf' asd sts snp txt rdd cnt hq len pt iw rm))) h') qNo := by
    intro m
    induction m using Nat.strongRecOn with
    | _ m ih =>
    intro i sf2 hi hm hR2
    have hY : WK (m_sendN X kd t (m_part X t) i) := wk_sendN hW i
    refine e_iload3 dX3_sendsAll_2 ?_
    refine e_iconst (z := 4) dX3_sendsAll_3 ?_
    first | refine e_icmp_geN 33 dX3_sendsAll_4 (by decide) (by omega) (by omega) (fun hc4 => ?_) (fun hc4 => ?_) | refine e_icmp_ge 33 dX3_sendsAll_4 (by decide) (fun hc4 => ?_) (fun hc4 => ?_)
    · refine e_vret dX3_sendsAll_33 rfl ?_
      obtain rfl : i = 4 := by omega
      exact ⟨rfl, rfl, sf2, hR2, rfl⟩
    · refine e_aload0 dX3_sendsAll_7 ?_
      refine e_iload2 dX3_sendsAll_8 ?_
      refine e_vIF (M' := mX3_all) fX3_all lkX3_57 (r_all h th sf2 asd sts snp txt rdd cnt hq len pt iw rm (m_sendN X kd t (m_part X t) i) hR2 (t := t) (hY.2.2.2.2 t ht).1 (hY.2.2.2.2 t ht).2 ht) rfl rfl dX3_sendsAll_9 rfl rfl (by decide) (Nat.le_of_ble_eq_true rfl) rfl ?_
      rintro _ _ ⟨rfl, rfl⟩
      rw [m_part_sendN]
      refine e_iload3 dX3_sendsAll_12 ?_
      refine e_ishr dX3_sendsAll_13 ?_
      refine e_iconst (z := 1) dX3_sendsAll_14 ?_
      refine e_iand dX3_sendsAll_15 ?_
      refine e_iconst (z := 1) dX3_sendsAll_16 ?_
      rw [b_msk _ (m_part_wk hW ht) _ (by omega)]
      first | refine e_icmp_neN 27 dX3_sendsAll_17 (by decide) (by omega) (by omega) (fun hc17 => ?_) (fun hc17 => ?_) | refine e_icmp_ne 27 dX3_sendsAll_17 (by decide) (fun hc17 => ?_) (fun hc17 => ?_)
      · first | refine e_iinc3N (z := 1) dX3_sendsAll_27 rfl (by decide) ?_ | refine e_iinc3 dX3_sendsAll_27 rfl rfl (by decide) ?_
        refine e_goto 2 dX3_sendsAll_30 (by decide) ?_
        first
          | exact ih _ (by omega) (i + 1) sf3 (by omega) rfl (by rw [m_sendN, if_pos hc17]; exact hR3)
          | exact ih _ (by omega) (i + 1) sf2 (by omega) rfl (by rw [m_sendN, if_neg hc17]; exact hR2)
      · refine e_aload0 dX3_sendsAll_20 ?_
        refine e_iload1 dX3_sendsAll_21 ?_
        refine e_iload2 dX3_sendsAll_22 ?_
        refine e_iload3 dX3_sendsAll_23 ?_
        refine e_vVF (M' := mX3_sends) fX3_sends lkX3_60 (r_sends h th sf2 asd sts snp txt rdd cnt hq len pt iw rm (m_sendN X kd t (m_part X t) i) hR2 hY (kd := kd) (t := t) (s := i)) rfl rfl dX3_sendsAll_24 rfl rfl (by decide) (Nat.le_of_ble_eq_true rfl) rfl ?_
        rintro _ ⟨sf3, hR3, rfl⟩
        first | refine e_iinc3N (z := 1) dX3_sendsAll_27 rfl (by decide) ?_ | refine e_iinc3 dX3_sendsAll_27 rfl rfl (by decide) ?_
        refine e_goto 2 dX3_sendsAll_30 (by decide) ?_
        first
          | exact ih _ (by omega) (i + 1) sf3 (by omega) rfl (by rw [m_sendN, if_pos hc17]; exact hR3)
          | exact ih _ (by omega) (i + 1) sf2 (by omega) rfl (by rw [m_sendN, if_neg hc17]; exact hR2)
  exact H _ 0 sf (Nat.zero_le _) rfl hR
