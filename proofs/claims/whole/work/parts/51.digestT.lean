/-! THE MODEL'S PROGRAM: the hash -/
theorem b_bl : ∀ a, a < 2 → (nI a).toInt64 = m_bl (decide (a = 1)) := by decide +kernel
def m_dTT (X : qm) : Nat → Int64
  | 0 => m_mx 4219 (nI (X.1 0 0)).toInt64
  | n + 1 => m_dT X (m_settle X) n (m_dTT X n)
def m_dST (X : qm) : Nat → Int64
  | 0 => m_dTT X (X.1 0 0)
  | n + 1 => m_mx (m_mx (m_mx (m_mx (m_dST X n) (X.2 n).toInt64) (m_logAm X n (X.1 10 n)).toInt64) (nI (m_doubt X n (X.1 0 0))).toInt64) ((m_settle X).2 n).toInt64
def m_dSI (X : qm) : Nat → Int64
  | 0 => m_dST X 4
  | n + 1 => m_dS X n (m_dSI X n)
def m_d2 (X : qm) : Int64 := m_mx (m_mx (m_dSI X 5) (m_tot X 4).toInt64) (m_away X (X.1 0 0)).toInt64
def m_d4 (X : qm) (c sn len : Nat) : Int64 := m_mx (m_mx (m_mx (m_mx (m_mx (m_mx (m_mx (m_dM X (m_d2 X)) (nI (m_settleN X)).toInt64) (nI (m_gr X 0 14 50)).toInt64) (nI c).toInt64) (m_ls X).toInt64) ((m_mean X).toInt32).toInt64) (m_bl (decide (sn = 1)))) (nI len).toInt64
def m_dg (X : qm) (c sn len : Nat) (tx : Nat → Nat) : Nat → Int64
  | 0 => m_d4 X c sn len
  | n + 1 => m_mx (m_dg X c sn len tx n) (nI (tx n)).toInt64
set_option maxRecDepth 20000 in
set_option maxHeartbeats 4000000 in
theorem r_digestTransfer (h : qB) (th : Int32) (sf asd sts snp txt rdd : Nat → Int32) (cnt hq len pt iw rm : Int32) (X : qm) (hR : RelR sf X) (hJ : J X) {t : Nat} (ht : t < 8) (a : Int64) : CtL mX3_digestTransfer 10 [qR 11 0, qL a, qI (nI t)] (q_put h 11 (oR th sf asd sts snp txt rdd cnt hq len pt iw rm)) (fun r h2 => r = m_dT X (m_settle X) t a ∧ ∃ sf' a', RelR sf' X ∧ h2 = q_put h 11 (oR th sf' a' sts snp txt rdd cnt hq len pt iw rm)) := by
  have hW := wk_J hJ
  have h8 := (iV4 hJ.1 t ht).2.2.2.2.2.2
  refine ct_of (by decide +kernel) rfl rfl (Nat.le_of_ble_eq_true rfl) ?_
  show Ev mX3_digestTransfer 10 0 [some (qR 11 0), some (qL a), none, some (qI (nI t)), none, none, none] [] 132 (q_put h 11 (oR th sf asd sts snp txt rdd cnt hq len pt iw rm)) 0 0 _ _
  refine e_ldcL ckX3_249 dX3_digestTransfer_0 ?_
  refine e_ldcL ckX3_249 dX3_digestTransfer_3 ?_
  refine e_ldcL ckX3_249 dX3_digestTransfer_6 ?_
  refine e_lload1 dX3_digestTransfer_9 ?_
  refine e_lmul dX3_digestTransfer_10 ?_
  refine e_aload0 dX3_digestTransfer_11 ?_
  refine e_iload3 dX3_digestTransfer_12 ?_
  refine e_vIF (M' := mX3_all) fX3_all lkX3_57 (r_all h th sf asd sts snp txt rdd cnt hq len pt iw rm X hR (t := t) (hW.2.2.2.2 t ht).1 (hW.2.2.2.2 t ht).2 ht) rfl rfl dX3_digestTransfer_13 rfl rfl (by decide) (Nat.le_of_ble_eq_true rfl) rfl ?_
  rintro _ _ ⟨rfl, rfl⟩
  refine e_i2l dX3_digestTransfer_16 ?_
  refine e_ladd dX3_digestTransfer_17 ?_
  refine e_lmul dX3_digestTransfer_18 ?_
  refine e_aload0 dX3_digestTransfer_19 ?_
  refine e_iload3 dX3_digestTransfer_20 ?_
  refine e_iconst (z := 5) dX3_digestTransfer_21 ?_
  refine e_vIF (M' := mX3_of) fX3_of lkX3_39 (r_of5 h th sf asd sts snp txt rdd cnt hq len pt iw rm X hR (t := t) ht) rfl rfl dX3_digestTransfer_22 rfl rfl (by decide) (Nat.le_of_ble_eq_true rfl) rfl ?_
  rintro _ _ ⟨rfl, rfl⟩
  refine e_i2l dX3_digestTransfer_25 ?_
  refine e_ladd dX3_digestTransfer_26 ?_
  refine e_lmul dX3_digestTransfer_27 ?_
  refine e_aload0 dX3_digestTransfer_28 ?_
  refine e_iload3 dX3_digestTransfer_29 ?_
  refine e_vIF (M' := mX3_outcomeOf) fX3_outcomeOf lkX3_202 (r_outcomeOf h th sf asd sts snp txt rdd cnt hq len pt iw rm X hR hJ (t := t) ht) rfl rfl dX3_digestTransfer_30 rfl rfl (by decide) (Nat.le_of_ble_eq_true rfl) rfl ?_
  rintro _ _ ⟨rfl, rfl⟩
  refine e_i2l dX3_digestTransfer_33 ?_
  refine e_ladd dX3_digestTransfer_34 ?_
  refine e_lstore4 dX3_digestTransfer_35 rfl (by decide) ?_
  refine e_ldcL ckX3_249 dX3_digestTransfer_37 ?_
  refine e_ldcL ckX3_249 dX3_digestTransfer_40 ?_
  refine e_ldcL ckX3_249 dX3_digestTransfer_43 ?_
  refine e_lload4 dX3_digestTransfer_46 ?_
  refine e_lmul dX3_digestTransfer_48 ?_
  refine e_aload0 dX3_digestTransfer_49 ?_
  refine e_iload3 dX3_digestTransfer_50 ?_
  refine e_bipush (v := nI 6) dX3_digestTransfer_51 (by decide) ?_
  refine e_vIF (M' := mX3_of) fX3_of lkX3_39 (r_of6 h th sf asd sts snp txt rdd cnt hq len pt iw rm X hR (t := t) ht) rfl rfl dX3_digestTransfer_53 rfl rfl (by decide) (Nat.le_of_ble_eq_true rfl) rfl ?_
  rintro _ _ ⟨rfl, rfl⟩
  refine e_i2l dX3_digestTransfer_56 ?_
  rw [b_bl _ (show X.1 8 t < 2 by omega)]
  refine e_ladd dX3_digestTransfer_57 ?_
  refine e_lmul dX3_digestTransfer_58 ?_
  refine e_aload0 dX3_digestTransfer_59 ?_
  refine e_iload3 dX3_digestTransfer_60 ?_
  refine e_iconst (z := 3) dX3_digestTransfer_61 ?_
  refine e_vIF (M' := mX3_of) fX3_of lkX3_39 (r_of3 h th sf asd sts snp txt rdd cnt hq len pt iw rm X hR (t := t) ht) rfl rfl dX3_digestTransfer_62 rfl rfl (by decide) (Nat.le_of_ble_eq_true rfl) rfl ?_
  rintro _ _ ⟨rfl, rfl⟩
  refine e_i2l dX3_digestTransfer_65 ?_
  refine e_ladd dX3_digestTransfer_66 ?_
  refine e_lmul dX3_digestTransfer_67 ?_
  refine e_aload0 dX3_digestTransfer_68 ?_
  refine e_iload3 dX3_digestTransfer_69 ?_
  refine e_iconst (z := 4) dX3_digestTransfer_70 ?_
  refine e_vIF (M' := mX3_of) fX3_of lkX3_39 (r_of4 h th sf asd sts snp txt rdd cnt hq len pt iw rm X hR (t := t) ht) rfl rfl dX3_digestTransfer_71 rfl rfl (by decide) (Nat.le_of_ble_eq_true rfl) rfl ?_
  rintro _ _ ⟨rfl, rfl⟩
  refine e_i2l dX3_digestTransfer_74 ?_
  refine e_ladd dX3_digestTransfer_75 ?_
  refine e_lstore4 dX3_digestTransfer_76 rfl (by decide) ?_
  refine e_ldcL ckX3_249 dX3_digestTransfer_78 ?_
  refine e_lload4 dX3_digestTransfer_81 ?_
  refine e_lmul dX3_digestTransfer_83 ?_
  refine e_aload0 dX3_digestTransfer_84 ?_
  refine e_iload3 dX3_digestTransfer_85 ?_
  refine e_vIF (M' := mX3_settledOutcome) fX3_settledOutcome lkX3_232 (r_settledOutcome h th sf asd sts snp txt rdd cnt hq len pt iw rm X hR hJ (t := t) ht) rfl rfl dX3_digestTransfer_86 rfl rfl (by decide) (Nat.le_of_ble_eq_true rfl) rfl ?_
  rintro _ _ ⟨rfl, sf3, a3, hR3, rfl⟩
  refine e_i2l dX3_digestTransfer_89 ?_
  refine e_ladd dX3_digestTransfer_90 ?_
  refine e_lstore4 dX3_digestTransfer_91 rfl (by decide) ?_
  refine e_iconst (z := 0) dX3_digestTransfer_93 ?_
  refine e_istore6 dX3_digestTransfer_94 rfl (by decide) ?_
  have H : ∀ (m i : Nat) (v : Int64), i ≤ 4 → m = 4 - i → v = m_dTs X t (m_mx (m_mx (m_mx (m_mx (m_mx (m_mx (m_mx a (nI (m_part X t)).toInt64) (nI (X.1 7 t)).toInt64) (nI (m_seen X t 4)).toInt64) (m_bl (decide (X.1 8 t = 1)))) (nI (X.1 5 t)).toInt64) (nI (X.1 6 t)).toInt64) (nI ((m_settle X).1 7 t)).toInt64) i → Ev mX3_digestTransfer 10 96 [some (qR 11 0), some (qL a), none, some (qI (nI t)), some (qL v), none, some (qI (nI i))] [] 132 (q_put h 11 (oR th sf3 a3 sts snp txt rdd cnt hq len pt iw rm)) 0 0 (fun r n h' => ∃ x, r = some (qL x) ∧ n = 132 ∧ ((fun r h2 => r = m_dT X (m_settle X) t a ∧ ∃ sf' a', RelR sf' X ∧ h2 = q_put h 11 (oR th sf' a' sts snp txt rdd cnt hq len pt iw rm))) x h') qNo := by
    intro m
    induction m using Nat.strongRecOn with
    | _ m ih =>
    intro i v hi hm hv
    refine e_iload6 dX3_digestTransfer_96 ?_
    refine e_iconst (z := 4) dX3_digestTransfer_98 ?_
    first | refine e_icmp_geN 151 dX3_digestTransfer_99 (by decide) (by omega) (by omega) (fun hc99 => ?_) (fun hc99 => ?_) | refine e_icmp_ge 151 dX3_digestTransfer_99 (by decide) (fun hc99 => ?_) (fun hc99 => ?_)
    · obtain rfl : i = 4 := by omega
      subst hv
      refine e_lload4 dX3_digestTransfer_151 ?_
      refine e_lret dX3_digestTransfer_153 rfl ?_
      exact ⟨_, rfl, rfl, rfl, sf3, a3, hR3, rfl⟩
    · refine e_ldcL ckX3_249 dX3_digestTransfer_102 ?_
      refine e_ldcL ckX3_249 dX3_digestTransfer_105 ?_
      refine e_ldcL ckX3_249 dX3_digestTransfer_108 ?_
      refine e_lload4 dX3_digestTransfer_111 ?_
      refine e_lmul dX3_digestTransfer_113 ?_
      refine e_aload0 dX3_digestTransfer_114 ?_
      refine e_iload3 dX3_digestTransfer_115 ?_
      refine e_iload6 dX3_digestTransfer_116 ?_
      refine e_vIF (M' := mX3_shareIn) fX3_shareIn lkX3_54 (r_shareIn h th sf3 a3 sts snp txt rdd cnt hq len pt iw rm X hR3 (t := t) (s := i) (hW.2.2.2.2 t ht).1 (hW.2.2.2.2 t ht).2 ht (by omega)) rfl rfl dX3_digestTransfer_118 rfl rfl (by decide) (Nat.le_of_ble_eq_true rfl) rfl ?_
      rintro _ _ ⟨rfl, rfl⟩
      refine e_i2l dX3_digestTransfer_121 ?_
      refine e_ladd dX3_digestTransfer_122 ?_
      refine e_lmul dX3_digestTransfer_123 ?_
      refine e_aload0 dX3_digestTransfer_124 ?_
      refine e_iload6 dX3_digestTransfer_125 ?_
      refine e_iload3 dX3_digestTransfer_127 ?_
      refine e_vIF (M' := mX3_stateIn) fX3_stateIn lkX3_51 (r_stateIn h th sf3 a3 sts snp txt rdd cnt hq len pt iw rm X hR3 (s := i) (t := t) (by omega) ht) rfl rfl dX3_digestTransfer_128 rfl rfl (by decide) (Nat.le_of_ble_eq_true rfl) rfl ?_
      rintro _ _ ⟨rfl, rfl⟩
      refine e_i2l dX3_digestTransfer_131 ?_
      refine e_ladd dX3_digestTransfer_132 ?_
      refine e_lmul dX3_digestTransfer_133 ?_
      refine e_aload0 dX3_digestTransfer_134 ?_
      refine e_iload6 dX3_digestTransfer_135 ?_
      refine e_iload3 dX3_digestTransfer_137 ?_
      refine e_vIF (M' := mX3_stateLogged) fX3_stateLogged lkX3_196 (r_stateLogged h th sf3 a3 sts snp txt rdd cnt hq len pt iw rm X hR3 hJ (s := i) (t := t) (by omega) ht) rfl rfl dX3_digestTransfer_138 rfl rfl (by decide) (Nat.le_of_ble_eq_true rfl) rfl ?_
      rintro _ _ ⟨rfl, rfl⟩
      refine e_i2l dX3_digestTransfer_141 ?_
      refine e_ladd dX3_digestTransfer_142 ?_
      refine e_lstore4 dX3_digestTransfer_143 rfl (by decide) ?_
      first | refine e_iinc6N (z := 1) dX3_digestTransfer_145 rfl (by decide) ?_ | refine e_iinc6 dX3_digestTransfer_145 rfl rfl (by decide) ?_
      refine e_goto 96 dX3_digestTransfer_148 (by decide) ?_
      exact ih _ (by omega) (i + 1) _ (by omega) rfl (by rw [m_dTs, hv]; rfl)
  exact H _ 0 _ (Nat.zero_le _) rfl rfl
