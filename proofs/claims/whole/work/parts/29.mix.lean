/-! THE HASH, in parts -/
theorem e_ldcL {M : qM} {d pc idx : Nat} {L : List (Option qV)} {st : List qV} {n : Nat} {h : qB} {kc ks : Nat} {P : qP} {X : qX} {v : Int64} (hc : Cond.constantLong M.1.cls idx v ∈ lwA) (dg : decode M.2.1 pc = .ok (.ldc2_w idx, 3)) (k : Ev M d (pc + 3) L (qL v :: st) n h kc ks P X) : Ev M d pc L st n h kc ks P X := by
  intro G p l e R s m args below meth c H locs ls C hl hP hz hS cells slots hu hcc hs
  exact lv_ldc2 C.1 C.2.1 C.2.2.2.1 (C.2.2.2.2.1 _ hc) dg (k G p l e R s m args below meth c H locs ls C hl hP hz hS cells slots hu hcc hs)
theorem e_ldcD {M : qM} {d pc idx : Nat} {L : List (Option qV)} {st : List qV} {n : Nat} {h : qB} {kc ks : Nat} {P : qP} {X : qX} {v : UInt64} (hc : Cond.constantDouble M.1.cls idx v ∈ lwA) (dg : decode M.2.1 pc = .ok (.ldc2_w idx, 3)) (k : Ev M d (pc + 3) L (qD v :: st) n h kc ks P X) : Ev M d pc L st n h kc ks P X := by
  intro G p l e R s m args below meth c H locs ls C hl hP hz hS cells slots hu hcc hs
  exact lv_ldc2d C.1 C.2.1 C.2.2.2.1 (C.2.2.2.2.1 _ hc) dg (k G p l e R s m args below meth c H locs ls C hl hP hz hS cells slots hu hcc hs)
def m_mx (a v : Int64) : Int64 := 31 * a + v
def m_bl (B : Bool) : Int64 := if B = true then 1 else 0
theorem uw_self (w : Fin 16 → qw) (b : Fin 16) : uw w b (w b) = w := by
  funext c
  by_cases hc : c = b
  · subst hc; simp [uw]
  · simp [uw, hc]
def m_dTs (X : qm) (t : Nat) (a : Int64) : Nat → Int64
  | 0 => a
  | n + 1 => m_mx (m_mx (m_mx (m_dTs X t a n) (m_share X t n).toInt64) (nI (X.1 9 (8 * n + t))).toInt64) (nI (m_logSt X n t (X.1 10 n))).toInt64
def m_dT (X Z : qm) (t : Nat) (a : Int64) : Int64 :=
  m_dTs X t (m_mx (m_mx (m_mx (m_mx (m_mx (m_mx (m_mx a (nI (m_part X t)).toInt64) (nI (X.1 7 t)).toInt64) (nI (m_seen X t 4)).toInt64) (m_bl (decide (X.1 8 t = 1)))) (nI (X.1 5 t)).toInt64) (nI (X.1 6 t)).toInt64) (nI (Z.1 7 t)).toInt64) 4
def m_dSs (X : qm) (s : Nat) (a : Int64) : Nat → Int64
  | 0 => a
  | n + 1 => m_mx (m_mx (m_dSs X s a n) (nI (X.1 11 (32 * s + n) / 8)).toInt64) (nI (X.1 11 (32 * s + n) % 8)).toInt64
def m_dS (X : qm) (s : Nat) (a : Int64) : Int64 := m_dSs X s (m_mx (m_mx a (m_bl (decide (X.1 1 s = 1)))) (nI (X.1 10 s)).toInt64) (X.1 10 s)
def m_dMs (X : qm) (a : Int64) : Nat → Int64
  | 0 => a
  | n + 1 => m_mx (m_mx (m_mx (m_mx (m_dMs X a n) (nI (X.1 12 n / 32)).toInt64) (nI (X.1 12 n / 4 % 8)).toInt64) (nI (X.1 12 n % 4)).toInt64) (m_wouldSend X n).toInt64
def m_dM (X : qm) (a : Int64) : Int64 := m_mx (m_mx (m_mx (m_dMs X (m_mx a (nI (X.1 0 4)).toInt64) (X.1 0 4)) (nI (X.1 0 1)).toInt64) (nI (X.1 0 2) + nI (X.1 0 3) + nI (X.1 0 4)).toInt64) (nI (X.1 0 3)).toInt64
set_option maxRecDepth 20000 in
set_option maxHeartbeats 4000000 in
theorem v_mix (h : qB) (a v : Int64) : CtL mX2_mix 0 [qL a, qL v] (h) (fun r h2 => r = m_mx a v ∧ h2 = h) := by
  refine ct_of (by decide +kernel) rfl rfl (Nat.le_of_ble_eq_true rfl) ?_
  show Ev mX2_mix 0 0 [some (qL a), none, some (qL v), none] [] 132 (h) 0 0 _ _
  refine e_ldcL ckX2_402 dX2_mix_0 ?_
  refine e_lload0 dX2_mix_3 ?_
  refine e_lmul dX2_mix_4 ?_
  refine e_lload2 dX2_mix_5 ?_
  refine e_ladd dX2_mix_6 ?_
  refine e_lret dX2_mix_7 rfl ?_
  exact ⟨_, rfl, rfl, rfl, rfl⟩
set_option maxRecDepth 20000 in
set_option maxHeartbeats 4000000 in
theorem v_mixTransfer (h : qB) (pi : Nat → Option qK) (buf : Nat → Int32) (cnt sn len : Int32) (rd : Nat → Int32) (w : Fin 16 → qw) (X : qm) (hR : RelC (w 1) X) (hJ : J X) (Z : qm) (hZ : RelC (w 4) Z) (hJZ : J Z) {t : Nat} (ht : t < X.1 0 0) (a : Int64) : CtL mX2_mixTransfer 3 [qR 0 0, qL a, qI (nI t)] (hK h (oC pi buf cnt sn len rd) w 10) (fun r h2 => r = m_dT X Z t a ∧ h2 = hK h (oC pi buf cnt sn len rd) w 10) := by
  have ht8 : t < 8 := Nat.lt_of_lt_of_le ht (iV1 hJ.1)
  refine ct_of (by decide +kernel) rfl rfl (Nat.le_of_ble_eq_true rfl) ?_
  show Ev mX2_mixTransfer 3 0 [some (qR 0 0), some (qL a), none, some (qI (nI t)), none, none, none] [] 132 (hK h (oC pi buf cnt sn len rd) w 10) 0 0 _ _
  refine e_lload1 dX2_mixTransfer_0 ?_
  refine e_aload0 dX2_mixTransfer_1 ?_
  refine e_iload3 dX2_mixTransfer_2 ?_
  refine e_vI (M' := mX2_partners) fX2_partners lkX2_339 (v_partners h pi buf cnt sn len rd w X hR hJ (t := t) ht) rfl rfl dX2_mixTransfer_3 (by rw [hK_0]; rfl) rfl (by decide) (Nat.le_of_ble_eq_true rfl) rfl ?_
  rintro _ _ ⟨rfl, rfl⟩
  refine e_i2l dX2_mixTransfer_6 ?_
  refine e_sL (M' := mX2_mix) fX2_mix lkX2_257 (v_mix _ _ _) rfl rfl dX2_mixTransfer_7 (by decide) (Nat.le_of_ble_eq_true rfl) rfl ?_
  rintro _ _ ⟨rfl, rfl⟩
  refine e_lstore4 dX2_mixTransfer_10 rfl (by decide) ?_
  refine e_lload4 dX2_mixTransfer_12 ?_
  refine e_aload0 dX2_mixTransfer_14 ?_
  refine e_iload3 dX2_mixTransfer_15 ?_
  refine e_vI (M' := mX2_outcome) fX2_outcome lkX2_342 (v_outcome h pi buf cnt sn len rd w X hR hJ (t := t) ht) rfl rfl dX2_mixTransfer_16 (by rw [hK_0]; rfl) rfl (by decide) (Nat.le_of_ble_eq_true rfl) rfl ?_
  rintro _ _ ⟨rfl, rfl⟩
  refine e_i2l dX2_mixTransfer_19 ?_
  refine e_sL (M' := mX2_mix) fX2_mix lkX2_257 (v_mix _ _ _) rfl rfl dX2_mixTransfer_20 (by decide) (Nat.le_of_ble_eq_true rfl) rfl ?_
  rintro _ _ ⟨rfl, rfl⟩
  refine e_lstore4 dX2_mixTransfer_23 rfl (by decide) ?_
  refine e_lload4 dX2_mixTransfer_25 ?_
  refine e_aload0 dX2_mixTransfer_27 ?_
  refine e_iload3 dX2_mixTransfer_28 ?_
  refine e_vI (M' := mX2_outcomeByStores) fX2_outcomeByStores lkX2_345 (v_outcomeByStores h pi buf cnt sn len rd w X hR hJ (t := t) ht) rfl rfl dX2_mixTransfer_29 (by rw [hK_0]; rfl) rfl (by decide) (Nat.le_of_ble_eq_true rfl) rfl ?_
  rintro _ _ ⟨rfl, rfl⟩
  refine e_i2l dX2_mixTransfer_32 ?_
  refine e_sL (M' := mX2_mix) fX2_mix lkX2_257 (v_mix _ _ _) rfl rfl dX2_mixTransfer_33 (by decide) (Nat.le_of_ble_eq_true rfl) rfl ?_
  rintro _ _ ⟨rfl, rfl⟩
  refine e_lstore4 dX2_mixTransfer_36 rfl (by decide) ?_
  refine e_lload4 dX2_mixTransfer_38 ?_
  refine e_aload0 dX2_mixTransfer_40 ?_
  refine e_iload3 dX2_mixTransfer_41 ?_
  refine e_vI (M' := mX2_hasEnded) fX2_hasEnded lkX2_348 (v_hasEnded h pi buf cnt sn len rd w X hR hJ (t := t) ht) rfl rfl dX2_mixTransfer_42 (by rw [hK_0]; rfl) rfl (by decide) (Nat.le_of_ble_eq_true rfl) rfl ?_
  rintro _ _ ⟨rfl, rfl⟩
  generalize hB : decide (X.1 8 t = 1) = B1
  have hb1 : B1.toNat < 2 := by cases B1 <;> decide
  have HT : Ev mX2_mixTransfer 3 53 [some (qR 0 0), some (qL a), none, some (qI (nI t)), some (qL (m_mx (m_mx (m_mx a (nI (m_part X t)).toInt64) (nI (X.1 7 t)).toInt64) (nI (m_seen X t 4)).toInt64)), none, none] [qL (m_bl B1), qL (m_mx (m_mx (m_mx a (nI (m_part X t)).toInt64) (nI (X.1 7 t)).toInt64) (nI (m_seen X t 4)).toInt64)] 132 (hK h (oC pi buf cnt sn len rd) w 10) 0 0 (fun r n h' => ∃ x, r = some (qL x) ∧ n = 132 ∧ ((fun r h2 => r = m_dT X Z t a ∧ h2 = hK h (oC pi buf cnt sn len rd) w 10)) x h') qNo := by
    refine e_sL (M' := mX2_mix) fX2_mix lkX2_257 (v_mix _ _ _) rfl rfl dX2_mixTransfer_53 (by decide) (Nat.le_of_ble_eq_true rfl) rfl ?_
    rintro _ _ ⟨rfl, rfl⟩
    refine e_lstore4 dX2_mixTransfer_56 rfl (by decide) ?_
    refine e_lload4 dX2_mixTransfer_58 ?_
    refine e_aload0 dX2_mixTransfer_60 ?_
    refine e_iload3 dX2_mixTransfer_61 ?_
    refine e_vI (M' := mX2_saidYes) fX2_saidYes lkX2_351 (v_saidYes h pi buf cnt sn len rd w X hR hJ (t := t) ht) rfl rfl dX2_mixTransfer_62 (by rw [hK_0]; rfl) rfl (by decide) (Nat.le_of_ble_eq_true rfl) rfl ?_
    rintro _ _ ⟨rfl, rfl⟩
    refine e_i2l dX2_mixTransfer_65 ?_
    refine e_sL (M' := mX2_mix) fX2_mix lkX2_257 (v_mix _ _ _) rfl rfl dX2_mixTransfer_66 (by decide) (Nat.le_of_ble_eq_true rfl) rfl ?_
    rintro _ _ ⟨rfl, rfl⟩
    refine e_lstore4 dX2_mixTransfer_69 rfl (by decide) ?_
    refine e_lload4 dX2_mixTransfer_71 ?_
    refine e_aload0 dX2_mixTransfer_73 ?_
    refine e_iload3 dX2_mixTransfer_74 ?_
    refine e_vI (M' := mX2_saidDone) fX2_saidDone lkX2_354 (v_saidDone h pi buf cnt sn len rd w X hR hJ (t := t) ht) rfl rfl dX2_mixTransfer_75 (by rw [hK_0]; rfl) rfl (by decide) (Nat.le_of_ble_eq_true rfl) rfl ?_
    rintro _ _ ⟨rfl, rfl⟩
    refine e_i2l dX2_mixTransfer_78 ?_
    refine e_sL (M' := mX2_mix) fX2_mix lkX2_257 (v_mix _ _ _) rfl rfl dX2_mixTransfer_79 (by decide) (Nat.le_of_ble_eq_true rfl) rfl ?_
    rintro _ _ ⟨rfl, rfl⟩
    refine e_lstore4 dX2_mixTransfer_82 rfl (by decide) ?_
    refine e_lload4 dX2_mixTransfer_84 ?_
    refine e_aload0 dX2_mixTransfer_86 ?_
    refine e_get0 flX2_22 dX2_mixTransfer_87 rfl rfl ?_
    refine e_iload3 dX2_mixTransfer_90 ?_
    refine e_vI (M' := mX1_outcomeByLog) fX1_outcomeByLog lkX2_203 (ctI_K (b := 4) (by decide) (by decide) (w_outcomeByLog (hK h (oC pi buf cnt sn len rd) w 10) 4 (w 4) Z hZ hJZ.1 (t := t) ht8)) rfl rfl dX2_mixTransfer_91 (by rw [hK_at (by decide) (by decide)]; rfl) rfl (by decide) (Nat.le_of_ble_eq_true rfl) rfl ?_
    rintro _ _ ⟨rfl, rfl⟩
    rw [hK_self (by decide) (by decide)]
    rw [hJZ.2.2.2.1 t ht8]
    refine e_i2l dX2_mixTransfer_94 ?_
    refine e_sL (M' := mX2_mix) fX2_mix lkX2_257 (v_mix _ _ _) rfl rfl dX2_mixTransfer_95 (by decide) (Nat.le_of_ble_eq_true rfl) rfl ?_
    rintro _ _ ⟨rfl, rfl⟩
    refine e_lstore4 dX2_mixTransfer_98 rfl (by decide) ?_
    refine e_iconst (z := 0) dX2_mixTransfer_100 ?_
    refine e_istore6 dX2_mixTransfer_101 rfl (by decide) ?_
    have H : ∀ (m i : Nat) (v : Int64), i ≤ 4 → m = 4 - i → v = m_dTs X t (m_mx (m_mx (m_mx (m_mx (m_mx (m_mx (m_mx a (nI (m_part X t)).toInt64) (nI (X.1 7 t)).toInt64) (nI (m_seen X t 4)).toInt64) (m_bl B1)) (nI (X.1 5 t)).toInt64) (nI (X.1 6 t)).toInt64) (nI (Z.1 7 t)).toInt64) i → Ev mX2_mixTransfer 3 103 [some (qR 0 0), some (qL a), none, some (qI (nI t)), some (qL v), none, some (qI (nI i))] [] 132 (hK h (oC pi buf cnt sn len rd) w 10) 0 0 (fun r n h' => ∃ x, r = some (qL x) ∧ n = 132 ∧ ((fun r h2 => r = m_dT X Z t a ∧ h2 = hK h (oC pi buf cnt sn len rd) w 10)) x h') qNo := by
      intro m
      induction m using Nat.strongRecOn with
      | _ m ih =>
      intro i v hi hm hv
      refine e_iload6 dX2_mixTransfer_103 ?_
      refine e_iconst (z := 4) dX2_mixTransfer_105 ?_
      first | refine e_icmp_geN 160 dX2_mixTransfer_106 (by decide) (by omega) (by omega) (fun hc106 => ?_) (fun hc106 => ?_) | refine e_icmp_ge 160 dX2_mixTransfer_106 (by decide) (fun hc106 => ?_) (fun hc106 => ?_)
      · refine e_lload4 dX2_mixTransfer_160 ?_
        refine e_lret dX2_mixTransfer_162 rfl ?_
        obtain rfl : i = 4 := by omega
        exact ⟨_, rfl, rfl, by rw [hv, m_dT, hB], rfl⟩
      · refine e_lload4 dX2_mixTransfer_109 ?_
        refine e_aload0 dX2_mixTransfer_111 ?_
        refine e_iload3 dX2_mixTransfer_112 ?_
        refine e_iload6 dX2_mixTransfer_113 ?_
        refine e_vI (M' := mX2_share) fX2_share lkX2_357 (v_share h pi buf cnt sn len rd w X hR hJ (t := t) ht (s := i) (by omega)) rfl rfl dX2_mixTransfer_115 (by rw [hK_0]; rfl) rfl (by decide) (Nat.le_of_ble_eq_true rfl) rfl ?_
        rintro _ _ ⟨rfl, rfl⟩
        refine e_i2l dX2_mixTransfer_118 ?_
        refine e_sL (M' := mX2_mix) fX2_mix lkX2_257 (v_mix _ _ _) rfl rfl dX2_mixTransfer_119 (by decide) (Nat.le_of_ble_eq_true rfl) rfl ?_
        rintro _ _ ⟨rfl, rfl⟩
        refine e_lstore4 dX2_mixTransfer_122 rfl (by decide) ?_
        refine e_lload4 dX2_mixTransfer_124 ?_
        refine e_aload0 dX2_mixTransfer_126 ?_
        refine e_iload6 dX2_mixTransfer_127 ?_
        refine e_iload3 dX2_mixTransfer_129 ?_
        refine e_vI (M' := mX2_state) fX2_state lkX2_360 (v_state h pi buf cnt sn len rd w X hR hJ (s := i) (by omega) (t := t) ht) rfl rfl dX2_mixTransfer_130 (by rw [hK_0]; rfl) rfl (by decide) (Nat.le_of_ble_eq_true rfl) rfl ?_
        rintro _ _ ⟨rfl, rfl⟩
        refine e_i2l dX2_mixTransfer_133 ?_
        refine e_sL (M' := mX2_mix) fX2_mix lkX2_257 (v_mix _ _ _) rfl rfl dX2_mixTransfer_134 (by decide) (Nat.le_of_ble_eq_true rfl) rfl ?_
        rintro _ _ ⟨rfl, rfl⟩
        refine e_lstore4 dX2_mixTransfer_137 rfl (by decide) ?_
        refine e_lload4 dX2_mixTransfer_139 ?_
        refine e_aload0 dX2_mixTransfer_141 ?_
        refine e_iload6 dX2_mixTransfer_142 ?_
        refine e_iload3 dX2_mixTransfer_144 ?_
        refine e_vI (M' := mX2_stateByLog) fX2_stateByLog lkX2_363 (v_stateByLog h pi buf cnt sn len rd w X hR hJ (s := i) (by omega) (t := t) ht) rfl rfl dX2_mixTransfer_145 (by rw [hK_0]; rfl) rfl (by decide) (Nat.le_of_ble_eq_true rfl) rfl ?_
        rintro _ _ ⟨rfl, rfl⟩
        refine e_i2l dX2_mixTransfer_148 ?_
        refine e_sL (M' := mX2_mix) fX2_mix lkX2_257 (v_mix _ _ _) rfl rfl dX2_mixTransfer_149 (by decide) (Nat.le_of_ble_eq_true rfl) rfl ?_
        rintro _ _ ⟨rfl, rfl⟩
        refine e_lstore4 dX2_mixTransfer_152 rfl (by decide) ?_
        first | refine e_iinc6N (z := 1) dX2_mixTransfer_154 rfl (by decide) ?_ | refine e_iinc6 dX2_mixTransfer_154 rfl rfl (by decide) ?_
        refine e_goto 103 dX2_mixTransfer_157 (by decide) ?_
        exact ih _ (by omega) (i + 1) _ (by omega) rfl (by rw [m_dTs, hv])
    exact H _ 0 _ (Nat.zero_le _) rfl rfl
  refine e_if_eqN 52 dX2_mixTransfer_45 (by decide) (by omega) (fun q => ?_) (fun q => ?_)
  · obtain rfl : B1 = false := by cases B1 <;> first | rfl | exact absurd q (by decide)
    refine e_lconst (v := 0) dX2_mixTransfer_52 (by decide) ?_
    exact HT
  · obtain rfl : B1 = true := by cases B1 <;> first | rfl | exact absurd q (by decide)
    refine e_lconst (v := 1) dX2_mixTransfer_48 (by decide) ?_
    refine e_goto 53 dX2_mixTransfer_49 (by decide) ?_
    exact HT
set_option maxRecDepth 20000 in
set_option maxHeartbeats 4000000 in
theorem v_mixSite (h : qB) (pi : Nat → Option qK) (buf : Nat → Int32) (cnt sn len : Int32) (rd : Nat → Int32) (w : Fin 16 → qw) (X : qm) (hR : RelC (w 1) X) (hJ : J X) {s : Nat} (hs5 : s < 5) (a : Int64) : CtL mX2_mixSite 3 [qR 0 0, qL a, qI (nI s)] (hK h (oC pi buf cnt sn len rd) w 10) (fun r h2 => r = m_dS X s a ∧ h2 = hK h (oC pi buf cnt sn len rd) w 10) := by
  refine ct_of (by decide +kernel) rfl rfl (Nat.le_of_ble_eq_true rfl) ?_
  show Ev mX2_mixSite 3 0 [some (qR 0 0), some (qL a), none, some (qI (nI s)), none, none, none] [] 132 (hK h (oC pi buf cnt sn len rd) w 10) 0 0 _ _
  refine e_lload1 dX2_mixSite_0 ?_
  refine e_aload0 dX2_mixSite_1 ?_
  refine e_iload3 dX2_mixSite_2 ?_
  refine e_vI (M' := mX2_isUp) fX2_isUp lkX2_366 (v_isUp h pi buf cnt sn len rd w X hR hJ (k := s) hs5) rfl rfl dX2_mixSite_3 (by rw [hK_0]; rfl) rfl (by decide) (Nat.le_of_ble_eq_true rfl) rfl ?_
  rintro _ _ ⟨rfl, rfl⟩
  generalize hB : decide (X.1 1 s = 1) = B1
  have hb1 : B1.toNat < 2 := by cases B1 <;> decide
  have HT : Ev mX2_mixSite 3 14 [some (qR 0 0), some (qL a), none, some (qI (nI s)), none, none, none] [qL (m_bl B1), qL a] 132 (hK h (oC pi buf cnt sn len rd) w 10) 0 0 (fun r n h' => ∃ x, r = some (qL x) ∧ n = 132 ∧ ((fun r h2 => r = m_dS X s a ∧ h2 = hK h (oC pi buf cnt sn len rd) w 10)) x h') qNo := by
    refine e_sL (M' := mX2_mix) fX2_mix lkX2_257 (v_mix _ _ _) rfl rfl dX2_mixSite_14 (by decide) (Nat.le_of_ble_eq_true rfl) rfl ?_
    rintro _ _ ⟨rfl, rfl⟩
    refine e_lstore4 dX2_mixSite_17 rfl (by decide) ?_
    refine e_lload4 dX2_mixSite_19 ?_
    refine e_aload0 dX2_mixSite_21 ?_
    refine e_iload3 dX2_mixSite_22 ?_
    refine e_vI (M' := mX2_records) fX2_records lkX2_369 (v_records h pi buf cnt sn len rd w X hR hJ (k := s) hs5) rfl rfl dX2_mixSite_23 (by rw [hK_0]; rfl) rfl (by decide) (Nat.le_of_ble_eq_true rfl) rfl ?_
    rintro _ _ ⟨rfl, rfl⟩
    refine e_i2l dX2_mixSite_26 ?_
    refine e_sL (M' := mX2_mix) fX2_mix lkX2_257 (v_mix _ _ _) rfl rfl dX2_mixSite_27 (by decide) (Nat.le_of_ble_eq_true rfl) rfl ?_
    rintro _ _ ⟨rfl, rfl⟩
    refine e_lstore4 dX2_mixSite_30 rfl (by decide) ?_
    refine e_iconst (z := 0) dX2_mixSite_32 ?_
    refine e_istore6 dX2_mixSite_33 rfl (by decide) ?_
    have H : ∀ (m i : Nat) (v : Int64), i ≤ X.1 10 s → m = X.1 10 s - i → v = m_dSs X s (m_mx (m_mx a (m_bl B1)) (nI (X.1 10 s)).toInt64) i → Ev mX2_mixSite 3 35 [some (qR 0 0), some (qL a), none, some (qI (nI s)), some (qL v), none, some (qI (nI i))] [] 132 (hK h (oC pi buf cnt sn len rd) w 10) 0 0 (fun r n h' => ∃ x, r = some (qL x) ∧ n = 132 ∧ ((fun r h2 => r = m_dS X s a ∧ h2 = hK h (oC pi buf cnt sn len rd) w 10)) x h') qNo := by
      intro m
      induction m using Nat.strongRecOn with
      | _ m ih =>
      intro i v hi hm hv
      refine e_iload6 dX2_mixSite_35 ?_
      refine e_aload0 dX2_mixSite_37 ?_
      refine e_get0 flX2_10 dX2_mixSite_38 rfl rfl ?_
      refine e_getW flX2_188 dX2_mixSite_41 (by decide) (by decide) rfl rfl ?_
      refine e_iload3 dX2_mixSite_44 ?_
      first | refine e_ialoadW dX2_mixSite_45 (by decide) (by decide) rfl (by omega) (by decide) ?_ | refine e_ialoadB dX2_mixSite_45 rfl (by omega) (by decide) ?_
      rw [rC12 hR s hs5]
      have hl24 := j_L hJ s hs5
      first | refine e_icmp_geN 85 dX2_mixSite_46 (by decide) (by omega) (by omega) (fun hc46 => ?_) (fun hc46 => ?_) | refine e_icmp_ge 85 dX2_mixSite_46 (by decide) (fun hc46 => ?_) (fun hc46 => ?_)
      · refine e_lload4 dX2_mixSite_85 ?_
        refine e_lret dX2_mixSite_87 rfl ?_
        obtain rfl : i = X.1 10 s := by omega
        exact ⟨_, rfl, rfl, by rw [hv, m_dS, hB], rfl⟩
      · refine e_lload4 dX2_mixSite_49 ?_
        refine e_aload0 dX2_mixSite_51 ?_
        refine e_iload3 dX2_mixSite_52 ?_
        refine e_iload6 dX2_mixSite_53 ?_
        refine e_vI (M' := mX2_recordKind) fX2_recordKind lkX2_372 (v_recordKind h pi buf cnt sn len rd w X hR hJ (k := s) hs5 (p := i) (by omega)) rfl rfl dX2_mixSite_55 (by rw [hK_0]; rfl) rfl (by decide) (Nat.le_of_ble_eq_true rfl) rfl ?_
        rintro _ _ ⟨rfl, rfl⟩
        rw [if_pos (show i < X.1 10 s by omega)]
        refine e_i2l dX2_mixSite_58 ?_
        refine e_sL (M' := mX2_mix) fX2_mix lkX2_257 (v_mix _ _ _) rfl rfl dX2_mixSite_59 (by decide) (Nat.le_of_ble_eq_true rfl) rfl ?_
        rintro _ _ ⟨rfl, rfl⟩
        refine e_lstore4 dX2_mixSite_62 rfl (by decide) ?_
        refine e_lload4 dX2_mixSite_64 ?_
        refine e_aload0 dX2_mixSite_66 ?_
        refine e_iload3 dX2_mixSite_67 ?_
        refine e_iload6 dX2_mixSite_68 ?_
        refine e_vI (M' := mX2_recordTransfer) fX2_recordTransfer lkX2_375 (v_recordTransfer h pi buf cnt sn len rd w X hR hJ (k := s) hs5 (p := i) (by omega)) rfl rfl dX2_mixSite_70 (by rw [hK_0]; rfl) rfl (by decide) (Nat.le_of_ble_eq_true rfl) rfl ?_
        rintro _ _ ⟨rfl, rfl⟩
        rw [if_pos (show i < X.1 10 s by omega)]
        refine e_i2l dX2_mixSite_73 ?_
        refine e_sL (M' := mX2_mix) fX2_mix lkX2_257 (v_mix _ _ _) rfl rfl dX2_mixSite_74 (by decide) (Nat.le_of_ble_eq_true rfl) rfl ?_
        rintro _ _ ⟨rfl, rfl⟩
        refine e_lstore4 dX2_mixSite_77 rfl (by decide) ?_
        first | refine e_iinc6N (z := 1) dX2_mixSite_79 rfl (by decide) ?_ | refine e_iinc6 dX2_mixSite_79 rfl rfl (by decide) ?_
        refine e_goto 35 dX2_mixSite_82 (by decide) ?_
        exact ih _ (by omega) (i + 1) _ (by omega) rfl (by rw [m_dSs, hv])
    exact H _ 0 _ (Nat.zero_le _) rfl rfl
  refine e_if_eqN 13 dX2_mixSite_6 (by decide) (by omega) (fun q => ?_) (fun q => ?_)
  · obtain rfl : B1 = false := by cases B1 <;> first | rfl | exact absurd q (by decide)
    refine e_lconst (v := 0) dX2_mixSite_13 (by decide) ?_
    exact HT
  · obtain rfl : B1 = true := by cases B1 <;> first | rfl | exact absurd q (by decide)
    refine e_lconst (v := 1) dX2_mixSite_9 (by decide) ?_
    refine e_goto 14 dX2_mixSite_10 (by decide) ?_
    exact HT
set_option maxRecDepth 20000 in
set_option maxHeartbeats 4000000 in
theorem v_mixMessages (h : qB) (pi : Nat → Option qK) (buf : Nat → Int32) (cnt sn len : Int32) (rd : Nat → Int32) (w : Fin 16 → qw) (X : qm) (hR : RelC (w 1) X) (hJ : J X) (a : Int64) : CtL mX2_mixMessages 5 [qR 0 0, qL a] (hK h (oC pi buf cnt sn len rd) w 10) (fun r h2 => r = m_dM X a ∧ ∃ x, h2 = hK h (oC pi buf cnt sn len rd) (uw w 3 x) 10) := by
  have HW := uw_self w 3
  refine ct_of (by decide +kernel) rfl rfl (Nat.le_of_ble_eq_true rfl) ?_
  show Ev mX2_mixMessages 5 0 [some (qR 0 0), some (qL a), none, none, none, none] [] 132 (hK h (oC pi buf cnt sn len rd) w 10) 0 0 _ _
  refine e_lload1 dX2_mixMessages_0 ?_
  refine e_aload0 dX2_mixMessages_1 ?_
  refine e_vI (M' := mX2_waiting) fX2_waiting lkX2_378 (v_waiting h pi buf cnt sn len rd w X hR hJ) rfl rfl dX2_mixMessages_2 (by rw [hK_0]; rfl) rfl (by decide) (Nat.le_of_ble_eq_true rfl) rfl ?_
  rintro _ _ ⟨rfl, rfl⟩
  refine e_i2l dX2_mixMessages_5 ?_
  refine e_sL (M' := mX2_mix) fX2_mix lkX2_257 (v_mix _ _ _) rfl rfl dX2_mixMessages_6 (by decide) (Nat.le_of_ble_eq_true rfl) rfl ?_
  rintro _ _ ⟨rfl, rfl⟩
  refine e_lstore3 dX2_mixMessages_9 rfl (by decide) ?_
  refine e_iconst (z := 0) dX2_mixMessages_10 ?_
  refine e_istore5 dX2_mixMessages_11 rfl (by decide) ?_
  have H : ∀ (m i : Nat) (v : Int64) (x : qw), i ≤ X.1 0 4 → m = X.1 0 4 - i → v = m_dMs X (m_mx a (nI (X.1 0 4)).toInt64) i → Ev mX2_mixMessages 5 13 [some (qR 0 0), some (qL a), none, some (qL v), none, some (qI (nI i))] [] 132 (hK h (oC pi buf cnt sn len rd) (uw w 3 x) 10) 0 0 (fun r n h' => ∃ x, r = some (qL x) ∧ n = 132 ∧ ((fun r h2 => r = m_dM X a ∧ ∃ x, h2 = hK h (oC pi buf cnt sn len rd) (uw w 3 x) 10)) x h') qNo := by
    intro m
    induction m using Nat.strongRecOn with
    | _ m ih =>
    intro i v x hi hm hv
    have i2 := iV2 hJ.1
    refine e_iload5 dX2_mixMessages_13 ?_
    refine e_aload0 dX2_mixMessages_15 ?_
    refine e_get0 flX2_10 dX2_mixMessages_16 rfl rfl ?_
    refine e_getW flX2_94 dX2_mixMessages_19 (by decide) (by decide) rfl rfl ?_
    rw [show uw w 3 x 1 14 0 = nI (X.1 0 4) from rC14 hR]
    first | refine e_icmp_geN 79 dX2_mixMessages_22 (by decide) (by omega) (by omega) (fun hc22 => ?_) (fun hc22 => ?_) | refine e_icmp_ge 79 dX2_mixMessages_22 (by decide) (fun hc22 => ?_) (fun hc22 => ?_)
    · refine e_lload3 dX2_mixMessages_79 ?_
      refine e_aload0 dX2_mixMessages_80 ?_
      refine e_vI (M' := mX2_sent) fX2_sent lkX2_393 (v_sent h pi buf cnt sn len rd (uw w 3 x) X (show RelC (uw w 3 x 1) X from hR) hJ) rfl rfl dX2_mixMessages_81 (by rw [hK_0]; rfl) rfl (by decide) (Nat.le_of_ble_eq_true rfl) rfl ?_
      rintro _ _ ⟨rfl, rfl⟩
      refine e_i2l dX2_mixMessages_84 ?_
      refine e_sL (M' := mX2_mix) fX2_mix lkX2_257 (v_mix _ _ _) rfl rfl dX2_mixMessages_85 (by decide) (Nat.le_of_ble_eq_true rfl) rfl ?_
      rintro _ _ ⟨rfl, rfl⟩
      refine e_lstore3 dX2_mixMessages_88 rfl (by decide) ?_
      refine e_lload3 dX2_mixMessages_89 ?_
      refine e_aload0 dX2_mixMessages_90 ?_
      refine e_vI (M' := mX2_sentByAccount) fX2_sentByAccount lkX2_396 (v_sentByAccount h pi buf cnt sn len rd (uw w 3 x) X (show RelC (uw w 3 x 1) X from hR) hJ) rfl rfl dX2_mixMessages_91 (by rw [hK_0]; rfl) rfl (by decide) (Nat.le_of_ble_eq_true rfl) rfl ?_
      rintro _ _ ⟨rfl, rfl⟩
      refine e_i2l dX2_mixMessages_94 ?_
      refine e_sL (M' := mX2_mix) fX2_mix lkX2_257 (v_mix _ _ _) rfl rfl dX2_mixMessages_95 (by decide) (Nat.le_of_ble_eq_true rfl) rfl ?_
      rintro _ _ ⟨rfl, rfl⟩
      refine e_lstore3 dX2_mixMessages_98 rfl (by decide) ?_
      refine e_lload3 dX2_mixMessages_99 ?_
      refine e_aload0 dX2_mixMessages_100 ?_
      refine e_vI (M' := mX2_lost) fX2_lost lkX2_399 (v_lost h pi buf cnt sn len rd (uw w 3 x) X (show RelC (uw w 3 x 1) X from hR) hJ) rfl rfl dX2_mixMessages_101 (by rw [hK_0]; rfl) rfl (by decide) (Nat.le_of_ble_eq_true rfl) rfl ?_
      rintro _ _ ⟨rfl, rfl⟩
      refine e_i2l dX2_mixMessages_104 ?_
      refine e_sL (M' := mX2_mix) fX2_mix lkX2_257 (v_mix _ _ _) rfl rfl dX2_mixMessages_105 (by decide) (Nat.le_of_ble_eq_true rfl) rfl ?_
      rintro _ _ ⟨rfl, rfl⟩
      refine e_lret dX2_mixMessages_108 rfl ?_
      obtain rfl : i = X.1 0 4 := by omega
      exact ⟨_, rfl, rfl, by rw [hv, m_dM], x, rfl⟩
    · refine e_lload3 dX2_mixMessages_25 ?_
      refine e_aload0 dX2_mixMessages_26 ?_
      refine e_iload5 dX2_mixMessages_27 ?_
      refine e_vI (M' := mX2_kindOf) fX2_kindOf lkX2_381 (v_kindOf h pi buf cnt sn len rd (uw w 3 x) X (show RelC (uw w 3 x 1) X from hR) hJ (p := i) (by omega)) rfl rfl dX2_mixMessages_29 (by rw [hK_0]; rfl) rfl (by decide) (Nat.le_of_ble_eq_true rfl) rfl ?_
      rintro _ _ ⟨rfl, rfl⟩
      rw [if_pos (show i < X.1 0 4 by omega)]
      refine e_i2l dX2_mixMessages_32 ?_
      refine e_sL (M' := mX2_mix) fX2_mix lkX2_257 (v_mix _ _ _) rfl rfl dX2_mixMessages_33 (by decide) (Nat.le_of_ble_eq_true rfl) rfl ?_
      rintro _ _ ⟨rfl, rfl⟩
      refine e_lstore3 dX2_mixMessages_36 rfl (by decide) ?_
      refine e_lload3 dX2_mixMessages_37 ?_
      refine e_aload0 dX2_mixMessages_38 ?_
      refine e_iload5 dX2_mixMessages_39 ?_
      refine e_vI (M' := mX2_transferOf) fX2_transferOf lkX2_384 (v_transferOf h pi buf cnt sn len rd (uw w 3 x) X (show RelC (uw w 3 x 1) X from hR) hJ (p := i) (by omega)) rfl rfl dX2_mixMessages_41 (by rw [hK_0]; rfl) rfl (by decide) (Nat.le_of_ble_eq_true rfl) rfl ?_
      rintro _ _ ⟨rfl, rfl⟩
      rw [if_pos (show i < X.1 0 4 by omega)]
      refine e_i2l dX2_mixMessages_44 ?_
      refine e_sL (M' := mX2_mix) fX2_mix lkX2_257 (v_mix _ _ _) rfl rfl dX2_mixMessages_45 (by decide) (Nat.le_of_ble_eq_true rfl) rfl ?_
      rintro _ _ ⟨rfl, rfl⟩
      refine e_lstore3 dX2_mixMessages_48 rfl (by decide) ?_
      refine e_lload3 dX2_mixMessages_49 ?_
      refine e_aload0 dX2_mixMessages_50 ?_
      refine e_iload5 dX2_mixMessages_51 ?_
      refine e_vI (M' := mX2_storeOf) fX2_storeOf lkX2_387 (v_storeOf h pi buf cnt sn len rd (uw w 3 x) X (show RelC (uw w 3 x 1) X from hR) hJ (p := i) (by omega)) rfl rfl dX2_mixMessages_53 (by rw [hK_0]; rfl) rfl (by decide) (Nat.le_of_ble_eq_true rfl) rfl ?_
      rintro _ _ ⟨rfl, rfl⟩
      rw [if_pos (show i < X.1 0 4 by omega)]
      refine e_i2l dX2_mixMessages_56 ?_
      refine e_sL (M' := mX2_mix) fX2_mix lkX2_257 (v_mix _ _ _) rfl rfl dX2_mixMessages_57 (by decide) (Nat.le_of_ble_eq_true rfl) rfl ?_
      rintro _ _ ⟨rfl, rfl⟩
      refine e_lstore3 dX2_mixMessages_60 rfl (by decide) ?_
      refine e_lload3 dX2_mixMessages_61 ?_
      refine e_aload0 dX2_mixMessages_62 ?_
      refine e_iload5 dX2_mixMessages_63 ?_
      refine e_vI (M' := mX2_wouldSend) fX2_wouldSend lkX2_390 (v_wouldSend h pi buf cnt sn len rd (uw w 3 x) X (show RelC (uw w 3 x 1) X from hR) hJ (p := i) (by omega)) rfl rfl dX2_mixMessages_65 (by rw [hK_0]; rfl) rfl (by decide) (Nat.le_of_ble_eq_true rfl) rfl ?_
      rintro _ _ ⟨rfl, y, rfl⟩
      rw [uw_uw]
      refine e_i2l dX2_mixMessages_68 ?_
      refine e_sL (M' := mX2_mix) fX2_mix lkX2_257 (v_mix _ _ _) rfl rfl dX2_mixMessages_69 (by decide) (Nat.le_of_ble_eq_true rfl) rfl ?_
      rintro _ _ ⟨rfl, rfl⟩
      refine e_lstore3 dX2_mixMessages_72 rfl (by decide) ?_
      first | refine e_iinc5N (z := 1) dX2_mixMessages_73 rfl (by decide) ?_ | refine e_iinc5 dX2_mixMessages_73 rfl rfl (by decide) ?_
      refine e_goto 13 dX2_mixMessages_76 (by decide) ?_
      exact ih _ (by omega) (i + 1) _ y (by omega) rfl (by rw [m_dMs, hv])
  exact HW ▸ H _ 0 _ (w 3) (Nat.zero_le _) rfl rfl
