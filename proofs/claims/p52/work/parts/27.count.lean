/-! LOOKS THAT COUNT -/
theorem nI_ge0 {p : Nat} (h : p < 2 ^ 31) : (0 : Int32) ≤ nI p := by
  rcases Int32.lt_or_le (nI p) 0 with q | q
  · exact absurd q (nI_pos h)
  · exact q
def m_logAm (X : qm) (s : Nat) : Nat → Int32
  | 0 => nI 100
  | n + 1 => if X.1 11 (32 * s + n) / 8 = 1 then m_logAm X s n + m_share X (X.1 11 (32 * s + n) % 8) s else m_logAm X s n
def m_logSt (X : qm) (s t : Nat) : Nat → Nat
  | 0 => 0
  | n + 1 => if X.1 11 (32 * s + n) % 8 = t then m_stAfter (X.1 11 (32 * s + n) / 8) else m_logSt X s t n
def m_doubt (X : qm) (s : Nat) : Nat → Nat
  | 0 => 0
  | n + 1 => if X.1 9 (8 * s + n) = 1 then m_doubt X s n + 1 else m_doubt X s n
def m_seen (X : qm) (t : Nat) : Nat → Nat
  | 0 => 0
  | n + 1 => if X.1 9 (8 * n + t) = 2 then m_seen X t n ||| 1 else if X.1 9 (8 * n + t) = 3 then m_seen X t n ||| 2 else m_seen X t n
theorem b_or3 : ∀ a, a < 4 → ∀ b, b < 4 → nI a ||| nI b = nI (a ||| b) ∧ a ||| b < 4 := by decide +kernel
theorem m_seen_lt (X : qm) (t n : Nat) : m_seen X t n < 4 := by
  induction n with
  | zero => exact Nat.zero_lt_succ _
  | succ n ih =>
    rw [m_seen]; split
    · exact (b_or3 _ ih 1 (by decide)).2
    · split
      · exact (b_or3 _ ih 2 (by decide)).2
      · exact ih
theorem m_doubt_le (X : qm) (s n : Nat) : m_doubt X s n ≤ n := by
  induction n with
  | zero => exact Nat.le_refl _
  | succ n ih => rw [m_doubt]; split <;> omega
def m_tot (X : qm) : Nat → Int32
  | 0 => nI 0
  | n + 1 => m_tot X n + X.2 n
def m_away (X : qm) : Nat → Int32
  | 0 => nI 0
  | n + 1 => if X.1 7 n = 1 then m_away X n + m_notMade X n 4 else m_away X n
def m_gr (X : qm) (f to : Nat) : Nat → Nat
  | 0 => 0
  | n + 1 => if m_all X f to (n + 1) 4 = true then n + 1 else m_gr X f to n
set_option maxRecDepth 20000 in
set_option maxHeartbeats 4000000 in
theorem v_amountByLog (h : qB) (pi : Nat → Option qK) (buf : Nat → Int32) (cnt sn len : Int32) (rd : Nat → Int32) (w : Fin 16 → qw) (X : qm) (hR : RelC (w 1) X) (hJ : J X) {s : Nat} (hs : s < 4) : CtI mX2_amountByLog 2 [qR 0 0, qI (nI s)] (hK h (oC pi buf cnt sn len rd) w 10) (fun r h2 => r = m_logAm X s (X.1 10 s) ∧ h2 = hK h (oC pi buf cnt sn len rd) w 10) := by
  have hs24 := iV7 hJ.1 s hs
  refine ct_of (by decide +kernel) rfl rfl (Nat.le_of_ble_eq_true rfl) ?_
  show Ev mX2_amountByLog 2 0 [some (qR 0 0), some (qI (nI s)), none, none] [] 124 (hK h (oC pi buf cnt sn len rd) w 10) 0 0 _ _
  refine e_aload0 dX2_amountByLog_0 ?_
  refine e_iload1 dX2_amountByLog_1 ?_
  refine e_vV (M' := mX2_requireStore) fX2_requireStore lkX2_51 (v_requireStore h pi buf cnt sn len rd w (k := s) hs) rfl rfl dX2_amountByLog_2 (by rw [hK_0]; rfl) rfl (by decide) (Nat.le_of_ble_eq_true rfl) rfl ?_
  rintro _ rfl
  refine e_bipush (v := nI 100) dX2_amountByLog_5 (by decide) ?_
  refine e_istore2 dX2_amountByLog_7 rfl (by decide) ?_
  refine e_iconst (z := 0) dX2_amountByLog_8 ?_
  refine e_istore3 dX2_amountByLog_9 rfl (by decide) ?_
  have H : ∀ (m i : Nat) (v : Int32), i ≤ X.1 10 s → m = X.1 10 s - i → v = m_logAm X s i → Ev mX2_amountByLog 2 10 [some (qR 0 0), some (qI (nI s)), some (qI v), some (qI (nI i))] [] 124 (hK h (oC pi buf cnt sn len rd) w 10) 0 0 (fun r n h' => ∃ x, r = some (qI x) ∧ n = 124 ∧ ((fun r h2 => r = m_logAm X s (X.1 10 s) ∧ h2 = hK h (oC pi buf cnt sn len rd) w 10)) x h') qNo := by
    intro m
    induction m using Nat.strongRecOn with
    | _ m ih =>
    intro i v hi hm hv
    refine e_iload3 dX2_amountByLog_10 ?_
    refine e_aload0 dX2_amountByLog_11 ?_
    refine e_get0 flX2_10 dX2_amountByLog_12 rfl rfl ?_
    refine e_getW flX2_188 dX2_amountByLog_15 (by decide) (by decide) rfl rfl ?_
    refine e_iload1 dX2_amountByLog_18 ?_
    first | refine e_ialoadW dX2_amountByLog_19 (by decide) (by decide) rfl (by omega) (by decide) ?_ | refine e_ialoadB dX2_amountByLog_19 rfl (by omega) (by decide) ?_
    rw [rC12 hR s (by omega)]
    first | refine e_icmp_geN 62 dX2_amountByLog_20 (by decide) (by omega) (by omega) (fun hc20 => ?_) (fun hc20 => ?_) | refine e_icmp_ge 62 dX2_amountByLog_20 (by decide) (fun hc20 => ?_) (fun hc20 => ?_)
    · refine e_iload2 dX2_amountByLog_62 ?_
      refine e_iret dX2_amountByLog_63 rfl ?_
      obtain rfl : i = X.1 10 s := by omega
      exact ⟨_, rfl, rfl, hv, rfl⟩
    · refine e_aload0 dX2_amountByLog_23 ?_
      refine e_get0 flX2_10 dX2_amountByLog_24 rfl rfl ?_
      refine e_iload1 dX2_amountByLog_27 ?_
      refine e_iload3 dX2_amountByLog_28 ?_
      refine e_vI (M' := mX1_kindOfRecord) fX1_kindOfRecord lkX2_191 (ctI_K (b := 1) (by decide) (by decide) (w_kindOfRecord (hK h (oC pi buf cnt sn len rd) w 10) 1 (w 1) X hR hJ.1 (s := s) (k := i) (by omega) (by omega))) rfl rfl dX2_amountByLog_29 (by rw [hK_at (by decide) (by decide)]; rfl) rfl (by decide) (Nat.le_of_ble_eq_true rfl) rfl ?_
      rintro _ _ ⟨rfl, rfl⟩
      rw [hK_self (by decide) (by decide)]
      have hrec := (iV9 hJ.1 s i (by omega) (by omega)).1
      refine e_iconst (z := 1) dX2_amountByLog_32 ?_
      first | refine e_icmp_neN 56 dX2_amountByLog_33 (by decide) (by omega) (by omega) (fun hc33 => ?_) (fun hc33 => ?_) | refine e_icmp_ne 56 dX2_amountByLog_33 (by decide) (fun hc33 => ?_) (fun hc33 => ?_)
      · first | refine e_iinc3N (z := 1) dX2_amountByLog_56 rfl (by decide) ?_ | refine e_iinc3 dX2_amountByLog_56 rfl rfl (by decide) ?_
        refine e_goto 10 dX2_amountByLog_59 (by decide) ?_
        first
          | exact ih _ (by omega) (i + 1) _ (by omega) rfl (by rw [m_logAm, if_pos hc33, hv])
          | exact ih _ (by omega) (i + 1) _ (by omega) rfl (by rw [m_logAm, if_neg hc33, hv])
      · refine e_iload2 dX2_amountByLog_36 ?_
        refine e_aload0 dX2_amountByLog_37 ?_
        refine e_get0 flX2_10 dX2_amountByLog_38 rfl rfl ?_
        refine e_aload0 dX2_amountByLog_41 ?_
        refine e_get0 flX2_10 dX2_amountByLog_42 rfl rfl ?_
        refine e_iload1 dX2_amountByLog_45 ?_
        refine e_iload3 dX2_amountByLog_46 ?_
        refine e_vI (M' := mX1_transferOfRecord) fX1_transferOfRecord lkX2_194 (ctI_K (b := 1) (by decide) (by decide) (w_transferOfRecord (hK h (oC pi buf cnt sn len rd) w 10) 1 (w 1) X hR hJ.1 (s := s) (k := i) (by omega) (by omega))) rfl rfl dX2_amountByLog_47 (by rw [hK_at (by decide) (by decide)]; rfl) rfl (by decide) (Nat.le_of_ble_eq_true rfl) rfl ?_
        rintro _ _ ⟨rfl, rfl⟩
        rw [hK_self (by decide) (by decide)]
        refine e_iload1 dX2_amountByLog_50 ?_
        refine e_vI (M' := mX1_shareOf) fX1_shareOf lkX2_181 (ctI_K (b := 1) (by decide) (by decide) (w_shareOf (hK h (oC pi buf cnt sn len rd) w 10) 1 (w 1) X hR (t := X.1 11 (32 * s + i) % 8) (s := s) (by omega) hs)) rfl rfl dX2_amountByLog_51 (by rw [hK_at (by decide) (by decide)]; rfl) rfl (by decide) (Nat.le_of_ble_eq_true rfl) rfl ?_
        rintro _ _ ⟨rfl, rfl⟩
        rw [hK_self (by decide) (by decide)]
        refine e_iadd dX2_amountByLog_54 ?_
        refine e_istore2 dX2_amountByLog_55 rfl (by decide) ?_
        first | refine e_iinc3N (z := 1) dX2_amountByLog_56 rfl (by decide) ?_ | refine e_iinc3 dX2_amountByLog_56 rfl rfl (by decide) ?_
        refine e_goto 10 dX2_amountByLog_59 (by decide) ?_
        first
          | exact ih _ (by omega) (i + 1) _ (by omega) rfl (by rw [m_logAm, if_pos hc33, hv])
          | exact ih _ (by omega) (i + 1) _ (by omega) rfl (by rw [m_logAm, if_neg hc33, hv])
  exact H _ 0 _ (Nat.zero_le _) rfl rfl
set_option maxRecDepth 20000 in
set_option maxHeartbeats 4000000 in
theorem v_stateByLog (h : qB) (pi : Nat → Option qK) (buf : Nat → Int32) (cnt sn len : Int32) (rd : Nat → Int32) (w : Fin 16 → qw) (X : qm) (hR : RelC (w 1) X) (hJ : J X) {s : Nat} (hs : s < 4) {t : Nat} (ht : t < X.1 0 0) : CtI mX2_stateByLog 2 [qR 0 0, qI (nI s), qI (nI t)] (hK h (oC pi buf cnt sn len rd) w 10) (fun r h2 => r = nI (m_logSt X s t (X.1 10 s)) ∧ h2 = hK h (oC pi buf cnt sn len rd) w 10) := by
  have hs24 := iV7 hJ.1 s hs
  have ht8 : t < 8 := Nat.lt_of_lt_of_le ht (iV1 hJ.1)
  refine ct_of (by decide +kernel) rfl rfl (Nat.le_of_ble_eq_true rfl) ?_
  show Ev mX2_stateByLog 2 0 [some (qR 0 0), some (qI (nI s)), some (qI (nI t)), none, none] [] 124 (hK h (oC pi buf cnt sn len rd) w 10) 0 0 _ _
  refine e_aload0 dX2_stateByLog_0 ?_
  refine e_iload1 dX2_stateByLog_1 ?_
  refine e_vV (M' := mX2_requireStore) fX2_requireStore lkX2_51 (v_requireStore h pi buf cnt sn len rd w (k := s) hs) rfl rfl dX2_stateByLog_2 (by rw [hK_0]; rfl) rfl (by decide) (Nat.le_of_ble_eq_true rfl) rfl ?_
  rintro _ rfl
  refine e_aload0 dX2_stateByLog_5 ?_
  refine e_iload2 dX2_stateByLog_6 ?_
  refine e_vV (M' := mX2_requireTransfer) fX2_requireTransfer lkX2_82 (v_requireTransfer h pi buf cnt sn len rd w X hR hJ (k := t) ht) rfl rfl dX2_stateByLog_7 (by rw [hK_0]; rfl) rfl (by decide) (Nat.le_of_ble_eq_true rfl) rfl ?_
  rintro _ rfl
  refine e_iconst (z := 0) dX2_stateByLog_10 ?_
  refine e_istore3 dX2_stateByLog_11 rfl (by decide) ?_
  refine e_iconst (z := 0) dX2_stateByLog_12 ?_
  refine e_istore4 dX2_stateByLog_13 rfl (by decide) ?_
  have H : ∀ (m i : Nat) (v : Nat), i ≤ X.1 10 s → m = X.1 10 s - i → v = m_logSt X s t i → Ev mX2_stateByLog 2 15 [some (qR 0 0), some (qI (nI s)), some (qI (nI t)), some (qI (nI v)), some (qI (nI i))] [] 124 (hK h (oC pi buf cnt sn len rd) w 10) 0 0 (fun r n h' => ∃ x, r = some (qI x) ∧ n = 124 ∧ ((fun r h2 => r = nI (m_logSt X s t (X.1 10 s)) ∧ h2 = hK h (oC pi buf cnt sn len rd) w 10)) x h') qNo := by
    intro m
    induction m using Nat.strongRecOn with
    | _ m ih =>
    intro i v hi hm hv
    refine e_iload4 dX2_stateByLog_15 ?_
    refine e_aload0 dX2_stateByLog_17 ?_
    refine e_get0 flX2_10 dX2_stateByLog_18 rfl rfl ?_
    refine e_getW flX2_188 dX2_stateByLog_21 (by decide) (by decide) rfl rfl ?_
    refine e_iload1 dX2_stateByLog_24 ?_
    first | refine e_ialoadW dX2_stateByLog_25 (by decide) (by decide) rfl (by omega) (by decide) ?_ | refine e_ialoadB dX2_stateByLog_25 rfl (by omega) (by decide) ?_
    rw [rC12 hR s (by omega)]
    first | refine e_icmp_geN 63 dX2_stateByLog_26 (by decide) (by omega) (by omega) (fun hc26 => ?_) (fun hc26 => ?_) | refine e_icmp_ge 63 dX2_stateByLog_26 (by decide) (fun hc26 => ?_) (fun hc26 => ?_)
    · refine e_iload3 dX2_stateByLog_63 ?_
      refine e_iret dX2_stateByLog_64 rfl ?_
      obtain rfl : i = X.1 10 s := by omega
      exact ⟨_, rfl, rfl, by rw [hv], rfl⟩
    · refine e_aload0 dX2_stateByLog_29 ?_
      refine e_get0 flX2_10 dX2_stateByLog_30 rfl rfl ?_
      refine e_iload1 dX2_stateByLog_33 ?_
      refine e_iload4 dX2_stateByLog_34 ?_
      refine e_vI (M' := mX1_transferOfRecord) fX1_transferOfRecord lkX2_194 (ctI_K (b := 1) (by decide) (by decide) (w_transferOfRecord (hK h (oC pi buf cnt sn len rd) w 10) 1 (w 1) X hR hJ.1 (s := s) (k := i) (by omega) (by omega))) rfl rfl dX2_stateByLog_36 (by rw [hK_at (by decide) (by decide)]; rfl) rfl (by decide) (Nat.le_of_ble_eq_true rfl) rfl ?_
      rintro _ _ ⟨rfl, rfl⟩
      rw [hK_self (by decide) (by decide)]
      have hrec := (iV9 hJ.1 s i (by omega) (by omega)).1
      refine e_iload2 dX2_stateByLog_39 ?_
      first | refine e_icmp_neN 57 dX2_stateByLog_40 (by decide) (by omega) (by omega) (fun hc40 => ?_) (fun hc40 => ?_) | refine e_icmp_ne 57 dX2_stateByLog_40 (by decide) (fun hc40 => ?_) (fun hc40 => ?_)
      · first | refine e_iinc4N (z := 1) dX2_stateByLog_57 rfl (by decide) ?_ | refine e_iinc4 dX2_stateByLog_57 rfl rfl (by decide) ?_
        refine e_goto 15 dX2_stateByLog_60 (by decide) ?_
        first
          | exact ih _ (by omega) (i + 1) _ (by omega) rfl (by rw [m_logSt, if_pos hc40])
          | exact ih _ (by omega) (i + 1) _ (by omega) rfl (by rw [m_logSt, if_neg hc40, hv])
      · refine e_aload0 dX2_stateByLog_43 ?_
        refine e_get0 flX2_10 dX2_stateByLog_44 rfl rfl ?_
        refine e_iload1 dX2_stateByLog_47 ?_
        refine e_iload4 dX2_stateByLog_48 ?_
        refine e_vI (M' := mX1_kindOfRecord) fX1_kindOfRecord lkX2_191 (ctI_K (b := 1) (by decide) (by decide) (w_kindOfRecord (hK h (oC pi buf cnt sn len rd) w 10) 1 (w 1) X hR hJ.1 (s := s) (k := i) (by omega) (by omega))) rfl rfl dX2_stateByLog_50 (by rw [hK_at (by decide) (by decide)]; rfl) rfl (by decide) (Nat.le_of_ble_eq_true rfl) rfl ?_
        rintro _ _ ⟨rfl, rfl⟩
        rw [hK_self (by decide) (by decide)]
        refine e_sI (M' := mX2_stateAfterRecord) fX2_stateAfterRecord lkX2_200 (w_stateAfterRecord _ (k := X.1 11 (32 * s + i) / 8) (by omega)) rfl rfl dX2_stateByLog_53 (by decide) (Nat.le_of_ble_eq_true rfl) rfl ?_
        rintro _ _ ⟨rfl, rfl⟩
        refine e_istore3 dX2_stateByLog_56 rfl (by decide) ?_
        first | refine e_iinc4N (z := 1) dX2_stateByLog_57 rfl (by decide) ?_ | refine e_iinc4 dX2_stateByLog_57 rfl rfl (by decide) ?_
        refine e_goto 15 dX2_stateByLog_60 (by decide) ?_
        first
          | exact ih _ (by omega) (i + 1) _ (by omega) rfl (by rw [m_logSt, if_pos hc40])
          | exact ih _ (by omega) (i + 1) _ (by omega) rfl (by rw [m_logSt, if_neg hc40, hv])
  exact H _ 0 _ (Nat.zero_le _) rfl rfl
set_option maxRecDepth 20000 in
set_option maxHeartbeats 4000000 in
theorem v_outcomeByStores (h : qB) (pi : Nat → Option qK) (buf : Nat → Int32) (cnt sn len : Int32) (rd : Nat → Int32) (w : Fin 16 → qw) (X : qm) (hR : RelC (w 1) X) (hJ : J X) {t : Nat} (ht : t < X.1 0 0) : CtI mX2_outcomeByStores 2 [qR 0 0, qI (nI t)] (hK h (oC pi buf cnt sn len rd) w 10) (fun r h2 => r = nI (m_seen X t 4) ∧ h2 = hK h (oC pi buf cnt sn len rd) w 10) := by
  have ht8 : t < 8 := Nat.lt_of_lt_of_le ht (iV1 hJ.1)
  refine ct_of (by decide +kernel) rfl rfl (Nat.le_of_ble_eq_true rfl) ?_
  show Ev mX2_outcomeByStores 2 0 [some (qR 0 0), some (qI (nI t)), none, none, none] [] 124 (hK h (oC pi buf cnt sn len rd) w 10) 0 0 _ _
  refine e_aload0 dX2_outcomeByStores_0 ?_
  refine e_iload1 dX2_outcomeByStores_1 ?_
  refine e_vV (M' := mX2_requireTransfer) fX2_requireTransfer lkX2_82 (v_requireTransfer h pi buf cnt sn len rd w X hR hJ (k := t) ht) rfl rfl dX2_outcomeByStores_2 (by rw [hK_0]; rfl) rfl (by decide) (Nat.le_of_ble_eq_true rfl) rfl ?_
  rintro _ rfl
  refine e_iconst (z := 0) dX2_outcomeByStores_5 ?_
  refine e_istore2 dX2_outcomeByStores_6 rfl (by decide) ?_
  refine e_iconst (z := 0) dX2_outcomeByStores_7 ?_
  refine e_istore3 dX2_outcomeByStores_8 rfl (by decide) ?_
  have H : ∀ (m i : Nat) (v : Nat) (l4 : Option qV), i ≤ 4 → m = 4 - i → v = m_seen X t i → Ev mX2_outcomeByStores 2 9 [some (qR 0 0), some (qI (nI t)), some (qI (nI v)), some (qI (nI i)), l4] [] 124 (hK h (oC pi buf cnt sn len rd) w 10) 0 0 (fun r n h' => ∃ x, r = some (qI x) ∧ n = 124 ∧ ((fun r h2 => r = nI (m_seen X t 4) ∧ h2 = hK h (oC pi buf cnt sn len rd) w 10)) x h') qNo := by
    intro m
    induction m using Nat.strongRecOn with
    | _ m ih =>
    intro i v l4 hi hm hv
    have hv4 : v < 4 := by rw [hv]; exact m_seen_lt X t i
    refine e_iload3 dX2_outcomeByStores_9 ?_
    refine e_iconst (z := 4) dX2_outcomeByStores_10 ?_
    first | refine e_icmp_geN 54 dX2_outcomeByStores_11 (by decide) (by omega) (by omega) (fun hc11 => ?_) (fun hc11 => ?_) | refine e_icmp_ge 54 dX2_outcomeByStores_11 (by decide) (fun hc11 => ?_) (fun hc11 => ?_)
    · refine e_iload2 dX2_outcomeByStores_54 ?_
      refine e_iret dX2_outcomeByStores_55 rfl ?_
      obtain rfl : i = 4 := by omega
      exact ⟨_, rfl, rfl, by rw [hv], rfl⟩
    · refine e_aload0 dX2_outcomeByStores_14 ?_
      refine e_get0 flX2_10 dX2_outcomeByStores_15 rfl rfl ?_
      refine e_iload3 dX2_outcomeByStores_18 ?_
      refine e_iload1 dX2_outcomeByStores_19 ?_
      refine e_vI (M' := mX1_stateOf) fX1_stateOf lkX2_197 (ctI_K (b := 1) (by decide) (by decide) (w_stateOf (hK h (oC pi buf cnt sn len rd) w 10) 1 (w 1) X hR (t := t) (s := i) ht8 (by omega))) rfl rfl dX2_outcomeByStores_20 (by rw [hK_at (by decide) (by decide)]; rfl) rfl (by decide) (Nat.le_of_ble_eq_true rfl) rfl ?_
      rintro _ _ ⟨rfl, rfl⟩
      rw [hK_self (by decide) (by decide)]
      have h9 := (iV6 hJ.1 i t (by omega) ht8).1
      refine e_istore4 dX2_outcomeByStores_23 rfl (by decide) ?_
      refine e_iload4 dX2_outcomeByStores_25 ?_
      refine e_iconst (z := 2) dX2_outcomeByStores_27 ?_
      first | refine e_icmp_neN 38 dX2_outcomeByStores_28 (by decide) (by omega) (by omega) (fun hc28 => ?_) (fun hc28 => ?_) | refine e_icmp_ne 38 dX2_outcomeByStores_28 (by decide) (fun hc28 => ?_) (fun hc28 => ?_)
      · refine e_iload4 dX2_outcomeByStores_38 ?_
        refine e_iconst (z := 3) dX2_outcomeByStores_40 ?_
        first | refine e_icmp_neN 48 dX2_outcomeByStores_41 (by decide) (by omega) (by omega) (fun hc41 => ?_) (fun hc41 => ?_) | refine e_icmp_ne 48 dX2_outcomeByStores_41 (by decide) (fun hc41 => ?_) (fun hc41 => ?_)
        · first | refine e_iinc3N (z := 1) dX2_outcomeByStores_48 rfl (by decide) ?_ | refine e_iinc3 dX2_outcomeByStores_48 rfl rfl (by decide) ?_
          refine e_goto 9 dX2_outcomeByStores_51 (by decide) ?_
          first
            | exact ih _ (by omega) (i + 1) _ _ (by omega) rfl (by rw [m_seen, if_pos hc28, hv])
            | exact ih _ (by omega) (i + 1) _ _ (by omega) rfl (by rw [m_seen, if_neg hc28, if_pos hc41, hv])
            | exact ih _ (by omega) (i + 1) _ _ (by omega) rfl (by rw [m_seen, if_neg hc28, if_neg hc41, hv])
        · refine e_iload2 dX2_outcomeByStores_44 ?_
          refine e_iconst (z := 2) dX2_outcomeByStores_45 ?_
          refine e_ior dX2_outcomeByStores_46 ?_
          rw [(b_or3 v hv4 2 (by decide)).1]
          refine e_istore2 dX2_outcomeByStores_47 rfl (by decide) ?_
          first | refine e_iinc3N (z := 1) dX2_outcomeByStores_48 rfl (by decide) ?_ | refine e_iinc3 dX2_outcomeByStores_48 rfl rfl (by decide) ?_
          refine e_goto 9 dX2_outcomeByStores_51 (by decide) ?_
          first
            | exact ih _ (by omega) (i + 1) _ _ (by omega) rfl (by rw [m_seen, if_pos hc28, hv])
            | exact ih _ (by omega) (i + 1) _ _ (by omega) rfl (by rw [m_seen, if_neg hc28, if_pos hc41, hv])
            | exact ih _ (by omega) (i + 1) _ _ (by omega) rfl (by rw [m_seen, if_neg hc28, if_neg hc41, hv])
      · refine e_iload2 dX2_outcomeByStores_31 ?_
        refine e_iconst (z := 1) dX2_outcomeByStores_32 ?_
        refine e_ior dX2_outcomeByStores_33 ?_
        rw [(b_or3 v hv4 1 (by decide)).1]
        refine e_istore2 dX2_outcomeByStores_34 rfl (by decide) ?_
        refine e_goto 48 dX2_outcomeByStores_35 (by decide) ?_
        first | refine e_iinc3N (z := 1) dX2_outcomeByStores_48 rfl (by decide) ?_ | refine e_iinc3 dX2_outcomeByStores_48 rfl rfl (by decide) ?_
        refine e_goto 9 dX2_outcomeByStores_51 (by decide) ?_
        first
          | exact ih _ (by omega) (i + 1) _ _ (by omega) rfl (by rw [m_seen, if_pos hc28, hv])
          | exact ih _ (by omega) (i + 1) _ _ (by omega) rfl (by rw [m_seen, if_neg hc28, if_pos hc41, hv])
          | exact ih _ (by omega) (i + 1) _ _ (by omega) rfl (by rw [m_seen, if_neg hc28, if_neg hc41, hv])
  exact H _ 0 _ _ (Nat.zero_le _) rfl rfl
set_option maxRecDepth 20000 in
set_option maxHeartbeats 4000000 in
theorem v_total (h : qB) (pi : Nat → Option qK) (buf : Nat → Int32) (cnt sn len : Int32) (rd : Nat → Int32) (w : Fin 16 → qw) (X : qm) (hR : RelC (w 1) X) (hJ : J X) : CtI mX2_total 2 [qR 0 0] (hK h (oC pi buf cnt sn len rd) w 10) (fun r h2 => r = m_tot X 4 ∧ h2 = hK h (oC pi buf cnt sn len rd) w 10) := by
  refine ct_of (by decide +kernel) rfl rfl (Nat.le_of_ble_eq_true rfl) ?_
  show Ev mX2_total 2 0 [some (qR 0 0), none, none] [] 124 (hK h (oC pi buf cnt sn len rd) w 10) 0 0 _ _
  refine e_iconst (z := 0) dX2_total_0 ?_
  refine e_istore1 dX2_total_1 rfl (by decide) ?_
  refine e_iconst (z := 0) dX2_total_2 ?_
  refine e_istore2 dX2_total_3 rfl (by decide) ?_
  have H : ∀ (m i : Nat) (v : Int32), i ≤ 4 → m = 4 - i → v = m_tot X i → Ev mX2_total 2 4 [some (qR 0 0), some (qI v), some (qI (nI i))] [] 124 (hK h (oC pi buf cnt sn len rd) w 10) 0 0 (fun r n h' => ∃ x, r = some (qI x) ∧ n = 124 ∧ ((fun r h2 => r = m_tot X 4 ∧ h2 = hK h (oC pi buf cnt sn len rd) w 10)) x h') qNo := by
    intro m
    induction m using Nat.strongRecOn with
    | _ m ih =>
    intro i v hi hm hv
    refine e_iload2 dX2_total_4 ?_
    refine e_iconst (z := 4) dX2_total_5 ?_
    first | refine e_icmp_geN 27 dX2_total_6 (by decide) (by omega) (by omega) (fun hc6 => ?_) (fun hc6 => ?_) | refine e_icmp_ge 27 dX2_total_6 (by decide) (fun hc6 => ?_) (fun hc6 => ?_)
    · refine e_iload1 dX2_total_27 ?_
      refine e_iret dX2_total_28 rfl ?_
      obtain rfl : i = 4 := by omega
      exact ⟨_, rfl, rfl, hv, rfl⟩
    · refine e_iload1 dX2_total_9 ?_
      refine e_aload0 dX2_total_10 ?_
      refine e_get0 flX2_10 dX2_total_11 rfl rfl ?_
      refine e_getW flX2_185 dX2_total_14 (by decide) (by decide) rfl rfl ?_
      refine e_iload2 dX2_total_17 ?_
      first | refine e_ialoadW dX2_total_18 (by decide) (by decide) rfl (by omega) (by decide) ?_ | refine e_ialoadB dX2_total_18 rfl (by omega) (by decide) ?_
      rw [rC9 hR i (by omega)]
      refine e_iadd dX2_total_19 ?_
      refine e_istore1 dX2_total_20 rfl (by decide) ?_
      first | refine e_iinc2N (z := 1) dX2_total_21 rfl (by decide) ?_ | refine e_iinc2 dX2_total_21 rfl rfl (by decide) ?_
      refine e_goto 4 dX2_total_24 (by decide) ?_
      exact ih _ (by omega) (i + 1) _ (by omega) rfl (by rw [m_tot, hv])
  exact H _ 0 _ (Nat.zero_le _) rfl rfl
set_option maxRecDepth 20000 in
set_option maxHeartbeats 4000000 in
theorem v_onTheWay (h : qB) (pi : Nat → Option qK) (buf : Nat → Int32) (cnt sn len : Int32) (rd : Nat → Int32) (w : Fin 16 → qw) (X : qm) (hR : RelC (w 1) X) (hJ : J X) : CtI mX2_onTheWay 2 [qR 0 0] (hK h (oC pi buf cnt sn len rd) w 10) (fun r h2 => r = m_away X (X.1 0 0) ∧ h2 = hK h (oC pi buf cnt sn len rd) w 10) := by
  refine ct_of (by decide +kernel) rfl rfl (Nat.le_of_ble_eq_true rfl) ?_
  show Ev mX2_onTheWay 2 0 [some (qR 0 0), none, none] [] 124 (hK h (oC pi buf cnt sn len rd) w 10) 0 0 _ _
  refine e_iconst (z := 0) dX2_onTheWay_0 ?_
  refine e_istore1 dX2_onTheWay_1 rfl (by decide) ?_
  refine e_iconst (z := 0) dX2_onTheWay_2 ?_
  refine e_istore2 dX2_onTheWay_3 rfl (by decide) ?_
  have H : ∀ (m i : Nat) (v : Int32), i ≤ X.1 0 0 → m = X.1 0 0 - i → v = m_away X i → Ev mX2_onTheWay 2 4 [some (qR 0 0), some (qI v), some (qI (nI i))] [] 124 (hK h (oC pi buf cnt sn len rd) w 10) 0 0 (fun r n h' => ∃ x, r = some (qI x) ∧ n = 124 ∧ ((fun r h2 => r = m_away X (X.1 0 0) ∧ h2 = hK h (oC pi buf cnt sn len rd) w 10)) x h') qNo := by
    intro m
    induction m using Nat.strongRecOn with
    | _ m ih =>
    intro i v hi hm hv
    have i1 := iV1 hJ.1
    refine e_iload2 dX2_onTheWay_4 ?_
    refine e_aload0 dX2_onTheWay_5 ?_
    refine e_get0 flX2_10 dX2_onTheWay_6 rfl rfl ?_
    refine e_getW flX2_175 dX2_onTheWay_9 (by decide) (by decide) rfl rfl ?_
    rw [rC0 hR]
    first | refine e_icmp_geN 45 dX2_onTheWay_12 (by decide) (by omega) (by omega) (fun hc12 => ?_) (fun hc12 => ?_) | refine e_icmp_ge 45 dX2_onTheWay_12 (by decide) (fun hc12 => ?_) (fun hc12 => ?_)
    · refine e_iload1 dX2_onTheWay_45 ?_
      refine e_iret dX2_onTheWay_46 rfl ?_
      obtain rfl : i = X.1 0 0 := by omega
      exact ⟨_, rfl, rfl, hv, rfl⟩
    · refine e_aload0 dX2_onTheWay_15 ?_
      refine e_get0 flX2_10 dX2_onTheWay_16 rfl rfl ?_
      refine e_getW flX2_215 dX2_onTheWay_19 (by decide) (by decide) rfl rfl ?_
      refine e_iload2 dX2_onTheWay_22 ?_
      first | refine e_ialoadW dX2_onTheWay_23 (by decide) (by decide) rfl (by omega) (by decide) ?_ | refine e_ialoadB dX2_onTheWay_23 rfl (by omega) (by decide) ?_
      refine e_iconst (z := 1) dX2_onTheWay_24 ?_
      rw [rC4 hR i (by omega)]
      have h7 := (iV4 hJ.1 i (by omega)).2.2.2.2.2.1
      first | refine e_icmp_neN 39 dX2_onTheWay_25 (by decide) (by omega) (by omega) (fun hc25 => ?_) (fun hc25 => ?_) | refine e_icmp_ne 39 dX2_onTheWay_25 (by decide) (fun hc25 => ?_) (fun hc25 => ?_)
      · first | refine e_iinc2N (z := 1) dX2_onTheWay_39 rfl (by decide) ?_ | refine e_iinc2 dX2_onTheWay_39 rfl rfl (by decide) ?_
        refine e_goto 4 dX2_onTheWay_42 (by decide) ?_
        first
          | exact ih _ (by omega) (i + 1) _ (by omega) rfl (by rw [m_away, if_pos hc25, hv])
          | exact ih _ (by omega) (i + 1) _ (by omega) rfl (by rw [m_away, if_neg hc25, hv])
      · refine e_iload1 dX2_onTheWay_28 ?_
        refine e_aload0 dX2_onTheWay_29 ?_
        refine e_get0 flX2_10 dX2_onTheWay_30 rfl rfl ?_
        refine e_iload2 dX2_onTheWay_33 ?_
        refine e_vI (M' := mX1_sharesNotMade) fX1_sharesNotMade lkX2_218 (ctI_K (b := 1) (by decide) (by decide) (w_sharesNotMade (hK h (oC pi buf cnt sn len rd) w 10) 1 (w 1) X hR hJ.1 (t := i) (by omega))) rfl rfl dX2_onTheWay_34 (by rw [hK_at (by decide) (by decide)]; rfl) rfl (by decide) (Nat.le_of_ble_eq_true rfl) rfl ?_
        rintro _ _ ⟨rfl, rfl⟩
        rw [hK_self (by decide) (by decide)]
        refine e_iadd dX2_onTheWay_37 ?_
        refine e_istore1 dX2_onTheWay_38 rfl (by decide) ?_
        first | refine e_iinc2N (z := 1) dX2_onTheWay_39 rfl (by decide) ?_ | refine e_iinc2 dX2_onTheWay_39 rfl rfl (by decide) ?_
        refine e_goto 4 dX2_onTheWay_42 (by decide) ?_
        first
          | exact ih _ (by omega) (i + 1) _ (by omega) rfl (by rw [m_away, if_pos hc25, hv])
          | exact ih _ (by omega) (i + 1) _ (by omega) rfl (by rw [m_away, if_neg hc25, hv])
  exact H _ 0 _ (Nat.zero_le _) rfl rfl
set_option maxRecDepth 20000 in
set_option maxHeartbeats 4000000 in
theorem v_kindOf (h : qB) (pi : Nat → Option qK) (buf : Nat → Int32) (cnt sn len : Int32) (rd : Nat → Int32) (w : Fin 16 → qw) (X : qm) (hR : RelC (w 1) X) (hJ : J X) {p : Nat} (hp : p < 2 ^ 31) : CtI mX2_kindOf 2 [qR 0 0, qI (nI p)] (hK h (oC pi buf cnt sn len rd) w 10) (fun r h2 => r = (if p < X.1 0 4 then nI (X.1 12 p / 32) else -1) ∧ h2 = hK h (oC pi buf cnt sn len rd) w 10) := by
  refine ct_of (by decide +kernel) rfl rfl (Nat.le_of_ble_eq_true rfl) ?_
  show Ev mX2_kindOf 2 0 [some (qR 0 0), some (qI (nI p))] [] 124 (hK h (oC pi buf cnt sn len rd) w 10) 0 0 _ _
  refine e_aload0 dX2_kindOf_0 ?_
  refine e_iload1 dX2_kindOf_1 ?_
  refine e_vV (M' := mX2_requireNotBelowZero) fX2_requireNotBelowZero lkX2_221 (v_requireNotBelowZero h pi buf cnt sn len rd w (x := nI p) (nI_ge0 hp)) rfl rfl dX2_kindOf_2 (by rw [hK_0]; rfl) rfl (by decide) (Nat.le_of_ble_eq_true rfl) rfl ?_
  rintro _ rfl
  refine e_iload1 dX2_kindOf_5 ?_
  refine e_aload0 dX2_kindOf_6 ?_
  refine e_get0 flX2_10 dX2_kindOf_7 rfl rfl ?_
  refine e_getW flX2_94 dX2_kindOf_10 (by decide) (by decide) rfl rfl ?_
  rw [rC14 hR]
  have hl := iV2 hJ.1
  first | refine e_icmp_geN 31 dX2_kindOf_13 (by decide) (by omega) (by omega) (fun hc13 => ?_) (fun hc13 => ?_) | refine e_icmp_ge 31 dX2_kindOf_13 (by decide) (fun hc13 => ?_) (fun hc13 => ?_)
  · refine e_iconstM dX2_kindOf_31 ?_
    refine e_iret dX2_kindOf_32 rfl ?_
    first
      | exact ⟨_, rfl, rfl, by rw [if_pos (by omega)], rfl⟩
      | exact ⟨_, rfl, rfl, by rw [if_neg (by omega)], rfl⟩
  · refine e_aload0 dX2_kindOf_16 ?_
    refine e_get0 flX2_10 dX2_kindOf_17 rfl rfl ?_
    refine e_getW flX2_224 dX2_kindOf_20 (by decide) (by decide) rfl rfl ?_
    refine e_iload1 dX2_kindOf_23 ?_
    first | refine e_ialoadW dX2_kindOf_24 (by decide) (by decide) rfl (by omega) (by decide) ?_ | refine e_ialoadB dX2_kindOf_24 rfl (by omega) (by decide) ?_
    rw [rC13 hR p (by omega)]
    refine e_sI (M' := mX2_kindIn) fX2_kindIn lkX2_227 (w_kindIn _ (r0 := X.1 12 p) (iV10 hJ.1 p (by omega)).1) rfl rfl dX2_kindOf_25 (by decide) (Nat.le_of_ble_eq_true rfl) rfl ?_
    rintro _ _ ⟨rfl, rfl⟩
    refine e_goto 32 dX2_kindOf_28 (by decide) ?_
    refine e_iret dX2_kindOf_32 rfl ?_
    first
      | exact ⟨_, rfl, rfl, by rw [if_pos (by omega)], rfl⟩
      | exact ⟨_, rfl, rfl, by rw [if_neg (by omega)], rfl⟩
set_option maxRecDepth 20000 in
set_option maxHeartbeats 4000000 in
theorem v_transferOf (h : qB) (pi : Nat → Option qK) (buf : Nat → Int32) (cnt sn len : Int32) (rd : Nat → Int32) (w : Fin 16 → qw) (X : qm) (hR : RelC (w 1) X) (hJ : J X) {p : Nat} (hp : p < 2 ^ 31) : CtI mX2_transferOf 2 [qR 0 0, qI (nI p)] (hK h (oC pi buf cnt sn len rd) w 10) (fun r h2 => r = (if p < X.1 0 4 then nI (X.1 12 p / 4 % 8) else -1) ∧ h2 = hK h (oC pi buf cnt sn len rd) w 10) := by
  refine ct_of (by decide +kernel) rfl rfl (Nat.le_of_ble_eq_true rfl) ?_
  show Ev mX2_transferOf 2 0 [some (qR 0 0), some (qI (nI p))] [] 124 (hK h (oC pi buf cnt sn len rd) w 10) 0 0 _ _
  refine e_aload0 dX2_transferOf_0 ?_
  refine e_iload1 dX2_transferOf_1 ?_
  refine e_vV (M' := mX2_requireNotBelowZero) fX2_requireNotBelowZero lkX2_221 (v_requireNotBelowZero h pi buf cnt sn len rd w (x := nI p) (nI_ge0 hp)) rfl rfl dX2_transferOf_2 (by rw [hK_0]; rfl) rfl (by decide) (Nat.le_of_ble_eq_true rfl) rfl ?_
  rintro _ rfl
  refine e_iload1 dX2_transferOf_5 ?_
  refine e_aload0 dX2_transferOf_6 ?_
  refine e_get0 flX2_10 dX2_transferOf_7 rfl rfl ?_
  refine e_getW flX2_94 dX2_transferOf_10 (by decide) (by decide) rfl rfl ?_
  rw [rC14 hR]
  have hl := iV2 hJ.1
  first | refine e_icmp_geN 31 dX2_transferOf_13 (by decide) (by omega) (by omega) (fun hc13 => ?_) (fun hc13 => ?_) | refine e_icmp_ge 31 dX2_transferOf_13 (by decide) (fun hc13 => ?_) (fun hc13 => ?_)
  · refine e_iconstM dX2_transferOf_31 ?_
    refine e_iret dX2_transferOf_32 rfl ?_
    first
      | exact ⟨_, rfl, rfl, by rw [if_pos (by omega)], rfl⟩
      | exact ⟨_, rfl, rfl, by rw [if_neg (by omega)], rfl⟩
  · refine e_aload0 dX2_transferOf_16 ?_
    refine e_get0 flX2_10 dX2_transferOf_17 rfl rfl ?_
    refine e_getW flX2_224 dX2_transferOf_20 (by decide) (by decide) rfl rfl ?_
    refine e_iload1 dX2_transferOf_23 ?_
    first | refine e_ialoadW dX2_transferOf_24 (by decide) (by decide) rfl (by omega) (by decide) ?_ | refine e_ialoadB dX2_transferOf_24 rfl (by omega) (by decide) ?_
    rw [rC13 hR p (by omega)]
    refine e_sI (M' := mX2_transferIn) fX2_transferIn lkX2_230 (w_transferIn _ (r0 := X.1 12 p) (iV10 hJ.1 p (by omega)).1) rfl rfl dX2_transferOf_25 (by decide) (Nat.le_of_ble_eq_true rfl) rfl ?_
    rintro _ _ ⟨rfl, rfl⟩
    refine e_goto 32 dX2_transferOf_28 (by decide) ?_
    refine e_iret dX2_transferOf_32 rfl ?_
    first
      | exact ⟨_, rfl, rfl, by rw [if_pos (by omega)], rfl⟩
      | exact ⟨_, rfl, rfl, by rw [if_neg (by omega)], rfl⟩
set_option maxRecDepth 20000 in
set_option maxHeartbeats 4000000 in
theorem v_storeOf (h : qB) (pi : Nat → Option qK) (buf : Nat → Int32) (cnt sn len : Int32) (rd : Nat → Int32) (w : Fin 16 → qw) (X : qm) (hR : RelC (w 1) X) (hJ : J X) {p : Nat} (hp : p < 2 ^ 31) : CtI mX2_storeOf 2 [qR 0 0, qI (nI p)] (hK h (oC pi buf cnt sn len rd) w 10) (fun r h2 => r = (if p < X.1 0 4 then nI (X.1 12 p % 4) else -1) ∧ h2 = hK h (oC pi buf cnt sn len rd) w 10) := by
  refine ct_of (by decide +kernel) rfl rfl (Nat.le_of_ble_eq_true rfl) ?_
  show Ev mX2_storeOf 2 0 [some (qR 0 0), some (qI (nI p))] [] 124 (hK h (oC pi buf cnt sn len rd) w 10) 0 0 _ _
  refine e_aload0 dX2_storeOf_0 ?_
  refine e_iload1 dX2_storeOf_1 ?_
  refine e_vV (M' := mX2_requireNotBelowZero) fX2_requireNotBelowZero lkX2_221 (v_requireNotBelowZero h pi buf cnt sn len rd w (x := nI p) (nI_ge0 hp)) rfl rfl dX2_storeOf_2 (by rw [hK_0]; rfl) rfl (by decide) (Nat.le_of_ble_eq_true rfl) rfl ?_
  rintro _ rfl
  refine e_iload1 dX2_storeOf_5 ?_
  refine e_aload0 dX2_storeOf_6 ?_
  refine e_get0 flX2_10 dX2_storeOf_7 rfl rfl ?_
  refine e_getW flX2_94 dX2_storeOf_10 (by decide) (by decide) rfl rfl ?_
  rw [rC14 hR]
  have hl := iV2 hJ.1
  first | refine e_icmp_geN 31 dX2_storeOf_13 (by decide) (by omega) (by omega) (fun hc13 => ?_) (fun hc13 => ?_) | refine e_icmp_ge 31 dX2_storeOf_13 (by decide) (fun hc13 => ?_) (fun hc13 => ?_)
  · refine e_iconstM dX2_storeOf_31 ?_
    refine e_iret dX2_storeOf_32 rfl ?_
    first
      | exact ⟨_, rfl, rfl, by rw [if_pos (by omega)], rfl⟩
      | exact ⟨_, rfl, rfl, by rw [if_neg (by omega)], rfl⟩
  · refine e_aload0 dX2_storeOf_16 ?_
    refine e_get0 flX2_10 dX2_storeOf_17 rfl rfl ?_
    refine e_getW flX2_224 dX2_storeOf_20 (by decide) (by decide) rfl rfl ?_
    refine e_iload1 dX2_storeOf_23 ?_
    first | refine e_ialoadW dX2_storeOf_24 (by decide) (by decide) rfl (by omega) (by decide) ?_ | refine e_ialoadB dX2_storeOf_24 rfl (by omega) (by decide) ?_
    rw [rC13 hR p (by omega)]
    refine e_sI (M' := mX2_storeIn) fX2_storeIn lkX2_233 (w_storeIn _ (r0 := X.1 12 p) (iV10 hJ.1 p (by omega)).1) rfl rfl dX2_storeOf_25 (by decide) (Nat.le_of_ble_eq_true rfl) rfl ?_
    rintro _ _ ⟨rfl, rfl⟩
    refine e_goto 32 dX2_storeOf_28 (by decide) ?_
    refine e_iret dX2_storeOf_32 rfl ?_
    first
      | exact ⟨_, rfl, rfl, by rw [if_pos (by omega)], rfl⟩
      | exact ⟨_, rfl, rfl, by rw [if_neg (by omega)], rfl⟩
theorem nI_dec (j : Nat) : nI (j + 1) + Int32.ofInt (-1) = nI j := by
  rw [← nI_add]
  show nI j + nI 1 + Int32.ofInt (-1) = nI j
  rw [Int32.add_assoc, show nI 1 + Int32.ofInt (-1) = 0 from by decide +kernel, Int32.add_zero]
set_option maxRecDepth 20000 in
set_option maxHeartbeats 4000000 in
theorem v_greatestSize (h : qB) (pi : Nat → Option qK) (buf : Nat → Int32) (cnt sn len : Int32) (rd : Nat → Int32) (w : Fin 16 → qw) (X : qm) (hR : RelC (w 1) X) (hJ : J X) {f to : Nat} (hf : f < 4) (h1 : 1 ≤ to) (h2 : to < 16) (h3 : to / 2 ^ f % 2 = 0) : CtI mX2_greatestSize 3 [qR 0 0, qI (nI f), qI (nI to)] (hK h (oC pi buf cnt sn len rd) w 10) (fun r h2 => r = nI (m_gr X f to 50) ∧ h2 = hK h (oC pi buf cnt sn len rd) w 10) := by
  refine ct_of (by decide +kernel) rfl rfl (Nat.le_of_ble_eq_true rfl) ?_
  show Ev mX2_greatestSize 3 0 [some (qR 0 0), some (qI (nI f)), some (qI (nI to)), none] [] 124 (hK h (oC pi buf cnt sn len rd) w 10) 0 0 _ _
  refine e_aload0 dX2_greatestSize_0 ?_
  refine e_iload1 dX2_greatestSize_1 ?_
  refine e_vV (M' := mX2_requireStore) fX2_requireStore lkX2_51 (v_requireStore h pi buf cnt sn len rd w (k := f) hf) rfl rfl dX2_greatestSize_2 (by rw [hK_0]; rfl) rfl (by decide) (Nat.le_of_ble_eq_true rfl) rfl ?_
  rintro _ rfl
  refine e_aload0 dX2_greatestSize_5 ?_
  refine e_iload1 dX2_greatestSize_6 ?_
  refine e_iload2 dX2_greatestSize_7 ?_
  refine e_vV (M' := mX2_requireTakers) fX2_requireTakers lkX2_55 (v_requireTakers h pi buf cnt sn len rd w (f := f) (to := to) hf h1 h2 h3) rfl rfl dX2_greatestSize_8 (by rw [hK_0]; rfl) rfl (by decide) (Nat.le_of_ble_eq_true rfl) rfl ?_
  rintro _ rfl
  refine e_bipush (v := nI 50) dX2_greatestSize_11 (by decide) ?_
  refine e_istore3 dX2_greatestSize_13 rfl (by decide) ?_
  have H : ∀ (i : Nat), i ≤ 50 → m_gr X f to 50 = m_gr X f to i → Ev mX2_greatestSize 3 14 [some (qR 0 0), some (qI (nI f)), some (qI (nI to)), some (qI (nI i))] [] 124 (hK h (oC pi buf cnt sn len rd) w 10) 0 0 (fun r n h' => ∃ x, r = some (qI x) ∧ n = 124 ∧ ((fun r h2 => r = nI (m_gr X f to 50) ∧ h2 = hK h (oC pi buf cnt sn len rd) w 10)) x h') qNo := by
    intro i
    induction i using Nat.strongRecOn with
    | _ i ih0 =>
    intro hi hg
    have ih : ∀ j, j < i → m_gr X f to 50 = m_gr X f to j → Ev mX2_greatestSize 3 14 [some (qR 0 0), some (qI (nI f)), some (qI (nI to)), some (qI (nI j))] [] 124 (hK h (oC pi buf cnt sn len rd) w 10) 0 0 (fun r n h' => ∃ x, r = some (qI x) ∧ n = 124 ∧ ((fun r h2 => r = nI (m_gr X f to 50) ∧ h2 = hK h (oC pi buf cnt sn len rd) w 10)) x h') qNo := fun j hj hg2 => ih0 j hj (by omega) hg2
    refine e_iload3 dX2_greatestSize_14 ?_
    refine e_iconst (z := 1) dX2_greatestSize_15 ?_
    first | refine e_icmp_ltN 40 dX2_greatestSize_16 (by decide) (by omega) (by omega) (fun hc16 => ?_) (fun hc16 => ?_) | refine e_icmp_lt 40 dX2_greatestSize_16 (by decide) (fun hc16 => ?_) (fun hc16 => ?_)
    · refine e_iconst (z := 0) dX2_greatestSize_40 ?_
      refine e_iret dX2_greatestSize_41 rfl ?_
      obtain rfl : i = 0 := by omega
      exact ⟨_, rfl, rfl, by rw [hg]; rfl, rfl⟩
    · refine e_aload0 dX2_greatestSize_19 ?_
      refine e_get0 flX2_10 dX2_greatestSize_20 rfl rfl ?_
      refine e_iload1 dX2_greatestSize_23 ?_
      refine e_iload2 dX2_greatestSize_24 ?_
      refine e_iload3 dX2_greatestSize_25 ?_
      refine e_vI (M' := mX1_allWouldTake) fX1_allWouldTake lkX2_248 (ctI_K (b := 1) (by decide) (by decide) (w_allWouldTake (hK h (oC pi buf cnt sn len rd) w 10) 1 (w 1) X hR hJ.1 (f := f) (to := to) (sz := i) hf h2)) rfl rfl dX2_greatestSize_26 (by rw [hK_at (by decide) (by decide)]; rfl) rfl (by decide) (Nat.le_of_ble_eq_true rfl) rfl ?_
      rintro _ _ ⟨rfl, rfl⟩
      rw [hK_self (by decide) (by decide)]
      generalize hB : m_all X f to i 4 = B1
      have hb1 : B1.toNat < 2 := by cases B1 <;> decide
      first | refine e_if_eqN 34 dX2_greatestSize_29 (by decide) (by omega) (fun hc29 => ?_) (fun hc29 => ?_) | refine e_if_eq 34 dX2_greatestSize_29 (by decide) (fun hc29 => ?_) (fun hc29 => ?_)
      · obtain ⟨j, rfl⟩ : ∃ j, i = j + 1 := ⟨i - 1, by omega⟩
        refine e_iinc3 (v := nI j) dX2_greatestSize_34 (by rw [nI_dec]) rfl (by decide) ?_
        refine e_goto 14 dX2_greatestSize_37 (by decide) ?_
        exact ih j (by omega) (by rw [hg, m_gr, if_neg (by rw [hB]; cases B1 <;> first | decide | exact absurd hc29 (by decide))])
      · refine e_iload3 dX2_greatestSize_32 ?_
        refine e_iret dX2_greatestSize_33 rfl ?_
        obtain ⟨j, rfl⟩ : ∃ j, i = j + 1 := ⟨i - 1, by omega⟩
        exact ⟨_, rfl, rfl, by rw [hg, m_gr, if_pos (by rw [hB]; cases B1 <;> first | rfl | exact absurd hc29 (by decide))], rfl⟩
  exact H 50 (Nat.le_refl _) rfl
