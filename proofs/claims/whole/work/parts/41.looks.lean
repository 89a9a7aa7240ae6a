/-! THE MODEL'S PROGRAM: the calls that look -/
def S_transfers (A : qA) (code : Nat) (v : Int32) (A2 : qA) : Prop :=
  (code = 0 ∧ v = nI ((aX A).1 0 0) ∧ A = A2)
def S_partners (A : qA) (x : Int32) (code : Nat) (v : Int32) (A2 : qA) : Prop :=
  (i_in x ((aX A).1 0 0) = false ∧ code = 1 ∧ A = A2) ∨
  (∃ t : Nat, t < (aX A).1 0 0 ∧ x = nI t ∧ code = 0 ∧ v = nI (m_part (aX A) t) ∧ A = A2)
def S_share (A : qA) (x y : Int32) (code : Nat) (v : Int32) (A2 : qA) : Prop :=
  (i_in x ((aX A).1 0 0) = false ∧ code = 1 ∧ A = A2) ∨
  (∃ t : Nat, t < (aX A).1 0 0 ∧ x = nI t ∧ i_in y 4 = false ∧ code = 1 ∧ A = A2) ∨
  (∃ t s : Nat, t < (aX A).1 0 0 ∧ x = nI t ∧ s < 4 ∧ y = nI s ∧ code = 0 ∧ v = m_share (aX A) t s ∧ A = A2)
def S_isUp (A : qA) (x : Int32) (code : Nat) (v : Int32) (A2 : qA) : Prop :=
  (i_in x 5 = false ∧ code = 1 ∧ A = A2) ∨
  (∃ k : Nat, k < 5 ∧ x = nI k ∧ code = 0 ∧ v = q_b (decide ((aX A).1 1 k = 1)) ∧ A = A2)
def S_amount (A : qA) (x : Int32) (code : Nat) (v : Int32) (A2 : qA) : Prop :=
  (i_in x 4 = false ∧ code = 1 ∧ A = A2) ∨
  (∃ s : Nat, s < 4 ∧ x = nI s ∧ code = 0 ∧ v = (aX A).2 s ∧ A = A2)
def S_amountByLog (A : qA) (x : Int32) (code : Nat) (v : Int32) (A2 : qA) : Prop :=
  (i_in x 4 = false ∧ code = 1 ∧ A = A2) ∨
  (∃ s : Nat, s < 4 ∧ x = nI s ∧ code = 0 ∧ v = m_logAm (aX A) s ((aX A).1 10 s) ∧ A = A2)
def S_state (A : qA) (x y : Int32) (code : Nat) (v : Int32) (A2 : qA) : Prop :=
  (i_in x 4 = false ∧ code = 1 ∧ A = A2) ∨
  (∃ s : Nat, s < 4 ∧ x = nI s ∧ i_in y ((aX A).1 0 0) = false ∧ code = 1 ∧ A = A2) ∨
  (∃ s t : Nat, s < 4 ∧ x = nI s ∧ t < (aX A).1 0 0 ∧ y = nI t ∧ code = 0 ∧ v = nI ((aX A).1 9 (8 * s + t)) ∧ A = A2)
def S_stateByLog (A : qA) (x y : Int32) (code : Nat) (v : Int32) (A2 : qA) : Prop :=
  (i_in x 4 = false ∧ code = 1 ∧ A = A2) ∨
  (∃ s : Nat, s < 4 ∧ x = nI s ∧ i_in y ((aX A).1 0 0) = false ∧ code = 1 ∧ A = A2) ∨
  (∃ s t : Nat, s < 4 ∧ x = nI s ∧ t < (aX A).1 0 0 ∧ y = nI t ∧ code = 0 ∧ v = nI (m_logSt (aX A) s t ((aX A).1 10 s)) ∧ A = A2)
def S_inDoubt (A : qA) (x : Int32) (code : Nat) (v : Int32) (A2 : qA) : Prop :=
  (i_in x 4 = false ∧ code = 1 ∧ A = A2) ∨
  (∃ s : Nat, s < 4 ∧ x = nI s ∧ code = 0 ∧ v = nI (m_doubt (aX A) s ((aX A).1 0 0)) ∧ A = A2)
def S_outcome (A : qA) (x : Int32) (code : Nat) (v : Int32) (A2 : qA) : Prop :=
  (i_in x ((aX A).1 0 0) = false ∧ code = 1 ∧ A = A2) ∨
  (∃ t : Nat, t < (aX A).1 0 0 ∧ x = nI t ∧ code = 0 ∧ v = nI ((aX A).1 7 t) ∧ A = A2)
def S_outcomeByStores (A : qA) (x : Int32) (code : Nat) (v : Int32) (A2 : qA) : Prop :=
  (i_in x ((aX A).1 0 0) = false ∧ code = 1 ∧ A = A2) ∨
  (∃ t : Nat, t < (aX A).1 0 0 ∧ x = nI t ∧ code = 0 ∧ v = nI (m_seen (aX A) t 4) ∧ A = A2)
def S_hasEnded (A : qA) (x : Int32) (code : Nat) (v : Int32) (A2 : qA) : Prop :=
  (i_in x ((aX A).1 0 0) = false ∧ code = 1 ∧ A = A2) ∨
  (∃ t : Nat, t < (aX A).1 0 0 ∧ x = nI t ∧ code = 0 ∧ v = q_b (decide ((aX A).1 8 t = 1)) ∧ A = A2)
def S_saidYes (A : qA) (x : Int32) (code : Nat) (v : Int32) (A2 : qA) : Prop :=
  (i_in x ((aX A).1 0 0) = false ∧ code = 1 ∧ A = A2) ∨
  (∃ t : Nat, t < (aX A).1 0 0 ∧ x = nI t ∧ code = 0 ∧ v = nI ((aX A).1 5 t) ∧ A = A2)
def S_saidDone (A : qA) (x : Int32) (code : Nat) (v : Int32) (A2 : qA) : Prop :=
  (i_in x ((aX A).1 0 0) = false ∧ code = 1 ∧ A = A2) ∨
  (∃ t : Nat, t < (aX A).1 0 0 ∧ x = nI t ∧ code = 0 ∧ v = nI ((aX A).1 6 t) ∧ A = A2)
def S_total (A : qA) (code : Nat) (v : Int32) (A2 : qA) : Prop :=
  (code = 0 ∧ v = m_tot (aX A) 4 ∧ A = A2)
def S_onTheWay (A : qA) (code : Nat) (v : Int32) (A2 : qA) : Prop :=
  (code = 0 ∧ v = m_away (aX A) ((aX A).1 0 0) ∧ A = A2)
def S_records (A : qA) (x : Int32) (code : Nat) (v : Int32) (A2 : qA) : Prop :=
  (i_in x 5 = false ∧ code = 1 ∧ A = A2) ∨
  (∃ k : Nat, k < 5 ∧ x = nI k ∧ code = 0 ∧ v = nI ((aX A).1 10 k) ∧ A = A2)
def S_recordKind (A : qA) (x y : Int32) (code : Nat) (v : Int32) (A2 : qA) : Prop :=
  (i_in x 5 = false ∧ code = 1 ∧ A = A2) ∨
  (∃ k : Nat, k < 5 ∧ x = nI k ∧ ¬ 0 ≤ y ∧ code = 1 ∧ A = A2) ∨
  (∃ k p : Nat, k < 5 ∧ x = nI k ∧ p < 2 ^ 31 ∧ y = nI p ∧ code = 0 ∧ v = (if p < (aX A).1 10 k then nI ((aX A).1 11 (32 * k + p) / 8) else -1) ∧ A = A2)
def S_recordTransfer (A : qA) (x y : Int32) (code : Nat) (v : Int32) (A2 : qA) : Prop :=
  (i_in x 5 = false ∧ code = 1 ∧ A = A2) ∨
  (∃ k : Nat, k < 5 ∧ x = nI k ∧ ¬ 0 ≤ y ∧ code = 1 ∧ A = A2) ∨
  (∃ k p : Nat, k < 5 ∧ x = nI k ∧ p < 2 ^ 31 ∧ y = nI p ∧ code = 0 ∧ v = (if p < (aX A).1 10 k then nI ((aX A).1 11 (32 * k + p) % 8) else -1) ∧ A = A2)
def S_waiting (A : qA) (code : Nat) (v : Int32) (A2 : qA) : Prop :=
  (code = 0 ∧ v = nI ((aX A).1 0 4) ∧ A = A2)
def S_kindOf (A : qA) (x : Int32) (code : Nat) (v : Int32) (A2 : qA) : Prop :=
  (¬ 0 ≤ x ∧ code = 1 ∧ A = A2) ∨
  (∃ p : Nat, p < 2 ^ 31 ∧ x = nI p ∧ code = 0 ∧ v = (if p < (aX A).1 0 4 then nI ((aX A).1 12 p / 32) else -1) ∧ A = A2)
def S_transferOf (A : qA) (x : Int32) (code : Nat) (v : Int32) (A2 : qA) : Prop :=
  (¬ 0 ≤ x ∧ code = 1 ∧ A = A2) ∨
  (∃ p : Nat, p < 2 ^ 31 ∧ x = nI p ∧ code = 0 ∧ v = (if p < (aX A).1 0 4 then nI ((aX A).1 12 p / 4 % 8) else -1) ∧ A = A2)
def S_storeOf (A : qA) (x : Int32) (code : Nat) (v : Int32) (A2 : qA) : Prop :=
  (¬ 0 ≤ x ∧ code = 1 ∧ A = A2) ∨
  (∃ p : Nat, p < 2 ^ 31 ∧ x = nI p ∧ code = 0 ∧ v = (if p < (aX A).1 0 4 then nI ((aX A).1 12 p % 4) else -1) ∧ A = A2)
def S_sent (A : qA) (code : Nat) (v : Int32) (A2 : qA) : Prop :=
  (code = 0 ∧ v = nI ((aX A).1 0 1) ∧ A = A2)
def S_sentByAccount (A : qA) (code : Nat) (v : Int32) (A2 : qA) : Prop :=
  (code = 0 ∧ v = nI ((aX A).1 0 2) + nI ((aX A).1 0 3) + nI ((aX A).1 0 4) ∧ A = A2)
def S_lost (A : qA) (code : Nat) (v : Int32) (A2 : qA) : Prop :=
  (code = 0 ∧ v = nI ((aX A).1 0 3) ∧ A = A2)
def S_wouldSend (A : qA) (x : Int32) (code : Nat) (v : Int32) (A2 : qA) : Prop :=
  (i_in x ((aX A).1 0 4) = false ∧ code = 1 ∧ A = A2) ∨
  (∃ p : Nat, p < (aX A).1 0 4 ∧ x = nI p ∧ code = 0 ∧ v = m_wouldSend (aX A) p ∧ A = A2)
def S_messagesToSettle (A : qA) (code : Nat) (v : Int32) (A2 : qA) : Prop :=
  (code = 0 ∧ v = nI (m_settleN (aX A)) ∧ A = A2)
def S_outcomeIfSettled (A : qA) (x : Int32) (code : Nat) (v : Int32) (A2 : qA) : Prop :=
  (i_in x ((aX A).1 0 0) = false ∧ code = 1 ∧ A = A2) ∨
  (∃ t : Nat, t < (aX A).1 0 0 ∧ x = nI t ∧ code = 0 ∧ v = nI ((m_settle (aX A)).1 7 t) ∧ A = A2)
def S_amountIfSettled (A : qA) (x : Int32) (code : Nat) (v : Int32) (A2 : qA) : Prop :=
  (i_in x 4 = false ∧ code = 1 ∧ A = A2) ∨
  (∃ s : Nat, s < 4 ∧ x = nI s ∧ code = 0 ∧ v = (m_settle (aX A)).2 s ∧ A = A2)
def S_greatestSize (A : qA) (x y : Int32) (code : Nat) (v : Int32) (A2 : qA) : Prop :=
  (i_in x 4 = false ∧ code = 1 ∧ A = A2) ∨
  (∃ f : Nat, f < 4 ∧ x = nI f ∧ i_to f y = false ∧ code = 2 ∧ A = A2) ∨
  (∃ f to : Nat, f < 4 ∧ x = nI f ∧ 1 ≤ to ∧ to < 16 ∧ to / 2 ^ f % 2 = 0 ∧ y = nI to ∧ code = 0 ∧ v = nI (m_gr (aX A) f to 50) ∧ A = A2)
theorem nI_m1 : ∀ r, r < 40 → ¬ nI r = -1 := by decide +kernel
set_option maxRecDepth 20000 in
set_option maxHeartbeats 4000000 in
theorem p_transfers (h : qB) {n : Nat} {A : qA} (hG : GA n A) {F : List qE} (hB : RB A F) {code : Nat} {v : Int32} {A2 : qA} (hS : S_transfers A code v A2) : CtI mX3_transfers 12 [qR 11 0] (q_put h 11 F) (fun r h2 => ∃ F', RBt A2 F' (nI code) ∧ (code = 0 → r = v) ∧ h2 = q_put h 11 F') := by
  obtain ⟨th, sf, asd, sts, snp, txt, rdd, pt, iw, rm, rfl, hR, hS2, hY, hT⟩ := hB
  have hJ := hG.1.1
  have hW := wk_J hJ
  have hT61 : (aX A).1 0 0 < 61 := Nat.lt_of_le_of_lt hW.1 (by decide)
  have hW61 : (aX A).1 0 4 < 61 := Nat.lt_of_le_of_lt hW.2.1 (by decide)
  have hT31 : (aX A).1 0 0 < 2 ^ 31 := Nat.lt_of_lt_of_le hT61 (by decide)
  have hW31 : (aX A).1 0 4 < 2 ^ 31 := Nat.lt_of_lt_of_le hW61 (by decide)
  obtain ⟨rfl, rfl, rfl⟩ := hS
  refine ct_of (by decide +kernel) rfl rfl (Nat.le_of_ble_eq_true rfl) ?_
  show Ev mX3_transfers 12 0 [some (qR 11 0)] [] 132 (q_put h 11 (oR th sf asd sts snp txt rdd (nI (aC A)) (nI (aN A)) (nI (aL A)) pt iw rm)) 0 0 _ _
  refine e_aload0 dX3_transfers_0 ?_
  refine e_iconst (z := 0) dX3_transfers_1 ?_
  refine e_putfieldF flX3_28 dX3_transfers_2 rfl (Nat.le_of_ble_eq_true rfl) (fun _ => rfl) (fun _ => rfl) ?_
  refine e_aload0 dX3_transfers_5 ?_
  refine e_getfieldF flX3_7 dX3_transfers_6 rfl rfl ?_
  refine e_bipush (v := nI 9) dX3_transfers_9 (by decide) ?_
  refine e_ialoadN dX3_transfers_11 rfl (by omega) (by decide) ?_
  refine e_iret dX3_transfers_12 rfl ?_
  exact ⟨_, rfl, rfl, _, ⟨sf, asd, sts, snp, txt, rdd, pt, iw, rm, rfl, hR, hS2, hY, hT⟩, fun _ => rR2 hR, rfl⟩
set_option maxRecDepth 20000 in
set_option maxHeartbeats 4000000 in
theorem p_waiting (h : qB) {n : Nat} {A : qA} (hG : GA n A) {F : List qE} (hB : RB A F) {code : Nat} {v : Int32} {A2 : qA} (hS : S_waiting A code v A2) : CtI mX3_waiting 12 [qR 11 0] (q_put h 11 F) (fun r h2 => ∃ F', RBt A2 F' (nI code) ∧ (code = 0 → r = v) ∧ h2 = q_put h 11 F') := by
  obtain ⟨th, sf, asd, sts, snp, txt, rdd, pt, iw, rm, rfl, hR, hS2, hY, hT⟩ := hB
  have hJ := hG.1.1
  have hW := wk_J hJ
  have hT61 : (aX A).1 0 0 < 61 := Nat.lt_of_le_of_lt hW.1 (by decide)
  have hW61 : (aX A).1 0 4 < 61 := Nat.lt_of_le_of_lt hW.2.1 (by decide)
  have hT31 : (aX A).1 0 0 < 2 ^ 31 := Nat.lt_of_lt_of_le hT61 (by decide)
  have hW31 : (aX A).1 0 4 < 2 ^ 31 := Nat.lt_of_lt_of_le hW61 (by decide)
  obtain ⟨rfl, rfl, rfl⟩ := hS
  refine ct_of (by decide +kernel) rfl rfl (Nat.le_of_ble_eq_true rfl) ?_
  show Ev mX3_waiting 12 0 [some (qR 11 0)] [] 132 (q_put h 11 (oR th sf asd sts snp txt rdd (nI (aC A)) (nI (aN A)) (nI (aL A)) pt iw rm)) 0 0 _ _
  refine e_aload0 dX3_waiting_0 ?_
  refine e_iconst (z := 0) dX3_waiting_1 ?_
  refine e_putfieldF flX3_28 dX3_waiting_2 rfl (Nat.le_of_ble_eq_true rfl) (fun _ => rfl) (fun _ => rfl) ?_
  refine e_aload0 dX3_waiting_5 ?_
  refine e_getfieldF flX3_7 dX3_waiting_6 rfl rfl ?_
  refine e_bipush (v := nI 13) dX3_waiting_9 (by decide) ?_
  refine e_ialoadN dX3_waiting_11 rfl (by omega) (by decide) ?_
  refine e_iret dX3_waiting_12 rfl ?_
  exact ⟨_, rfl, rfl, _, ⟨sf, asd, sts, snp, txt, rdd, pt, iw, rm, rfl, hR, hS2, hY, hT⟩, fun _ => rR6 hR, rfl⟩
set_option maxRecDepth 20000 in
set_option maxHeartbeats 4000000 in
theorem p_sent (h : qB) {n : Nat} {A : qA} (hG : GA n A) {F : List qE} (hB : RB A F) {code : Nat} {v : Int32} {A2 : qA} (hS : S_sent A code v A2) : CtI mX3_sent 12 [qR 11 0] (q_put h 11 F) (fun r h2 => ∃ F', RBt A2 F' (nI code) ∧ (code = 0 → r = v) ∧ h2 = q_put h 11 F') := by
  obtain ⟨th, sf, asd, sts, snp, txt, rdd, pt, iw, rm, rfl, hR, hS2, hY, hT⟩ := hB
  have hJ := hG.1.1
  have hW := wk_J hJ
  have hT61 : (aX A).1 0 0 < 61 := Nat.lt_of_le_of_lt hW.1 (by decide)
  have hW61 : (aX A).1 0 4 < 61 := Nat.lt_of_le_of_lt hW.2.1 (by decide)
  have hT31 : (aX A).1 0 0 < 2 ^ 31 := Nat.lt_of_lt_of_le hT61 (by decide)
  have hW31 : (aX A).1 0 4 < 2 ^ 31 := Nat.lt_of_lt_of_le hW61 (by decide)
  obtain ⟨rfl, rfl, rfl⟩ := hS
  refine ct_of (by decide +kernel) rfl rfl (Nat.le_of_ble_eq_true rfl) ?_
  show Ev mX3_sent 12 0 [some (qR 11 0)] [] 132 (q_put h 11 (oR th sf asd sts snp txt rdd (nI (aC A)) (nI (aN A)) (nI (aL A)) pt iw rm)) 0 0 _ _
  refine e_aload0 dX3_sent_0 ?_
  refine e_iconst (z := 0) dX3_sent_1 ?_
  refine e_putfieldF flX3_28 dX3_sent_2 rfl (Nat.le_of_ble_eq_true rfl) (fun _ => rfl) (fun _ => rfl) ?_
  refine e_aload0 dX3_sent_5 ?_
  refine e_getfieldF flX3_7 dX3_sent_6 rfl rfl ?_
  refine e_bipush (v := nI 10) dX3_sent_9 (by decide) ?_
  refine e_ialoadN dX3_sent_11 rfl (by omega) (by decide) ?_
  refine e_iret dX3_sent_12 rfl ?_
  exact ⟨_, rfl, rfl, _, ⟨sf, asd, sts, snp, txt, rdd, pt, iw, rm, rfl, hR, hS2, hY, hT⟩, fun _ => rR3 hR, rfl⟩
set_option maxRecDepth 20000 in
set_option maxHeartbeats 4000000 in
theorem p_lost (h : qB) {n : Nat} {A : qA} (hG : GA n A) {F : List qE} (hB : RB A F) {code : Nat} {v : Int32} {A2 : qA} (hS : S_lost A code v A2) : CtI mX3_lost 12 [qR 11 0] (q_put h 11 F) (fun r h2 => ∃ F', RBt A2 F' (nI code) ∧ (code = 0 → r = v) ∧ h2 = q_put h 11 F') := by
  obtain ⟨th, sf, asd, sts, snp, txt, rdd, pt, iw, rm, rfl, hR, hS2, hY, hT⟩ := hB
  have hJ := hG.1.1
  have hW := wk_J hJ
  have hT61 : (aX A).1 0 0 < 61 := Nat.lt_of_le_of_lt hW.1 (by decide)
  have hW61 : (aX A).1 0 4 < 61 := Nat.lt_of_le_of_lt hW.2.1 (by decide)
  have hT31 : (aX A).1 0 0 < 2 ^ 31 := Nat.lt_of_lt_of_le hT61 (by decide)
  have hW31 : (aX A).1 0 4 < 2 ^ 31 := Nat.lt_of_lt_of_le hW61 (by decide)
  obtain ⟨rfl, rfl, rfl⟩ := hS
  refine ct_of (by decide +kernel) rfl rfl (Nat.le_of_ble_eq_true rfl) ?_
  show Ev mX3_lost 12 0 [some (qR 11 0)] [] 132 (q_put h 11 (oR th sf asd sts snp txt rdd (nI (aC A)) (nI (aN A)) (nI (aL A)) pt iw rm)) 0 0 _ _
  refine e_aload0 dX3_lost_0 ?_
  refine e_iconst (z := 0) dX3_lost_1 ?_
  refine e_putfieldF flX3_28 dX3_lost_2 rfl (Nat.le_of_ble_eq_true rfl) (fun _ => rfl) (fun _ => rfl) ?_
  refine e_aload0 dX3_lost_5 ?_
  refine e_getfieldF flX3_7 dX3_lost_6 rfl rfl ?_
  refine e_bipush (v := nI 12) dX3_lost_9 (by decide) ?_
  refine e_ialoadN dX3_lost_11 rfl (by omega) (by decide) ?_
  refine e_iret dX3_lost_12 rfl ?_
  exact ⟨_, rfl, rfl, _, ⟨sf, asd, sts, snp, txt, rdd, pt, iw, rm, rfl, hR, hS2, hY, hT⟩, fun _ => rR5 hR, rfl⟩
set_option maxRecDepth 20000 in
set_option maxHeartbeats 4000000 in
theorem p_partners (h : qB) {n : Nat} {A : qA} (hG : GA n A) {F : List qE} (hB : RB A F) {x : Int32} {code : Nat} {v : Int32} {A2 : qA} (hS : S_partners A x code v A2) : CtI mX3_partners 12 [qR 11 0, qI x] (q_put h 11 F) (fun r h2 => ∃ F', RBt A2 F' (nI code) ∧ (code = 0 → r = v) ∧ h2 = q_put h 11 F') := by
  obtain ⟨th, sf, asd, sts, snp, txt, rdd, pt, iw, rm, rfl, hR, hS2, hY, hT⟩ := hB
  have hJ := hG.1.1
  have hW := wk_J hJ
  have hT61 : (aX A).1 0 0 < 61 := Nat.lt_of_le_of_lt hW.1 (by decide)
  have hW61 : (aX A).1 0 4 < 61 := Nat.lt_of_le_of_lt hW.2.1 (by decide)
  have hT31 : (aX A).1 0 0 < 2 ^ 31 := Nat.lt_of_lt_of_le hT61 (by decide)
  have hW31 : (aX A).1 0 4 < 2 ^ 31 := Nat.lt_of_lt_of_le hW61 (by decide)
  rcases hS with ⟨c0, rfl, rfl⟩ | ⟨t, c0, rfl, rfl, rfl, rfl⟩
  · refine ct_of (by decide +kernel) rfl rfl (Nat.le_of_ble_eq_true rfl) ?_
    show Ev mX3_partners 12 0 [some (qR 11 0), some (qI (x))] [] 132 (q_put h 11 (oR th sf asd sts snp txt rdd (nI (aC A)) (nI (aN A)) (nI (aL A)) pt iw rm)) 0 0 _ _
    refine e_aload0 dX3_partners_0 ?_
    refine e_iconst (z := 0) dX3_partners_1 ?_
    refine e_putfieldF flX3_28 dX3_partners_2 rfl (Nat.le_of_ble_eq_true rfl) (fun _ => rfl) (fun _ => rfl) ?_
    refine e_aload0 dX3_partners_5 ?_
    refine e_iload1 dX3_partners_6 ?_
    refine e_vIF (M' := mX3_isTransfer) fX3_isTransfer lkX3_123 (r_isTransfer h (nI 0) sf asd sts snp txt rdd (nI (aC A)) (nI (aN A)) (nI (aL A)) pt iw rm (aX A) hR hT61 (x)) rfl rfl dX3_partners_7 rfl rfl (by decide) (Nat.le_of_ble_eq_true rfl) rfl ?_
    rintro _ _ ⟨rfl, rfl⟩
    rw [c0]
    refine e_if_eqN 21 dX3_partners_10 (by decide) (by first | omega | decide) (fun hc10 => ?_) (fun q => absurd rfl q)
    refine e_aload0 dX3_partners_21 ?_
    refine e_iconst (z := 1) dX3_partners_22 ?_
    refine e_vIF (M' := mX3_fails) fX3_fails lkX3_106 (r_fails h (nI 0) sf asd sts snp txt rdd (nI (aC A)) (nI (aN A)) (nI (aL A)) pt iw rm (x := nI 1)) rfl rfl dX3_partners_23 rfl rfl (by decide) (Nat.le_of_ble_eq_true rfl) rfl ?_
    rintro _ _ ⟨rfl, rfl⟩
    refine e_iret dX3_partners_26 rfl ?_
    exact ⟨_, rfl, rfl, _, ⟨sf, asd, sts, snp, txt, rdd, pt, iw, rm, rfl, hR, hS2, hY, hT⟩, fun q => absurd q (by decide), rfl⟩
  · refine ct_of (by decide +kernel) rfl rfl (Nat.le_of_ble_eq_true rfl) ?_
    show Ev mX3_partners 12 0 [some (qR 11 0), some (qI (nI t))] [] 132 (q_put h 11 (oR th sf asd sts snp txt rdd (nI (aC A)) (nI (aN A)) (nI (aL A)) pt iw rm)) 0 0 _ _
    refine e_aload0 dX3_partners_0 ?_
    refine e_iconst (z := 0) dX3_partners_1 ?_
    refine e_putfieldF flX3_28 dX3_partners_2 rfl (Nat.le_of_ble_eq_true rfl) (fun _ => rfl) (fun _ => rfl) ?_
    refine e_aload0 dX3_partners_5 ?_
    refine e_iload1 dX3_partners_6 ?_
    refine e_vIF (M' := mX3_isTransfer) fX3_isTransfer lkX3_123 (r_isTransfer h (nI 0) sf asd sts snp txt rdd (nI (aC A)) (nI (aN A)) (nI (aL A)) pt iw rm (aX A) hR hT61 (nI t)) rfl rfl dX3_partners_7 rfl rfl (by decide) (Nat.le_of_ble_eq_true rfl) rfl ?_
    rintro _ _ ⟨rfl, rfl⟩
    rw [i_in_nI c0 hT31]
    refine e_if_eqN 21 dX3_partners_10 (by decide) (by first | omega | decide) (fun q => absurd q (by decide)) (fun hc10 => ?_)
    refine e_aload0 dX3_partners_13 ?_
    refine e_iload1 dX3_partners_14 ?_
    refine e_vIF (M' := mX3_all) fX3_all lkX3_57 (r_all h (nI 0) sf asd sts snp txt rdd (nI (aC A)) (nI (aN A)) (nI (aL A)) pt iw rm (aX A) hR (t := t) (hW.2.2.2.2 t (Nat.lt_of_lt_of_le c0 hW.1)).1 (hW.2.2.2.2 t (Nat.lt_of_lt_of_le c0 hW.1)).2 (Nat.lt_of_lt_of_le c0 hW.1)) rfl rfl dX3_partners_15 rfl rfl (by decide) (Nat.le_of_ble_eq_true rfl) rfl ?_
    rintro _ _ ⟨rfl, rfl⟩
    refine e_goto 26 dX3_partners_18 (by decide) ?_
    refine e_iret dX3_partners_26 rfl ?_
    exact ⟨_, rfl, rfl, _, ⟨sf, asd, sts, snp, txt, rdd, pt, iw, rm, rfl, hR, hS2, hY, hT⟩, fun _ => rfl, rfl⟩
set_option maxRecDepth 20000 in
set_option maxHeartbeats 4000000 in
theorem p_share (h : qB) {n : Nat} {A : qA} (hG : GA n A) {F : List qE} (hB : RB A F) {x y : Int32} {code : Nat} {v : Int32} {A2 : qA} (hS : S_share A x y code v A2) : CtI mX3_share 12 [qR 11 0, qI x, qI y] (q_put h 11 F) (fun r h2 => ∃ F', RBt A2 F' (nI code) ∧ (code = 0 → r = v) ∧ h2 = q_put h 11 F') := by
  obtain ⟨th, sf, asd, sts, snp, txt, rdd, pt, iw, rm, rfl, hR, hS2, hY, hT⟩ := hB
  have hJ := hG.1.1
  have hW := wk_J hJ
  have hT61 : (aX A).1 0 0 < 61 := Nat.lt_of_le_of_lt hW.1 (by decide)
  have hW61 : (aX A).1 0 4 < 61 := Nat.lt_of_le_of_lt hW.2.1 (by decide)
  have hT31 : (aX A).1 0 0 < 2 ^ 31 := Nat.lt_of_lt_of_le hT61 (by decide)
  have hW31 : (aX A).1 0 4 < 2 ^ 31 := Nat.lt_of_lt_of_le hW61 (by decide)
  rcases hS with ⟨c0, rfl, rfl⟩ | ⟨t, c0, rfl, c2, rfl, rfl⟩ | ⟨t, s, c0, rfl, c2, rfl, rfl, rfl, rfl⟩
  · refine ct_of (by decide +kernel) rfl rfl (Nat.le_of_ble_eq_true rfl) ?_
    show Ev mX3_share 12 0 [some (qR 11 0), some (qI (x)), some (qI (y))] [] 132 (q_put h 11 (oR th sf asd sts snp txt rdd (nI (aC A)) (nI (aN A)) (nI (aL A)) pt iw rm)) 0 0 _ _
    refine e_aload0 dX3_share_0 ?_
    refine e_iconst (z := 0) dX3_share_1 ?_
    refine e_putfieldF flX3_28 dX3_share_2 rfl (Nat.le_of_ble_eq_true rfl) (fun _ => rfl) (fun _ => rfl) ?_
    refine e_aload0 dX3_share_5 ?_
    refine e_iload1 dX3_share_6 ?_
    refine e_vIF (M' := mX3_isTransfer) fX3_isTransfer lkX3_123 (r_isTransfer h (nI 0) sf asd sts snp txt rdd (nI (aC A)) (nI (aN A)) (nI (aL A)) pt iw rm (aX A) hR hT61 (x)) rfl rfl dX3_share_7 rfl rfl (by decide) (Nat.le_of_ble_eq_true rfl) rfl ?_
    rintro _ _ ⟨rfl, rfl⟩
    rw [c0]
    refine e_if_eqN 29 dX3_share_10 (by decide) (by first | omega | decide) (fun hc10 => ?_) (fun q => absurd rfl q)
    refine e_aload0 dX3_share_29 ?_
    refine e_iconst (z := 1) dX3_share_30 ?_
    refine e_vIF (M' := mX3_fails) fX3_fails lkX3_106 (r_fails h (nI 0) sf asd sts snp txt rdd (nI (aC A)) (nI (aN A)) (nI (aL A)) pt iw rm (x := nI 1)) rfl rfl dX3_share_31 rfl rfl (by decide) (Nat.le_of_ble_eq_true rfl) rfl ?_
    rintro _ _ ⟨rfl, rfl⟩
    refine e_iret dX3_share_34 rfl ?_
    exact ⟨_, rfl, rfl, _, ⟨sf, asd, sts, snp, txt, rdd, pt, iw, rm, rfl, hR, hS2, hY, hT⟩, fun q => absurd q (by decide), rfl⟩
  · refine ct_of (by decide +kernel) rfl rfl (Nat.le_of_ble_eq_true rfl) ?_
    show Ev mX3_share 12 0 [some (qR 11 0), some (qI (nI t)), some (qI (y))] [] 132 (q_put h 11 (oR th sf asd sts snp txt rdd (nI (aC A)) (nI (aN A)) (nI (aL A)) pt iw rm)) 0 0 _ _
    refine e_aload0 dX3_share_0 ?_
    refine e_iconst (z := 0) dX3_share_1 ?_
    refine e_putfieldF flX3_28 dX3_share_2 rfl (Nat.le_of_ble_eq_true rfl) (fun _ => rfl) (fun _ => rfl) ?_
    refine e_aload0 dX3_share_5 ?_
    refine e_iload1 dX3_share_6 ?_
    refine e_vIF (M' := mX3_isTransfer) fX3_isTransfer lkX3_123 (r_isTransfer h (nI 0) sf asd sts snp txt rdd (nI (aC A)) (nI (aN A)) (nI (aL A)) pt iw rm (aX A) hR hT61 (nI t)) rfl rfl dX3_share_7 rfl rfl (by decide) (Nat.le_of_ble_eq_true rfl) rfl ?_
    rintro _ _ ⟨rfl, rfl⟩
    rw [i_in_nI c0 hT31]
    refine e_if_eqN 29 dX3_share_10 (by decide) (by first | omega | decide) (fun q => absurd q (by decide)) (fun hc10 => ?_)
    refine e_iload2 dX3_share_13 ?_
    refine e_sI (M' := mX3_isStore) fX3_isStore lkX3_103 (r_isStore _ (y)) rfl rfl dX3_share_14 (by decide) (Nat.le_of_ble_eq_true rfl) rfl ?_
    rintro _ _ ⟨rfl, rfl⟩
    rw [c2]
    refine e_if_eqN 29 dX3_share_17 (by decide) (by first | omega | decide) (fun hc17 => ?_) (fun q => absurd rfl q)
    refine e_aload0 dX3_share_29 ?_
    refine e_iconst (z := 1) dX3_share_30 ?_
    refine e_vIF (M' := mX3_fails) fX3_fails lkX3_106 (r_fails h (nI 0) sf asd sts snp txt rdd (nI (aC A)) (nI (aN A)) (nI (aL A)) pt iw rm (x := nI 1)) rfl rfl dX3_share_31 rfl rfl (by decide) (Nat.le_of_ble_eq_true rfl) rfl ?_
    rintro _ _ ⟨rfl, rfl⟩
    refine e_iret dX3_share_34 rfl ?_
    exact ⟨_, rfl, rfl, _, ⟨sf, asd, sts, snp, txt, rdd, pt, iw, rm, rfl, hR, hS2, hY, hT⟩, fun q => absurd q (by decide), rfl⟩
  · refine ct_of (by decide +kernel) rfl rfl (Nat.le_of_ble_eq_true rfl) ?_
    show Ev mX3_share 12 0 [some (qR 11 0), some (qI (nI t)), some (qI (nI s))] [] 132 (q_put h 11 (oR th sf asd sts snp txt rdd (nI (aC A)) (nI (aN A)) (nI (aL A)) pt iw rm)) 0 0 _ _
    refine e_aload0 dX3_share_0 ?_
    refine e_iconst (z := 0) dX3_share_1 ?_
    refine e_putfieldF flX3_28 dX3_share_2 rfl (Nat.le_of_ble_eq_true rfl) (fun _ => rfl) (fun _ => rfl) ?_
    refine e_aload0 dX3_share_5 ?_
    refine e_iload1 dX3_share_6 ?_
    refine e_vIF (M' := mX3_isTransfer) fX3_isTransfer lkX3_123 (r_isTransfer h (nI 0) sf asd sts snp txt rdd (nI (aC A)) (nI (aN A)) (nI (aL A)) pt iw rm (aX A) hR hT61 (nI t)) rfl rfl dX3_share_7 rfl rfl (by decide) (Nat.le_of_ble_eq_true rfl) rfl ?_
    rintro _ _ ⟨rfl, rfl⟩
    rw [i_in_nI c0 hT31]
    refine e_if_eqN 29 dX3_share_10 (by decide) (by first | omega | decide) (fun q => absurd q (by decide)) (fun hc10 => ?_)
    refine e_iload2 dX3_share_13 ?_
    refine e_sI (M' := mX3_isStore) fX3_isStore lkX3_103 (r_isStore _ (nI s)) rfl rfl dX3_share_14 (by decide) (Nat.le_of_ble_eq_true rfl) rfl ?_
    rintro _ _ ⟨rfl, rfl⟩
    rw [i_in_nI c2 (by decide)]
    refine e_if_eqN 29 dX3_share_17 (by decide) (by first | omega | decide) (fun q => absurd q (by decide)) (fun hc17 => ?_)
    refine e_aload0 dX3_share_20 ?_
    refine e_iload1 dX3_share_21 ?_
    refine e_iload2 dX3_share_22 ?_
    refine e_vIF (M' := mX3_shareIn) fX3_shareIn lkX3_54 (r_shareIn h (nI 0) sf asd sts snp txt rdd (nI (aC A)) (nI (aN A)) (nI (aL A)) pt iw rm (aX A) hR (t := t) (s := s) (hW.2.2.2.2 t (Nat.lt_of_lt_of_le c0 hW.1)).1 (hW.2.2.2.2 t (Nat.lt_of_lt_of_le c0 hW.1)).2 (Nat.lt_of_lt_of_le c0 hW.1) c2) rfl rfl dX3_share_23 rfl rfl (by decide) (Nat.le_of_ble_eq_true rfl) rfl ?_
    rintro _ _ ⟨rfl, rfl⟩
    refine e_goto 34 dX3_share_26 (by decide) ?_
    refine e_iret dX3_share_34 rfl ?_
    exact ⟨_, rfl, rfl, _, ⟨sf, asd, sts, snp, txt, rdd, pt, iw, rm, rfl, hR, hS2, hY, hT⟩, fun _ => rfl, rfl⟩
set_option maxRecDepth 20000 in
set_option maxHeartbeats 4000000 in
theorem p_isUp (h : qB) {n : Nat} {A : qA} (hG : GA n A) {F : List qE} (hB : RB A F) {x : Int32} {code : Nat} {v : Int32} {A2 : qA} (hS : S_isUp A x code v A2) : CtI mX3_isUp 12 [qR 11 0, qI x] (q_put h 11 F) (fun r h2 => ∃ F', RBt A2 F' (nI code) ∧ (code = 0 → r = v) ∧ h2 = q_put h 11 F') := by
  obtain ⟨th, sf, asd, sts, snp, txt, rdd, pt, iw, rm, rfl, hR, hS2, hY, hT⟩ := hB
  have hJ := hG.1.1
  have hW := wk_J hJ
  have hT61 : (aX A).1 0 0 < 61 := Nat.lt_of_le_of_lt hW.1 (by decide)
  have hW61 : (aX A).1 0 4 < 61 := Nat.lt_of_le_of_lt hW.2.1 (by decide)
  have hT31 : (aX A).1 0 0 < 2 ^ 31 := Nat.lt_of_lt_of_le hT61 (by decide)
  have hW31 : (aX A).1 0 4 < 2 ^ 31 := Nat.lt_of_lt_of_le hW61 (by decide)
  rcases hS with ⟨c0, rfl, rfl⟩ | ⟨k, c0, rfl, rfl, rfl, rfl⟩
  · refine ct_of (by decide +kernel) rfl rfl (Nat.le_of_ble_eq_true rfl) ?_
    show Ev mX3_isUp 12 0 [some (qR 11 0), some (qI (x))] [] 132 (q_put h 11 (oR th sf asd sts snp txt rdd (nI (aC A)) (nI (aN A)) (nI (aL A)) pt iw rm)) 0 0 _ _
    refine e_aload0 dX3_isUp_0 ?_
    refine e_iconst (z := 0) dX3_isUp_1 ?_
    refine e_putfieldF flX3_28 dX3_isUp_2 rfl (Nat.le_of_ble_eq_true rfl) (fun _ => rfl) (fun _ => rfl) ?_
    refine e_iload1 dX3_isUp_5 ?_
    refine e_sI (M' := mX3_isSite) fX3_isSite lkX3_146 (r_isSite _ (x)) rfl rfl dX3_isUp_6 (by decide) (Nat.le_of_ble_eq_true rfl) rfl ?_
    rintro _ _ ⟨rfl, rfl⟩
    rw [c0]
    refine e_if_eqN 32 dX3_isUp_9 (by decide) (by first | omega | decide) (fun hc9 => ?_) (fun q => absurd rfl q)
    refine e_aload0 dX3_isUp_32 ?_
    refine e_iconst (z := 1) dX3_isUp_33 ?_
    refine e_vIF (M' := mX3_fails) fX3_fails lkX3_106 (r_fails h (nI 0) sf asd sts snp txt rdd (nI (aC A)) (nI (aN A)) (nI (aL A)) pt iw rm (x := nI 1)) rfl rfl dX3_isUp_34 rfl rfl (by decide) (Nat.le_of_ble_eq_true rfl) rfl ?_
    rintro _ _ ⟨rfl, rfl⟩
    refine e_if_le 44 dX3_isUp_37 (by decide) (fun _ => ?_) (fun q => absurd (by decide) q)
    refine e_iconst (z := 0) dX3_isUp_44 ?_
    refine e_zret dX3_isUp_45 rfl (by first | rfl | exact q_nar _) ?_
    exact ⟨_, rfl, rfl, _, ⟨sf, asd, sts, snp, txt, rdd, pt, iw, rm, rfl, hR, hS2, hY, hT⟩, fun q => absurd q (by decide), rfl⟩
  · refine ct_of (by decide +kernel) rfl rfl (Nat.le_of_ble_eq_true rfl) ?_
    show Ev mX3_isUp 12 0 [some (qR 11 0), some (qI (nI k))] [] 132 (q_put h 11 (oR th sf asd sts snp txt rdd (nI (aC A)) (nI (aN A)) (nI (aL A)) pt iw rm)) 0 0 _ _
    refine e_aload0 dX3_isUp_0 ?_
    refine e_iconst (z := 0) dX3_isUp_1 ?_
    refine e_putfieldF flX3_28 dX3_isUp_2 rfl (Nat.le_of_ble_eq_true rfl) (fun _ => rfl) (fun _ => rfl) ?_
    refine e_iload1 dX3_isUp_5 ?_
    refine e_sI (M' := mX3_isSite) fX3_isSite lkX3_146 (r_isSite _ (nI k)) rfl rfl dX3_isUp_6 (by decide) (Nat.le_of_ble_eq_true rfl) rfl ?_
    rintro _ _ ⟨rfl, rfl⟩
    rw [i_in_nI c0 (by decide)]
    refine e_if_eqN 32 dX3_isUp_9 (by decide) (by first | omega | decide) (fun q => absurd q (by decide)) (fun hc9 => ?_)
    refine e_aload0 dX3_isUp_12 ?_
    refine e_getfieldF flX3_7 dX3_isUp_13 rfl rfl ?_
    refine e_iconst (z := 0) dX3_isUp_16 ?_
    refine e_iload1 dX3_isUp_17 ?_
    first | refine e_iaddN dX3_isUp_18 ?_ | refine e_iadd dX3_isUp_18 ?_
    refine e_ialoadN dX3_isUp_19 rfl (by omega) (by decide) ?_
    rw [Nat.zero_add k, rR0 hR k c0]
    have hu := iV3 hJ.1 k c0
    refine e_iconst (z := 1) dX3_isUp_20 ?_
    first | refine e_icmp_neN 28 dX3_isUp_21 (by decide) (by omega) (by omega) (fun hc21 => ?_) (fun hc21 => ?_) | refine e_icmp_ne 28 dX3_isUp_21 (by decide) (fun hc21 => ?_) (fun hc21 => ?_)
    · refine e_iconst (z := 0) dX3_isUp_28 ?_
      refine e_goto 45 dX3_isUp_29 (by decide) ?_
      refine e_zret dX3_isUp_45 rfl (by first | rfl | exact q_nar _) ?_
      first
        | exact ⟨_, rfl, rfl, _, ⟨sf, asd, sts, snp, txt, rdd, pt, iw, rm, rfl, hR, hS2, hY, hT⟩, fun _ => by rw [decide_eq_true hc21]; rfl, rfl⟩
        | exact ⟨_, rfl, rfl, _, ⟨sf, asd, sts, snp, txt, rdd, pt, iw, rm, rfl, hR, hS2, hY, hT⟩, fun _ => by rw [decide_eq_false hc21]; rfl, rfl⟩
    · refine e_iconst (z := 1) dX3_isUp_24 ?_
      refine e_goto 45 dX3_isUp_25 (by decide) ?_
      refine e_zret dX3_isUp_45 rfl (by first | rfl | exact q_nar _) ?_
      first
        | exact ⟨_, rfl, rfl, _, ⟨sf, asd, sts, snp, txt, rdd, pt, iw, rm, rfl, hR, hS2, hY, hT⟩, fun _ => by rw [decide_eq_true hc21]; rfl, rfl⟩
        | exact ⟨_, rfl, rfl, _, ⟨sf, asd, sts, snp, txt, rdd, pt, iw, rm, rfl, hR, hS2, hY, hT⟩, fun _ => by rw [decide_eq_false hc21]; rfl, rfl⟩
set_option maxRecDepth 20000 in
set_option maxHeartbeats 4000000 in
theorem p_amount (h : qB) {n : Nat} {A : qA} (hG : GA n A) {F : List qE} (hB : RB A F) {x : Int32} {code : Nat} {v : Int32} {A2 : qA} (hS : S_amount A x code v A2) : CtI mX3_amount 12 [qR 11 0, qI x] (q_put h 11 F) (fun r h2 => ∃ F', RBt A2 F' (nI code) ∧ (code = 0 → r = v) ∧ h2 = q_put h 11 F') := by
  obtain ⟨th, sf, asd, sts, snp, txt, rdd, pt, iw, rm, rfl, hR, hS2, hY, hT⟩ := hB
  have hJ := hG.1.1
  have hW := wk_J hJ
  have hT61 : (aX A).1 0 0 < 61 := Nat.lt_of_le_of_lt hW.1 (by decide)
  have hW61 : (aX A).1 0 4 < 61 := Nat.lt_of_le_of_lt hW.2.1 (by decide)
  have hT31 : (aX A).1 0 0 < 2 ^ 31 := Nat.lt_of_lt_of_le hT61 (by decide)
  have hW31 : (aX A).1 0 4 < 2 ^ 31 := Nat.lt_of_lt_of_le hW61 (by decide)
  rcases hS with ⟨c0, rfl, rfl⟩ | ⟨s, c0, rfl, rfl, rfl, rfl⟩
  · refine ct_of (by decide +kernel) rfl rfl (Nat.le_of_ble_eq_true rfl) ?_
    show Ev mX3_amount 12 0 [some (qR 11 0), some (qI (x))] [] 132 (q_put h 11 (oR th sf asd sts snp txt rdd (nI (aC A)) (nI (aN A)) (nI (aL A)) pt iw rm)) 0 0 _ _
    refine e_aload0 dX3_amount_0 ?_
    refine e_iconst (z := 0) dX3_amount_1 ?_
    refine e_putfieldF flX3_28 dX3_amount_2 rfl (Nat.le_of_ble_eq_true rfl) (fun _ => rfl) (fun _ => rfl) ?_
    refine e_iload1 dX3_amount_5 ?_
    refine e_sI (M' := mX3_isStore) fX3_isStore lkX3_103 (r_isStore _ (x)) rfl rfl dX3_amount_6 (by decide) (Nat.le_of_ble_eq_true rfl) rfl ?_
    rintro _ _ ⟨rfl, rfl⟩
    rw [c0]
    refine e_if_eqN 23 dX3_amount_9 (by decide) (by first | omega | decide) (fun hc9 => ?_) (fun q => absurd rfl q)
    refine e_aload0 dX3_amount_23 ?_
    refine e_iconst (z := 1) dX3_amount_24 ?_
    refine e_vIF (M' := mX3_fails) fX3_fails lkX3_106 (r_fails h (nI 0) sf asd sts snp txt rdd (nI (aC A)) (nI (aN A)) (nI (aL A)) pt iw rm (x := nI 1)) rfl rfl dX3_amount_25 rfl rfl (by decide) (Nat.le_of_ble_eq_true rfl) rfl ?_
    rintro _ _ ⟨rfl, rfl⟩
    refine e_iret dX3_amount_28 rfl ?_
    exact ⟨_, rfl, rfl, _, ⟨sf, asd, sts, snp, txt, rdd, pt, iw, rm, rfl, hR, hS2, hY, hT⟩, fun q => absurd q (by decide), rfl⟩
  · refine ct_of (by decide +kernel) rfl rfl (Nat.le_of_ble_eq_true rfl) ?_
    show Ev mX3_amount 12 0 [some (qR 11 0), some (qI (nI s))] [] 132 (q_put h 11 (oR th sf asd sts snp txt rdd (nI (aC A)) (nI (aN A)) (nI (aL A)) pt iw rm)) 0 0 _ _
    refine e_aload0 dX3_amount_0 ?_
    refine e_iconst (z := 0) dX3_amount_1 ?_
    refine e_putfieldF flX3_28 dX3_amount_2 rfl (Nat.le_of_ble_eq_true rfl) (fun _ => rfl) (fun _ => rfl) ?_
    refine e_iload1 dX3_amount_5 ?_
    refine e_sI (M' := mX3_isStore) fX3_isStore lkX3_103 (r_isStore _ (nI s)) rfl rfl dX3_amount_6 (by decide) (Nat.le_of_ble_eq_true rfl) rfl ?_
    rintro _ _ ⟨rfl, rfl⟩
    rw [i_in_nI c0 (by decide)]
    refine e_if_eqN 23 dX3_amount_9 (by decide) (by first | omega | decide) (fun q => absurd q (by decide)) (fun hc9 => ?_)
    refine e_aload0 dX3_amount_12 ?_
    refine e_getfieldF flX3_7 dX3_amount_13 rfl rfl ?_
    refine e_iconst (z := 5) dX3_amount_16 ?_
    refine e_iload1 dX3_amount_17 ?_
    first | refine e_iaddN dX3_amount_18 ?_ | refine e_iadd dX3_amount_18 ?_
    refine e_ialoadN dX3_amount_19 rfl (by omega) (by decide) ?_
    refine e_goto 28 dX3_amount_20 (by decide) ?_
    refine e_iret dX3_amount_28 rfl ?_
    exact ⟨_, rfl, rfl, _, ⟨sf, asd, sts, snp, txt, rdd, pt, iw, rm, rfl, hR, hS2, hY, hT⟩, fun _ => rR1 hR s c0, rfl⟩
set_option maxRecDepth 20000 in
set_option maxHeartbeats 4000000 in
theorem p_amountByLog (h : qB) {n : Nat} {A : qA} (hG : GA n A) {F : List qE} (hB : RB A F) {x : Int32} {code : Nat} {v : Int32} {A2 : qA} (hS : S_amountByLog A x code v A2) : CtI mX3_amountByLog 12 [qR 11 0, qI x] (q_put h 11 F) (fun r h2 => ∃ F', RBt A2 F' (nI code) ∧ (code = 0 → r = v) ∧ h2 = q_put h 11 F') := by
  obtain ⟨th, sf, asd, sts, snp, txt, rdd, pt, iw, rm, rfl, hR, hS2, hY, hT⟩ := hB
  have hJ := hG.1.1
  have hW := wk_J hJ
  have hT61 : (aX A).1 0 0 < 61 := Nat.lt_of_le_of_lt hW.1 (by decide)
  have hW61 : (aX A).1 0 4 < 61 := Nat.lt_of_le_of_lt hW.2.1 (by decide)
  have hT31 : (aX A).1 0 0 < 2 ^ 31 := Nat.lt_of_lt_of_le hT61 (by decide)
  have hW31 : (aX A).1 0 4 < 2 ^ 31 := Nat.lt_of_lt_of_le hW61 (by decide)
  rcases hS with ⟨c0, rfl, rfl⟩ | ⟨s, c0, rfl, rfl, rfl, rfl⟩
  · refine ct_of (by decide +kernel) rfl rfl (Nat.le_of_ble_eq_true rfl) ?_
    show Ev mX3_amountByLog 12 0 [some (qR 11 0), some (qI (x))] [] 132 (q_put h 11 (oR th sf asd sts snp txt rdd (nI (aC A)) (nI (aN A)) (nI (aL A)) pt iw rm)) 0 0 _ _
    refine e_aload0 dX3_amountByLog_0 ?_
    refine e_iconst (z := 0) dX3_amountByLog_1 ?_
    refine e_putfieldF flX3_28 dX3_amountByLog_2 rfl (Nat.le_of_ble_eq_true rfl) (fun _ => rfl) (fun _ => rfl) ?_
    refine e_iload1 dX3_amountByLog_5 ?_
    refine e_sI (M' := mX3_isStore) fX3_isStore lkX3_103 (r_isStore _ (x)) rfl rfl dX3_amountByLog_6 (by decide) (Nat.le_of_ble_eq_true rfl) rfl ?_
    rintro _ _ ⟨rfl, rfl⟩
    rw [c0]
    refine e_if_eqN 20 dX3_amountByLog_9 (by decide) (by first | omega | decide) (fun hc9 => ?_) (fun q => absurd rfl q)
    refine e_aload0 dX3_amountByLog_20 ?_
    refine e_iconst (z := 1) dX3_amountByLog_21 ?_
    refine e_vIF (M' := mX3_fails) fX3_fails lkX3_106 (r_fails h (nI 0) sf asd sts snp txt rdd (nI (aC A)) (nI (aN A)) (nI (aL A)) pt iw rm (x := nI 1)) rfl rfl dX3_amountByLog_22 rfl rfl (by decide) (Nat.le_of_ble_eq_true rfl) rfl ?_
    rintro _ _ ⟨rfl, rfl⟩
    refine e_iret dX3_amountByLog_25 rfl ?_
    exact ⟨_, rfl, rfl, _, ⟨sf, asd, sts, snp, txt, rdd, pt, iw, rm, rfl, hR, hS2, hY, hT⟩, fun q => absurd q (by decide), rfl⟩
  · refine ct_of (by decide +kernel) rfl rfl (Nat.le_of_ble_eq_true rfl) ?_
    show Ev mX3_amountByLog 12 0 [some (qR 11 0), some (qI (nI s))] [] 132 (q_put h 11 (oR th sf asd sts snp txt rdd (nI (aC A)) (nI (aN A)) (nI (aL A)) pt iw rm)) 0 0 _ _
    refine e_aload0 dX3_amountByLog_0 ?_
    refine e_iconst (z := 0) dX3_amountByLog_1 ?_
    refine e_putfieldF flX3_28 dX3_amountByLog_2 rfl (Nat.le_of_ble_eq_true rfl) (fun _ => rfl) (fun _ => rfl) ?_
    refine e_iload1 dX3_amountByLog_5 ?_
    refine e_sI (M' := mX3_isStore) fX3_isStore lkX3_103 (r_isStore _ (nI s)) rfl rfl dX3_amountByLog_6 (by decide) (Nat.le_of_ble_eq_true rfl) rfl ?_
    rintro _ _ ⟨rfl, rfl⟩
    rw [i_in_nI c0 (by decide)]
    refine e_if_eqN 20 dX3_amountByLog_9 (by decide) (by first | omega | decide) (fun q => absurd q (by decide)) (fun hc9 => ?_)
    refine e_aload0 dX3_amountByLog_12 ?_
    refine e_iload1 dX3_amountByLog_13 ?_
    refine e_vIF (M' := mX3_amountLogged) fX3_amountLogged lkX3_193 (r_amountLogged h (nI 0) sf asd sts snp txt rdd (nI (aC A)) (nI (aN A)) (nI (aL A)) pt iw rm (aX A) hR hJ (s := s) c0) rfl rfl dX3_amountByLog_14 rfl rfl (by decide) (Nat.le_of_ble_eq_true rfl) rfl ?_
    rintro _ _ ⟨rfl, rfl⟩
    refine e_goto 25 dX3_amountByLog_17 (by decide) ?_
    refine e_iret dX3_amountByLog_25 rfl ?_
    exact ⟨_, rfl, rfl, _, ⟨sf, asd, sts, snp, txt, rdd, pt, iw, rm, rfl, hR, hS2, hY, hT⟩, fun _ => rfl, rfl⟩
set_option maxRecDepth 20000 in
set_option maxHeartbeats 4000000 in
theorem p_state (h : qB) {n : Nat} {A : qA} (hG : GA n A) {F : List qE} (hB : RB A F) {x y : Int32} {code : Nat} {v : Int32} {A2 : qA} (hS : S_state A x y code v A2) : CtI mX3_state 12 [qR 11 0, qI x, qI y] (q_put h 11 F) (fun r h2 => ∃ F', RBt A2 F' (nI code) ∧ (code = 0 → r = v) ∧ h2 = q_put h 11 F') := by
  obtain ⟨th, sf, asd, sts, snp, txt, rdd, pt, iw, rm, rfl, hR, hS2, hY, hT⟩ := hB
  have hJ := hG.1.1
  have hW := wk_J hJ
  have hT61 : (aX A).1 0 0 < 61 := Nat.lt_of_le_of_lt hW.1 (by decide)
  have hW61 : (aX A).1 0 4 < 61 := Nat.lt_of_le_of_lt hW.2.1 (by decide)
  have hT31 : (aX A).1 0 0 < 2 ^ 31 := Nat.lt_of_lt_of_le hT61 (by decide)
  have hW31 : (aX A).1 0 4 < 2 ^ 31 := Nat.lt_of_lt_of_le hW61 (by decide)
  rcases hS with ⟨c0, rfl, rfl⟩ | ⟨s, c0, rfl, c2, rfl, rfl⟩ | ⟨s, t, c0, rfl, c2, rfl, rfl, rfl, rfl⟩
  · refine ct_of (by decide +kernel) rfl rfl (Nat.le_of_ble_eq_true rfl) ?_
    show Ev mX3_state 12 0 [some (qR 11 0), some (qI (x)), some (qI (y))] [] 132 (q_put h 11 (oR th sf asd sts snp txt rdd (nI (aC A)) (nI (aN A)) (nI (aL A)) pt iw rm)) 0 0 _ _
    refine e_aload0 dX3_state_0 ?_
    refine e_iconst (z := 0) dX3_state_1 ?_
    refine e_putfieldF flX3_28 dX3_state_2 rfl (Nat.le_of_ble_eq_true rfl) (fun _ => rfl) (fun _ => rfl) ?_
    refine e_iload1 dX3_state_5 ?_
    refine e_sI (M' := mX3_isStore) fX3_isStore lkX3_103 (r_isStore _ (x)) rfl rfl dX3_state_6 (by decide) (Nat.le_of_ble_eq_true rfl) rfl ?_
    rintro _ _ ⟨rfl, rfl⟩
    rw [c0]
    refine e_if_eqN 29 dX3_state_9 (by decide) (by first | omega | decide) (fun hc9 => ?_) (fun q => absurd rfl q)
    refine e_aload0 dX3_state_29 ?_
    refine e_iconst (z := 1) dX3_state_30 ?_
    refine e_vIF (M' := mX3_fails) fX3_fails lkX3_106 (r_fails h (nI 0) sf asd sts snp txt rdd (nI (aC A)) (nI (aN A)) (nI (aL A)) pt iw rm (x := nI 1)) rfl rfl dX3_state_31 rfl rfl (by decide) (Nat.le_of_ble_eq_true rfl) rfl ?_
    rintro _ _ ⟨rfl, rfl⟩
    refine e_iret dX3_state_34 rfl ?_
    exact ⟨_, rfl, rfl, _, ⟨sf, asd, sts, snp, txt, rdd, pt, iw, rm, rfl, hR, hS2, hY, hT⟩, fun q => absurd q (by decide), rfl⟩
  · refine ct_of (by decide +kernel) rfl rfl (Nat.le_of_ble_eq_true rfl) ?_
    show Ev mX3_state 12 0 [some (qR 11 0), some (qI (nI s)), some (qI (y))] [] 132 (q_put h 11 (oR th sf asd sts snp txt rdd (nI (aC A)) (nI (aN A)) (nI (aL A)) pt iw rm)) 0 0 _ _
    refine e_aload0 dX3_state_0 ?_
    refine e_iconst (z := 0) dX3_state_1 ?_
    refine e_putfieldF flX3_28 dX3_state_2 rfl (Nat.le_of_ble_eq_true rfl) (fun _ => rfl) (fun _ => rfl) ?_
    refine e_iload1 dX3_state_5 ?_
    refine e_sI (M' := mX3_isStore) fX3_isStore lkX3_103 (r_isStore _ (nI s)) rfl rfl dX3_state_6 (by decide) (Nat.le_of_ble_eq_true rfl) rfl ?_
    rintro _ _ ⟨rfl, rfl⟩
    rw [i_in_nI c0 (by decide)]
    refine e_if_eqN 29 dX3_state_9 (by decide) (by first | omega | decide) (fun q => absurd q (by decide)) (fun hc9 => ?_)
    refine e_aload0 dX3_state_12 ?_
    refine e_iload2 dX3_state_13 ?_
    refine e_vIF (M' := mX3_isTransfer) fX3_isTransfer lkX3_123 (r_isTransfer h (nI 0) sf asd sts snp txt rdd (nI (aC A)) (nI (aN A)) (nI (aL A)) pt iw rm (aX A) hR hT61 (y)) rfl rfl dX3_state_14 rfl rfl (by decide) (Nat.le_of_ble_eq_true rfl) rfl ?_
    rintro _ _ ⟨rfl, rfl⟩
    rw [c2]
    refine e_if_eqN 29 dX3_state_17 (by decide) (by first | omega | decide) (fun hc17 => ?_) (fun q => absurd rfl q)
    refine e_aload0 dX3_state_29 ?_
    refine e_iconst (z := 1) dX3_state_30 ?_
    refine e_vIF (M' := mX3_fails) fX3_fails lkX3_106 (r_fails h (nI 0) sf asd sts snp txt rdd (nI (aC A)) (nI (aN A)) (nI (aL A)) pt iw rm (x := nI 1)) rfl rfl dX3_state_31 rfl rfl (by decide) (Nat.le_of_ble_eq_true rfl) rfl ?_
    rintro _ _ ⟨rfl, rfl⟩
    refine e_iret dX3_state_34 rfl ?_
    exact ⟨_, rfl, rfl, _, ⟨sf, asd, sts, snp, txt, rdd, pt, iw, rm, rfl, hR, hS2, hY, hT⟩, fun q => absurd q (by decide), rfl⟩
  · refine ct_of (by decide +kernel) rfl rfl (Nat.le_of_ble_eq_true rfl) ?_
    show Ev mX3_state 12 0 [some (qR 11 0), some (qI (nI s)), some (qI (nI t))] [] 132 (q_put h 11 (oR th sf asd sts snp txt rdd (nI (aC A)) (nI (aN A)) (nI (aL A)) pt iw rm)) 0 0 _ _
    refine e_aload0 dX3_state_0 ?_
    refine e_iconst (z := 0) dX3_state_1 ?_
    refine e_putfieldF flX3_28 dX3_state_2 rfl (Nat.le_of_ble_eq_true rfl) (fun _ => rfl) (fun _ => rfl) ?_
    refine e_iload1 dX3_state_5 ?_
    refine e_sI (M' := mX3_isStore) fX3_isStore lkX3_103 (r_isStore _ (nI s)) rfl rfl dX3_state_6 (by decide) (Nat.le_of_ble_eq_true rfl) rfl ?_
    rintro _ _ ⟨rfl, rfl⟩
    rw [i_in_nI c0 (by decide)]
    refine e_if_eqN 29 dX3_state_9 (by decide) (by first | omega | decide) (fun q => absurd q (by decide)) (fun hc9 => ?_)
    refine e_aload0 dX3_state_12 ?_
    refine e_iload2 dX3_state_13 ?_
    refine e_vIF (M' := mX3_isTransfer) fX3_isTransfer lkX3_123 (r_isTransfer h (nI 0) sf asd sts snp txt rdd (nI (aC A)) (nI (aN A)) (nI (aL A)) pt iw rm (aX A) hR hT61 (nI t)) rfl rfl dX3_state_14 rfl rfl (by decide) (Nat.le_of_ble_eq_true rfl) rfl ?_
    rintro _ _ ⟨rfl, rfl⟩
    rw [i_in_nI c2 hT31]
    refine e_if_eqN 29 dX3_state_17 (by decide) (by first | omega | decide) (fun q => absurd q (by decide)) (fun hc17 => ?_)
    refine e_aload0 dX3_state_20 ?_
    refine e_iload1 dX3_state_21 ?_
    refine e_iload2 dX3_state_22 ?_
    refine e_vIF (M' := mX3_stateIn) fX3_stateIn lkX3_51 (r_stateIn h (nI 0) sf asd sts snp txt rdd (nI (aC A)) (nI (aN A)) (nI (aL A)) pt iw rm (aX A) hR (s := s) (t := t) c0 (Nat.lt_of_lt_of_le c2 hW.1)) rfl rfl dX3_state_23 rfl rfl (by decide) (Nat.le_of_ble_eq_true rfl) rfl ?_
    rintro _ _ ⟨rfl, rfl⟩
    refine e_goto 34 dX3_state_26 (by decide) ?_
    refine e_iret dX3_state_34 rfl ?_
    exact ⟨_, rfl, rfl, _, ⟨sf, asd, sts, snp, txt, rdd, pt, iw, rm, rfl, hR, hS2, hY, hT⟩, fun _ => rfl, rfl⟩
set_option maxRecDepth 20000 in
set_option maxHeartbeats 4000000 in
theorem p_stateByLog (h : qB) {n : Nat} {A : qA} (hG : GA n A) {F : List qE} (hB : RB A F) {x y : Int32} {code : Nat} {v : Int32} {A2 : qA} (hS : S_stateByLog A x y code v A2) : CtI mX3_stateByLog 12 [qR 11 0, qI x, qI y] (q_put h 11 F) (fun r h2 => ∃ F', RBt A2 F' (nI code) ∧ (code = 0 → r = v) ∧ h2 = q_put h 11 F') := by
  obtain ⟨th, sf, asd, sts, snp, txt, rdd, pt, iw, rm, rfl, hR, hS2, hY, hT⟩ := hB
  have hJ := hG.1.1
  have hW := wk_J hJ
  have hT61 : (aX A).1 0 0 < 61 := Nat.lt_of_le_of_lt hW.1 (by decide)
  have hW61 : (aX A).1 0 4 < 61 := Nat.lt_of_le_of_lt hW.2.1 (by decide)
  have hT31 : (aX A).1 0 0 < 2 ^ 31 := Nat.lt_of_lt_of_le hT61 (by decide)
  have hW31 : (aX A).1 0 4 < 2 ^ 31 := Nat.lt_of_lt_of_le hW61 (by decide)
  rcases hS with ⟨c0, rfl, rfl⟩ | ⟨s, c0, rfl, c2, rfl, rfl⟩ | ⟨s, t, c0, rfl, c2, rfl, rfl, rfl, rfl⟩
  · refine ct_of (by decide +kernel) rfl rfl (Nat.le_of_ble_eq_true rfl) ?_
    show Ev mX3_stateByLog 12 0 [some (qR 11 0), some (qI (x)), some (qI (y))] [] 132 (q_put h 11 (oR th sf asd sts snp txt rdd (nI (aC A)) (nI (aN A)) (nI (aL A)) pt iw rm)) 0 0 _ _
    refine e_aload0 dX3_stateByLog_0 ?_
    refine e_iconst (z := 0) dX3_stateByLog_1 ?_
    refine e_putfieldF flX3_28 dX3_stateByLog_2 rfl (Nat.le_of_ble_eq_true rfl) (fun _ => rfl) (fun _ => rfl) ?_
    refine e_iload1 dX3_stateByLog_5 ?_
    refine e_sI (M' := mX3_isStore) fX3_isStore lkX3_103 (r_isStore _ (x)) rfl rfl dX3_stateByLog_6 (by decide) (Nat.le_of_ble_eq_true rfl) rfl ?_
    rintro _ _ ⟨rfl, rfl⟩
    rw [c0]
    refine e_if_eqN 29 dX3_stateByLog_9 (by decide) (by first | omega | decide) (fun hc9 => ?_) (fun q => absurd rfl q)
    refine e_aload0 dX3_stateByLog_29 ?_
    refine e_iconst (z := 1) dX3_stateByLog_30 ?_
    refine e_vIF (M' := mX3_fails) fX3_fails lkX3_106 (r_fails h (nI 0) sf asd sts snp txt rdd (nI (aC A)) (nI (aN A)) (nI (aL A)) pt iw rm (x := nI 1)) rfl rfl dX3_stateByLog_31 rfl rfl (by decide) (Nat.le_of_ble_eq_true rfl) rfl ?_
    rintro _ _ ⟨rfl, rfl⟩
    refine e_iret dX3_stateByLog_34 rfl ?_
    exact ⟨_, rfl, rfl, _, ⟨sf, asd, sts, snp, txt, rdd, pt, iw, rm, rfl, hR, hS2, hY, hT⟩, fun q => absurd q (by decide), rfl⟩
  · refine ct_of (by decide +kernel) rfl rfl (Nat.le_of_ble_eq_true rfl) ?_
    show Ev mX3_stateByLog 12 0 [some (qR 11 0), some (qI (nI s)), some (qI (y))] [] 132 (q_put h 11 (oR th sf asd sts snp txt rdd (nI (aC A)) (nI (aN A)) (nI (aL A)) pt iw rm)) 0 0 _ _
    refine e_aload0 dX3_stateByLog_0 ?_
    refine e_iconst (z := 0) dX3_stateByLog_1 ?_
    refine e_putfieldF flX3_28 dX3_stateByLog_2 rfl (Nat.le_of_ble_eq_true rfl) (fun _ => rfl) (fun _ => rfl) ?_
    refine e_iload1 dX3_stateByLog_5 ?_
    refine e_sI (M' := mX3_isStore) fX3_isStore lkX3_103 (r_isStore _ (nI s)) rfl rfl dX3_stateByLog_6 (by decide) (Nat.le_of_ble_eq_true rfl) rfl ?_
    rintro _ _ ⟨rfl, rfl⟩
    rw [i_in_nI c0 (by decide)]
    refine e_if_eqN 29 dX3_stateByLog_9 (by decide) (by first | omega | decide) (fun q => absurd q (by decide)) (fun hc9 => ?_)
    refine e_aload0 dX3_stateByLog_12 ?_
    refine e_iload2 dX3_stateByLog_13 ?_
    refine e_vIF (M' := mX3_isTransfer) fX3_isTransfer lkX3_123 (r_isTransfer h (nI 0) sf asd sts snp txt rdd (nI (aC A)) (nI (aN A)) (nI (aL A)) pt iw rm (aX A) hR hT61 (y)) rfl rfl dX3_stateByLog_14 rfl rfl (by decide) (Nat.le_of_ble_eq_true rfl) rfl ?_
    rintro _ _ ⟨rfl, rfl⟩
    rw [c2]
    refine e_if_eqN 29 dX3_stateByLog_17 (by decide) (by first | omega | decide) (fun hc17 => ?_) (fun q => absurd rfl q)
    refine e_aload0 dX3_stateByLog_29 ?_
    refine e_iconst (z := 1) dX3_stateByLog_30 ?_
    refine e_vIF (M' := mX3_fails) fX3_fails lkX3_106 (r_fails h (nI 0) sf asd sts snp txt rdd (nI (aC A)) (nI (aN A)) (nI (aL A)) pt iw rm (x := nI 1)) rfl rfl dX3_stateByLog_31 rfl rfl (by decide) (Nat.le_of_ble_eq_true rfl) rfl ?_
    rintro _ _ ⟨rfl, rfl⟩
    refine e_iret dX3_stateByLog_34 rfl ?_
    exact ⟨_, rfl, rfl, _, ⟨sf, asd, sts, snp, txt, rdd, pt, iw, rm, rfl, hR, hS2, hY, hT⟩, fun q => absurd q (by decide), rfl⟩
  · refine ct_of (by decide +kernel) rfl rfl (Nat.le_of_ble_eq_true rfl) ?_
    show Ev mX3_stateByLog 12 0 [some (qR 11 0), some (qI (nI s)), some (qI (nI t))] [] 132 (q_put h 11 (oR th sf asd sts snp txt rdd (nI (aC A)) (nI (aN A)) (nI (aL A)) pt iw rm)) 0 0 _ _
    refine e_aload0 dX3_stateByLog_0 ?_
    refine e_iconst (z := 0) dX3_stateByLog_1 ?_
    refine e_putfieldF flX3_28 dX3_stateByLog_2 rfl (Nat.le_of_ble_eq_true rfl) (fun _ => rfl) (fun _ => rfl) ?_
    refine e_iload1 dX3_stateByLog_5 ?_
    refine e_sI (M' := mX3_isStore) fX3_isStore lkX3_103 (r_isStore _ (nI s)) rfl rfl dX3_stateByLog_6 (by decide) (Nat.le_of_ble_eq_true rfl) rfl ?_
    rintro _ _ ⟨rfl, rfl⟩
    rw [i_in_nI c0 (by decide)]
    refine e_if_eqN 29 dX3_stateByLog_9 (by decide) (by first | omega | decide) (fun q => absurd q (by decide)) (fun hc9 => ?_)
    refine e_aload0 dX3_stateByLog_12 ?_
    refine e_iload2 dX3_stateByLog_13 ?_
    refine e_vIF (M' := mX3_isTransfer) fX3_isTransfer lkX3_123 (r_isTransfer h (nI 0) sf asd sts snp txt rdd (nI (aC A)) (nI (aN A)) (nI (aL A)) pt iw rm (aX A) hR hT61 (nI t)) rfl rfl dX3_stateByLog_14 rfl rfl (by decide) (Nat.le_of_ble_eq_true rfl) rfl ?_
    rintro _ _ ⟨rfl, rfl⟩
    rw [i_in_nI c2 hT31]
    refine e_if_eqN 29 dX3_stateByLog_17 (by decide) (by first | omega | decide) (fun q => absurd q (by decide)) (fun hc17 => ?_)
    refine e_aload0 dX3_stateByLog_20 ?_
    refine e_iload1 dX3_stateByLog_21 ?_
    refine e_iload2 dX3_stateByLog_22 ?_
    refine e_vIF (M' := mX3_stateLogged) fX3_stateLogged lkX3_196 (r_stateLogged h (nI 0) sf asd sts snp txt rdd (nI (aC A)) (nI (aN A)) (nI (aL A)) pt iw rm (aX A) hR hJ (s := s) (t := t) c0 (Nat.lt_of_lt_of_le c2 hW.1)) rfl rfl dX3_stateByLog_23 rfl rfl (by decide) (Nat.le_of_ble_eq_true rfl) rfl ?_
    rintro _ _ ⟨rfl, rfl⟩
    refine e_goto 34 dX3_stateByLog_26 (by decide) ?_
    refine e_iret dX3_stateByLog_34 rfl ?_
    exact ⟨_, rfl, rfl, _, ⟨sf, asd, sts, snp, txt, rdd, pt, iw, rm, rfl, hR, hS2, hY, hT⟩, fun _ => rfl, rfl⟩
set_option maxRecDepth 20000 in
set_option maxHeartbeats 4000000 in
theorem p_inDoubt (h : qB) {n : Nat} {A : qA} (hG : GA n A) {F : List qE} (hB : RB A F) {x : Int32} {code : Nat} {v : Int32} {A2 : qA} (hS : S_inDoubt A x code v A2) : CtI mX3_inDoubt 12 [qR 11 0, qI x] (q_put h 11 F) (fun r h2 => ∃ F', RBt A2 F' (nI code) ∧ (code = 0 → r = v) ∧ h2 = q_put h 11 F') := by
  obtain ⟨th, sf, asd, sts, snp, txt, rdd, pt, iw, rm, rfl, hR, hS2, hY, hT⟩ := hB
  have hJ := hG.1.1
  have hW := wk_J hJ
  have hT61 : (aX A).1 0 0 < 61 := Nat.lt_of_le_of_lt hW.1 (by decide)
  have hW61 : (aX A).1 0 4 < 61 := Nat.lt_of_le_of_lt hW.2.1 (by decide)
  have hT31 : (aX A).1 0 0 < 2 ^ 31 := Nat.lt_of_lt_of_le hT61 (by decide)
  have hW31 : (aX A).1 0 4 < 2 ^ 31 := Nat.lt_of_lt_of_le hW61 (by decide)
  rcases hS with ⟨c0, rfl, rfl⟩ | ⟨s, c0, rfl, rfl, rfl, rfl⟩
  · refine ct_of (by decide +kernel) rfl rfl (Nat.le_of_ble_eq_true rfl) ?_
    show Ev mX3_inDoubt 12 0 [some (qR 11 0), some (qI (x))] [] 132 (q_put h 11 (oR th sf asd sts snp txt rdd (nI (aC A)) (nI (aN A)) (nI (aL A)) pt iw rm)) 0 0 _ _
    refine e_aload0 dX3_inDoubt_0 ?_
    refine e_iconst (z := 0) dX3_inDoubt_1 ?_
    refine e_putfieldF flX3_28 dX3_inDoubt_2 rfl (Nat.le_of_ble_eq_true rfl) (fun _ => rfl) (fun _ => rfl) ?_
    refine e_iload1 dX3_inDoubt_5 ?_
    refine e_sI (M' := mX3_isStore) fX3_isStore lkX3_103 (r_isStore _ (x)) rfl rfl dX3_inDoubt_6 (by decide) (Nat.le_of_ble_eq_true rfl) rfl ?_
    rintro _ _ ⟨rfl, rfl⟩
    rw [c0]
    refine e_if_eqN 20 dX3_inDoubt_9 (by decide) (by first | omega | decide) (fun hc9 => ?_) (fun q => absurd rfl q)
    refine e_aload0 dX3_inDoubt_20 ?_
    refine e_iconst (z := 1) dX3_inDoubt_21 ?_
    refine e_vIF (M' := mX3_fails) fX3_fails lkX3_106 (r_fails h (nI 0) sf asd sts snp txt rdd (nI (aC A)) (nI (aN A)) (nI (aL A)) pt iw rm (x := nI 1)) rfl rfl dX3_inDoubt_22 rfl rfl (by decide) (Nat.le_of_ble_eq_true rfl) rfl ?_
    rintro _ _ ⟨rfl, rfl⟩
    refine e_iret dX3_inDoubt_25 rfl ?_
    exact ⟨_, rfl, rfl, _, ⟨sf, asd, sts, snp, txt, rdd, pt, iw, rm, rfl, hR, hS2, hY, hT⟩, fun q => absurd q (by decide), rfl⟩
  · refine ct_of (by decide +kernel) rfl rfl (Nat.le_of_ble_eq_true rfl) ?_
    show Ev mX3_inDoubt 12 0 [some (qR 11 0), some (qI (nI s))] [] 132 (q_put h 11 (oR th sf asd sts snp txt rdd (nI (aC A)) (nI (aN A)) (nI (aL A)) pt iw rm)) 0 0 _ _
    refine e_aload0 dX3_inDoubt_0 ?_
    refine e_iconst (z := 0) dX3_inDoubt_1 ?_
    refine e_putfieldF flX3_28 dX3_inDoubt_2 rfl (Nat.le_of_ble_eq_true rfl) (fun _ => rfl) (fun _ => rfl) ?_
    refine e_iload1 dX3_inDoubt_5 ?_
    refine e_sI (M' := mX3_isStore) fX3_isStore lkX3_103 (r_isStore _ (nI s)) rfl rfl dX3_inDoubt_6 (by decide) (Nat.le_of_ble_eq_true rfl) rfl ?_
    rintro _ _ ⟨rfl, rfl⟩
    rw [i_in_nI c0 (by decide)]
    refine e_if_eqN 20 dX3_inDoubt_9 (by decide) (by first | omega | decide) (fun q => absurd q (by decide)) (fun hc9 => ?_)
    refine e_aload0 dX3_inDoubt_12 ?_
    refine e_iload1 dX3_inDoubt_13 ?_
    refine e_vIF (M' := mX3_doubts) fX3_doubts lkX3_199 (r_doubts h (nI 0) sf asd sts snp txt rdd (nI (aC A)) (nI (aN A)) (nI (aL A)) pt iw rm (aX A) hR hJ (s := s) c0) rfl rfl dX3_inDoubt_14 rfl rfl (by decide) (Nat.le_of_ble_eq_true rfl) rfl ?_
    rintro _ _ ⟨rfl, rfl⟩
    refine e_goto 25 dX3_inDoubt_17 (by decide) ?_
    refine e_iret dX3_inDoubt_25 rfl ?_
    exact ⟨_, rfl, rfl, _, ⟨sf, asd, sts, snp, txt, rdd, pt, iw, rm, rfl, hR, hS2, hY, hT⟩, fun _ => rfl, rfl⟩
set_option maxRecDepth 20000 in
set_option maxHeartbeats 4000000 in
theorem p_outcome (h : qB) {n : Nat} {A : qA} (hG : GA n A) {F : List qE} (hB : RB A F) {x : Int32} {code : Nat} {v : Int32} {A2 : qA} (hS : S_outcome A x code v A2) : CtI mX3_outcome 12 [qR 11 0, qI x] (q_put h 11 F) (fun r h2 => ∃ F', RBt A2 F' (nI code) ∧ (code = 0 → r = v) ∧ h2 = q_put h 11 F') := by
  obtain ⟨th, sf, asd, sts, snp, txt, rdd, pt, iw, rm, rfl, hR, hS2, hY, hT⟩ := hB
  have hJ := hG.1.1
  have hW := wk_J hJ
  have hT61 : (aX A).1 0 0 < 61 := Nat.lt_of_le_of_lt hW.1 (by decide)
  have hW61 : (aX A).1 0 4 < 61 := Nat.lt_of_le_of_lt hW.2.1 (by decide)
  have hT31 : (aX A).1 0 0 < 2 ^ 31 := Nat.lt_of_lt_of_le hT61 (by decide)
  have hW31 : (aX A).1 0 4 < 2 ^ 31 := Nat.lt_of_lt_of_le hW61 (by decide)
  rcases hS with ⟨c0, rfl, rfl⟩ | ⟨t, c0, rfl, rfl, rfl, rfl⟩
  · refine ct_of (by decide +kernel) rfl rfl (Nat.le_of_ble_eq_true rfl) ?_
    show Ev mX3_outcome 12 0 [some (qR 11 0), some (qI (x))] [] 132 (q_put h 11 (oR th sf asd sts snp txt rdd (nI (aC A)) (nI (aN A)) (nI (aL A)) pt iw rm)) 0 0 _ _
    refine e_aload0 dX3_outcome_0 ?_
    refine e_iconst (z := 0) dX3_outcome_1 ?_
    refine e_putfieldF flX3_28 dX3_outcome_2 rfl (Nat.le_of_ble_eq_true rfl) (fun _ => rfl) (fun _ => rfl) ?_
    refine e_aload0 dX3_outcome_5 ?_
    refine e_iload1 dX3_outcome_6 ?_
    refine e_vIF (M' := mX3_isTransfer) fX3_isTransfer lkX3_123 (r_isTransfer h (nI 0) sf asd sts snp txt rdd (nI (aC A)) (nI (aN A)) (nI (aL A)) pt iw rm (aX A) hR hT61 (x)) rfl rfl dX3_outcome_7 rfl rfl (by decide) (Nat.le_of_ble_eq_true rfl) rfl ?_
    rintro _ _ ⟨rfl, rfl⟩
    rw [c0]
    refine e_if_eqN 22 dX3_outcome_10 (by decide) (by first | omega | decide) (fun hc10 => ?_) (fun q => absurd rfl q)
    refine e_aload0 dX3_outcome_22 ?_
    refine e_iconst (z := 1) dX3_outcome_23 ?_
    refine e_vIF (M' := mX3_fails) fX3_fails lkX3_106 (r_fails h (nI 0) sf asd sts snp txt rdd (nI (aC A)) (nI (aN A)) (nI (aL A)) pt iw rm (x := nI 1)) rfl rfl dX3_outcome_24 rfl rfl (by decide) (Nat.le_of_ble_eq_true rfl) rfl ?_
    rintro _ _ ⟨rfl, rfl⟩
    refine e_iret dX3_outcome_27 rfl ?_
    exact ⟨_, rfl, rfl, _, ⟨sf, asd, sts, snp, txt, rdd, pt, iw, rm, rfl, hR, hS2, hY, hT⟩, fun q => absurd q (by decide), rfl⟩
  · refine ct_of (by decide +kernel) rfl rfl (Nat.le_of_ble_eq_true rfl) ?_
    show Ev mX3_outcome 12 0 [some (qR 11 0), some (qI (nI t))] [] 132 (q_put h 11 (oR th sf asd sts snp txt rdd (nI (aC A)) (nI (aN A)) (nI (aL A)) pt iw rm)) 0 0 _ _
    refine e_aload0 dX3_outcome_0 ?_
    refine e_iconst (z := 0) dX3_outcome_1 ?_
    refine e_putfieldF flX3_28 dX3_outcome_2 rfl (Nat.le_of_ble_eq_true rfl) (fun _ => rfl) (fun _ => rfl) ?_
    refine e_aload0 dX3_outcome_5 ?_
    refine e_iload1 dX3_outcome_6 ?_
    refine e_vIF (M' := mX3_isTransfer) fX3_isTransfer lkX3_123 (r_isTransfer h (nI 0) sf asd sts snp txt rdd (nI (aC A)) (nI (aN A)) (nI (aL A)) pt iw rm (aX A) hR hT61 (nI t)) rfl rfl dX3_outcome_7 rfl rfl (by decide) (Nat.le_of_ble_eq_true rfl) rfl ?_
    rintro _ _ ⟨rfl, rfl⟩
    rw [i_in_nI c0 hT31]
    refine e_if_eqN 22 dX3_outcome_10 (by decide) (by first | omega | decide) (fun q => absurd q (by decide)) (fun hc10 => ?_)
    refine e_aload0 dX3_outcome_13 ?_
    refine e_iload1 dX3_outcome_14 ?_
    refine e_iconst (z := 5) dX3_outcome_15 ?_
    refine e_vIF (M' := mX3_of) fX3_of lkX3_39 (r_of5 h (nI 0) sf asd sts snp txt rdd (nI (aC A)) (nI (aN A)) (nI (aL A)) pt iw rm (aX A) hR (t := t) (Nat.lt_of_lt_of_le c0 hW.1)) rfl rfl dX3_outcome_16 rfl rfl (by decide) (Nat.le_of_ble_eq_true rfl) rfl ?_
    rintro _ _ ⟨rfl, rfl⟩
    refine e_goto 27 dX3_outcome_19 (by decide) ?_
    refine e_iret dX3_outcome_27 rfl ?_
    exact ⟨_, rfl, rfl, _, ⟨sf, asd, sts, snp, txt, rdd, pt, iw, rm, rfl, hR, hS2, hY, hT⟩, fun _ => rfl, rfl⟩
set_option maxRecDepth 20000 in
set_option maxHeartbeats 4000000 in
theorem p_saidYes (h : qB) {n : Nat} {A : qA} (hG : GA n A) {F : List qE} (hB : RB A F) {x : Int32} {code : Nat} {v : Int32} {A2 : qA} (hS : S_saidYes A x code v A2) : CtI mX3_saidYes 12 [qR 11 0, qI x] (q_put h 11 F) (fun r h2 => ∃ F', RBt A2 F' (nI code) ∧ (code = 0 → r = v) ∧ h2 = q_put h 11 F') := by
  obtain ⟨th, sf, asd, sts, snp, txt, rdd, pt, iw, rm, rfl, hR, hS2, hY, hT⟩ := hB
  have hJ := hG.1.1
  have hW := wk_J hJ
  have hT61 : (aX A).1 0 0 < 61 := Nat.lt_of_le_of_lt hW.1 (by decide)
  have hW61 : (aX A).1 0 4 < 61 := Nat.lt_of_le_of_lt hW.2.1 (by decide)
  have hT31 : (aX A).1 0 0 < 2 ^ 31 := Nat.lt_of_lt_of_le hT61 (by decide)
  have hW31 : (aX A).1 0 4 < 2 ^ 31 := Nat.lt_of_lt_of_le hW61 (by decide)
  rcases hS with ⟨c0, rfl, rfl⟩ | ⟨t, c0, rfl, rfl, rfl, rfl⟩
  · refine ct_of (by decide +kernel) rfl rfl (Nat.le_of_ble_eq_true rfl) ?_
    show Ev mX3_saidYes 12 0 [some (qR 11 0), some (qI (x))] [] 132 (q_put h 11 (oR th sf asd sts snp txt rdd (nI (aC A)) (nI (aN A)) (nI (aL A)) pt iw rm)) 0 0 _ _
    refine e_aload0 dX3_saidYes_0 ?_
    refine e_iconst (z := 0) dX3_saidYes_1 ?_
    refine e_putfieldF flX3_28 dX3_saidYes_2 rfl (Nat.le_of_ble_eq_true rfl) (fun _ => rfl) (fun _ => rfl) ?_
    refine e_aload0 dX3_saidYes_5 ?_
    refine e_iload1 dX3_saidYes_6 ?_
    refine e_vIF (M' := mX3_isTransfer) fX3_isTransfer lkX3_123 (r_isTransfer h (nI 0) sf asd sts snp txt rdd (nI (aC A)) (nI (aN A)) (nI (aL A)) pt iw rm (aX A) hR hT61 (x)) rfl rfl dX3_saidYes_7 rfl rfl (by decide) (Nat.le_of_ble_eq_true rfl) rfl ?_
    rintro _ _ ⟨rfl, rfl⟩
    rw [c0]
    refine e_if_eqN 22 dX3_saidYes_10 (by decide) (by first | omega | decide) (fun hc10 => ?_) (fun q => absurd rfl q)
    refine e_aload0 dX3_saidYes_22 ?_
    refine e_iconst (z := 1) dX3_saidYes_23 ?_
    refine e_vIF (M' := mX3_fails) fX3_fails lkX3_106 (r_fails h (nI 0) sf asd sts snp txt rdd (nI (aC A)) (nI (aN A)) (nI (aL A)) pt iw rm (x := nI 1)) rfl rfl dX3_saidYes_24 rfl rfl (by decide) (Nat.le_of_ble_eq_true rfl) rfl ?_
    rintro _ _ ⟨rfl, rfl⟩
    refine e_iret dX3_saidYes_27 rfl ?_
    exact ⟨_, rfl, rfl, _, ⟨sf, asd, sts, snp, txt, rdd, pt, iw, rm, rfl, hR, hS2, hY, hT⟩, fun q => absurd q (by decide), rfl⟩
  · refine ct_of (by decide +kernel) rfl rfl (Nat.le_of_ble_eq_true rfl) ?_
    show Ev mX3_saidYes 12 0 [some (qR 11 0), some (qI (nI t))] [] 132 (q_put h 11 (oR th sf asd sts snp txt rdd (nI (aC A)) (nI (aN A)) (nI (aL A)) pt iw rm)) 0 0 _ _
    refine e_aload0 dX3_saidYes_0 ?_
    refine e_iconst (z := 0) dX3_saidYes_1 ?_
    refine e_putfieldF flX3_28 dX3_saidYes_2 rfl (Nat.le_of_ble_eq_true rfl) (fun _ => rfl) (fun _ => rfl) ?_
    refine e_aload0 dX3_saidYes_5 ?_
    refine e_iload1 dX3_saidYes_6 ?_
    refine e_vIF (M' := mX3_isTransfer) fX3_isTransfer lkX3_123 (r_isTransfer h (nI 0) sf asd sts snp txt rdd (nI (aC A)) (nI (aN A)) (nI (aL A)) pt iw rm (aX A) hR hT61 (nI t)) rfl rfl dX3_saidYes_7 rfl rfl (by decide) (Nat.le_of_ble_eq_true rfl) rfl ?_
    rintro _ _ ⟨rfl, rfl⟩
    rw [i_in_nI c0 hT31]
    refine e_if_eqN 22 dX3_saidYes_10 (by decide) (by first | omega | decide) (fun q => absurd q (by decide)) (fun hc10 => ?_)
    refine e_aload0 dX3_saidYes_13 ?_
    refine e_iload1 dX3_saidYes_14 ?_
    refine e_iconst (z := 3) dX3_saidYes_15 ?_
    refine e_vIF (M' := mX3_of) fX3_of lkX3_39 (r_of3 h (nI 0) sf asd sts snp txt rdd (nI (aC A)) (nI (aN A)) (nI (aL A)) pt iw rm (aX A) hR (t := t) (Nat.lt_of_lt_of_le c0 hW.1)) rfl rfl dX3_saidYes_16 rfl rfl (by decide) (Nat.le_of_ble_eq_true rfl) rfl ?_
    rintro _ _ ⟨rfl, rfl⟩
    refine e_goto 27 dX3_saidYes_19 (by decide) ?_
    refine e_iret dX3_saidYes_27 rfl ?_
    exact ⟨_, rfl, rfl, _, ⟨sf, asd, sts, snp, txt, rdd, pt, iw, rm, rfl, hR, hS2, hY, hT⟩, fun _ => rfl, rfl⟩
set_option maxRecDepth 20000 in
set_option maxHeartbeats 4000000 in
theorem p_saidDone (h : qB) {n : Nat} {A : qA} (hG : GA n A) {F : List qE} (hB : RB A F) {x : Int32} {code : Nat} {v : Int32} {A2 : qA} (hS : S_saidDone A x code v A2) : CtI mX3_saidDone 12 [qR 11 0, qI x] (q_put h 11 F) (fun r h2 => ∃ F', RBt A2 F' (nI code) ∧ (code = 0 → r = v) ∧ h2 = q_put h 11 F') := by
  obtain ⟨th, sf, asd, sts, snp, txt, rdd, pt, iw, rm, rfl, hR, hS2, hY, hT⟩ := hB
  have hJ := hG.1.1
  have hW := wk_J hJ
  have hT61 : (aX A).1 0 0 < 61 := Nat.lt_of_le_of_lt hW.1 (by decide)
  have hW61 : (aX A).1 0 4 < 61 := Nat.lt_of_le_of_lt hW.2.1 (by decide)
  have hT31 : (aX A).1 0 0 < 2 ^ 31 := Nat.lt_of_lt_of_le hT61 (by decide)
  have hW31 : (aX A).1 0 4 < 2 ^ 31 := Nat.lt_of_lt_of_le hW61 (by decide)
  rcases hS with ⟨c0, rfl, rfl⟩ | ⟨t, c0, rfl, rfl, rfl, rfl⟩
  · refine ct_of (by decide +kernel) rfl rfl (Nat.le_of_ble_eq_true rfl) ?_
    show Ev mX3_saidDone 12 0 [some (qR 11 0), some (qI (x))] [] 132 (q_put h 11 (oR th sf asd sts snp txt rdd (nI (aC A)) (nI (aN A)) (nI (aL A)) pt iw rm)) 0 0 _ _
    refine e_aload0 dX3_saidDone_0 ?_
    refine e_iconst (z := 0) dX3_saidDone_1 ?_
    refine e_putfieldF flX3_28 dX3_saidDone_2 rfl (Nat.le_of_ble_eq_true rfl) (fun _ => rfl) (fun _ => rfl) ?_
    refine e_aload0 dX3_saidDone_5 ?_
    refine e_iload1 dX3_saidDone_6 ?_
    refine e_vIF (M' := mX3_isTransfer) fX3_isTransfer lkX3_123 (r_isTransfer h (nI 0) sf asd sts snp txt rdd (nI (aC A)) (nI (aN A)) (nI (aL A)) pt iw rm (aX A) hR hT61 (x)) rfl rfl dX3_saidDone_7 rfl rfl (by decide) (Nat.le_of_ble_eq_true rfl) rfl ?_
    rintro _ _ ⟨rfl, rfl⟩
    rw [c0]
    refine e_if_eqN 22 dX3_saidDone_10 (by decide) (by first | omega | decide) (fun hc10 => ?_) (fun q => absurd rfl q)
    refine e_aload0 dX3_saidDone_22 ?_
    refine e_iconst (z := 1) dX3_saidDone_23 ?_
    refine e_vIF (M' := mX3_fails) fX3_fails lkX3_106 (r_fails h (nI 0) sf asd sts snp txt rdd (nI (aC A)) (nI (aN A)) (nI (aL A)) pt iw rm (x := nI 1)) rfl rfl dX3_saidDone_24 rfl rfl (by decide) (Nat.le_of_ble_eq_true rfl) rfl ?_
    rintro _ _ ⟨rfl, rfl⟩
    refine e_iret dX3_saidDone_27 rfl ?_
    exact ⟨_, rfl, rfl, _, ⟨sf, asd, sts, snp, txt, rdd, pt, iw, rm, rfl, hR, hS2, hY, hT⟩, fun q => absurd q (by decide), rfl⟩
  · refine ct_of (by decide +kernel) rfl rfl (Nat.le_of_ble_eq_true rfl) ?_
    show Ev mX3_saidDone 12 0 [some (qR 11 0), some (qI (nI t))] [] 132 (q_put h 11 (oR th sf asd sts snp txt rdd (nI (aC A)) (nI (aN A)) (nI (aL A)) pt iw rm)) 0 0 _ _
    refine e_aload0 dX3_saidDone_0 ?_
    refine e_iconst (z := 0) dX3_saidDone_1 ?_
    refine e_putfieldF flX3_28 dX3_saidDone_2 rfl (Nat.le_of_ble_eq_true rfl) (fun _ => rfl) (fun _ => rfl) ?_
    refine e_aload0 dX3_saidDone_5 ?_
    refine e_iload1 dX3_saidDone_6 ?_
    refine e_vIF (M' := mX3_isTransfer) fX3_isTransfer lkX3_123 (r_isTransfer h (nI 0) sf asd sts snp txt rdd (nI (aC A)) (nI (aN A)) (nI (aL A)) pt iw rm (aX A) hR hT61 (nI t)) rfl rfl dX3_saidDone_7 rfl rfl (by decide) (Nat.le_of_ble_eq_true rfl) rfl ?_
    rintro _ _ ⟨rfl, rfl⟩
    rw [i_in_nI c0 hT31]
    refine e_if_eqN 22 dX3_saidDone_10 (by decide) (by first | omega | decide) (fun q => absurd q (by decide)) (fun hc10 => ?_)
    refine e_aload0 dX3_saidDone_13 ?_
    refine e_iload1 dX3_saidDone_14 ?_
    refine e_iconst (z := 4) dX3_saidDone_15 ?_
    refine e_vIF (M' := mX3_of) fX3_of lkX3_39 (r_of4 h (nI 0) sf asd sts snp txt rdd (nI (aC A)) (nI (aN A)) (nI (aL A)) pt iw rm (aX A) hR (t := t) (Nat.lt_of_lt_of_le c0 hW.1)) rfl rfl dX3_saidDone_16 rfl rfl (by decide) (Nat.le_of_ble_eq_true rfl) rfl ?_
    rintro _ _ ⟨rfl, rfl⟩
    refine e_goto 27 dX3_saidDone_19 (by decide) ?_
    refine e_iret dX3_saidDone_27 rfl ?_
    exact ⟨_, rfl, rfl, _, ⟨sf, asd, sts, snp, txt, rdd, pt, iw, rm, rfl, hR, hS2, hY, hT⟩, fun _ => rfl, rfl⟩
set_option maxRecDepth 20000 in
set_option maxHeartbeats 4000000 in
theorem p_outcomeByStores (h : qB) {n : Nat} {A : qA} (hG : GA n A) {F : List qE} (hB : RB A F) {x : Int32} {code : Nat} {v : Int32} {A2 : qA} (hS : S_outcomeByStores A x code v A2) : CtI mX3_outcomeByStores 12 [qR 11 0, qI x] (q_put h 11 F) (fun r h2 => ∃ F', RBt A2 F' (nI code) ∧ (code = 0 → r = v) ∧ h2 = q_put h 11 F') := by
  obtain ⟨th, sf, asd, sts, snp, txt, rdd, pt, iw, rm, rfl, hR, hS2, hY, hT⟩ := hB
  have hJ := hG.1.1
  have hW := wk_J hJ
  have hT61 : (aX A).1 0 0 < 61 := Nat.lt_of_le_of_lt hW.1 (by decide)
  have hW61 : (aX A).1 0 4 < 61 := Nat.lt_of_le_of_lt hW.2.1 (by decide)
  have hT31 : (aX A).1 0 0 < 2 ^ 31 := Nat.lt_of_lt_of_le hT61 (by decide)
  have hW31 : (aX A).1 0 4 < 2 ^ 31 := Nat.lt_of_lt_of_le hW61 (by decide)
  rcases hS with ⟨c0, rfl, rfl⟩ | ⟨t, c0, rfl, rfl, rfl, rfl⟩
  · refine ct_of (by decide +kernel) rfl rfl (Nat.le_of_ble_eq_true rfl) ?_
    show Ev mX3_outcomeByStores 12 0 [some (qR 11 0), some (qI (x))] [] 132 (q_put h 11 (oR th sf asd sts snp txt rdd (nI (aC A)) (nI (aN A)) (nI (aL A)) pt iw rm)) 0 0 _ _
    refine e_aload0 dX3_outcomeByStores_0 ?_
    refine e_iconst (z := 0) dX3_outcomeByStores_1 ?_
    refine e_putfieldF flX3_28 dX3_outcomeByStores_2 rfl (Nat.le_of_ble_eq_true rfl) (fun _ => rfl) (fun _ => rfl) ?_
    refine e_aload0 dX3_outcomeByStores_5 ?_
    refine e_iload1 dX3_outcomeByStores_6 ?_
    refine e_vIF (M' := mX3_isTransfer) fX3_isTransfer lkX3_123 (r_isTransfer h (nI 0) sf asd sts snp txt rdd (nI (aC A)) (nI (aN A)) (nI (aL A)) pt iw rm (aX A) hR hT61 (x)) rfl rfl dX3_outcomeByStores_7 rfl rfl (by decide) (Nat.le_of_ble_eq_true rfl) rfl ?_
    rintro _ _ ⟨rfl, rfl⟩
    rw [c0]
    refine e_if_eqN 21 dX3_outcomeByStores_10 (by decide) (by first | omega | decide) (fun hc10 => ?_) (fun q => absurd rfl q)
    refine e_aload0 dX3_outcomeByStores_21 ?_
    refine e_iconst (z := 1) dX3_outcomeByStores_22 ?_
    refine e_vIF (M' := mX3_fails) fX3_fails lkX3_106 (r_fails h (nI 0) sf asd sts snp txt rdd (nI (aC A)) (nI (aN A)) (nI (aL A)) pt iw rm (x := nI 1)) rfl rfl dX3_outcomeByStores_23 rfl rfl (by decide) (Nat.le_of_ble_eq_true rfl) rfl ?_
    rintro _ _ ⟨rfl, rfl⟩
    refine e_iret dX3_outcomeByStores_26 rfl ?_
    exact ⟨_, rfl, rfl, _, ⟨sf, asd, sts, snp, txt, rdd, pt, iw, rm, rfl, hR, hS2, hY, hT⟩, fun q => absurd q (by decide), rfl⟩
  · refine ct_of (by decide +kernel) rfl rfl (Nat.le_of_ble_eq_true rfl) ?_
    show Ev mX3_outcomeByStores 12 0 [some (qR 11 0), some (qI (nI t))] [] 132 (q_put h 11 (oR th sf asd sts snp txt rdd (nI (aC A)) (nI (aN A)) (nI (aL A)) pt iw rm)) 0 0 _ _
    refine e_aload0 dX3_outcomeByStores_0 ?_
    refine e_iconst (z := 0) dX3_outcomeByStores_1 ?_
    refine e_putfieldF flX3_28 dX3_outcomeByStores_2 rfl (Nat.le_of_ble_eq_true rfl) (fun _ => rfl) (fun _ => rfl) ?_
    refine e_aload0 dX3_outcomeByStores_5 ?_
    refine e_iload1 dX3_outcomeByStores_6 ?_
    refine e_vIF (M' := mX3_isTransfer) fX3_isTransfer lkX3_123 (r_isTransfer h (nI 0) sf asd sts snp txt rdd (nI (aC A)) (nI (aN A)) (nI (aL A)) pt iw rm (aX A) hR hT61 (nI t)) rfl rfl dX3_outcomeByStores_7 rfl rfl (by decide) (Nat.le_of_ble_eq_true rfl) rfl ?_
    rintro _ _ ⟨rfl, rfl⟩
    rw [i_in_nI c0 hT31]
    refine e_if_eqN 21 dX3_outcomeByStores_10 (by decide) (by first | omega | decide) (fun q => absurd q (by decide)) (fun hc10 => ?_)
    refine e_aload0 dX3_outcomeByStores_13 ?_
    refine e_iload1 dX3_outcomeByStores_14 ?_
    refine e_vIF (M' := mX3_outcomeOf) fX3_outcomeOf lkX3_202 (r_outcomeOf h (nI 0) sf asd sts snp txt rdd (nI (aC A)) (nI (aN A)) (nI (aL A)) pt iw rm (aX A) hR hJ (t := t) (Nat.lt_of_lt_of_le c0 hW.1)) rfl rfl dX3_outcomeByStores_15 rfl rfl (by decide) (Nat.le_of_ble_eq_true rfl) rfl ?_
    rintro _ _ ⟨rfl, rfl⟩
    refine e_goto 26 dX3_outcomeByStores_18 (by decide) ?_
    refine e_iret dX3_outcomeByStores_26 rfl ?_
    exact ⟨_, rfl, rfl, _, ⟨sf, asd, sts, snp, txt, rdd, pt, iw, rm, rfl, hR, hS2, hY, hT⟩, fun _ => rfl, rfl⟩
set_option maxRecDepth 20000 in
set_option maxHeartbeats 4000000 in
theorem p_hasEnded (h : qB) {n : Nat} {A : qA} (hG : GA n A) {F : List qE} (hB : RB A F) {x : Int32} {code : Nat} {v : Int32} {A2 : qA} (hS : S_hasEnded A x code v A2) : CtI mX3_hasEnded 12 [qR 11 0, qI x] (q_put h 11 F) (fun r h2 => ∃ F', RBt A2 F' (nI code) ∧ (code = 0 → r = v) ∧ h2 = q_put h 11 F') := by
  obtain ⟨th, sf, asd, sts, snp, txt, rdd, pt, iw, rm, rfl, hR, hS2, hY, hT⟩ := hB
  have hJ := hG.1.1
  have hW := wk_J hJ
  have hT61 : (aX A).1 0 0 < 61 := Nat.lt_of_le_of_lt hW.1 (by decide)
  have hW61 : (aX A).1 0 4 < 61 := Nat.lt_of_le_of_lt hW.2.1 (by decide)
  have hT31 : (aX A).1 0 0 < 2 ^ 31 := Nat.lt_of_lt_of_le hT61 (by decide)
  have hW31 : (aX A).1 0 4 < 2 ^ 31 := Nat.lt_of_lt_of_le hW61 (by decide)
  rcases hS with ⟨c0, rfl, rfl⟩ | ⟨t, c0, rfl, rfl, rfl, rfl⟩
  · refine ct_of (by decide +kernel) rfl rfl (Nat.le_of_ble_eq_true rfl) ?_
    show Ev mX3_hasEnded 12 0 [some (qR 11 0), some (qI (x))] [] 132 (q_put h 11 (oR th sf asd sts snp txt rdd (nI (aC A)) (nI (aN A)) (nI (aL A)) pt iw rm)) 0 0 _ _
    refine e_aload0 dX3_hasEnded_0 ?_
    refine e_iconst (z := 0) dX3_hasEnded_1 ?_
    refine e_putfieldF flX3_28 dX3_hasEnded_2 rfl (Nat.le_of_ble_eq_true rfl) (fun _ => rfl) (fun _ => rfl) ?_
    refine e_aload0 dX3_hasEnded_5 ?_
    refine e_iload1 dX3_hasEnded_6 ?_
    refine e_vIF (M' := mX3_isTransfer) fX3_isTransfer lkX3_123 (r_isTransfer h (nI 0) sf asd sts snp txt rdd (nI (aC A)) (nI (aN A)) (nI (aL A)) pt iw rm (aX A) hR hT61 (x)) rfl rfl dX3_hasEnded_7 rfl rfl (by decide) (Nat.le_of_ble_eq_true rfl) rfl ?_
    rintro _ _ ⟨rfl, rfl⟩
    rw [c0]
    refine e_if_eqN 32 dX3_hasEnded_10 (by decide) (by first | omega | decide) (fun hc10 => ?_) (fun q => absurd rfl q)
    refine e_aload0 dX3_hasEnded_32 ?_
    refine e_iconst (z := 1) dX3_hasEnded_33 ?_
    refine e_vIF (M' := mX3_fails) fX3_fails lkX3_106 (r_fails h (nI 0) sf asd sts snp txt rdd (nI (aC A)) (nI (aN A)) (nI (aL A)) pt iw rm (x := nI 1)) rfl rfl dX3_hasEnded_34 rfl rfl (by decide) (Nat.le_of_ble_eq_true rfl) rfl ?_
    rintro _ _ ⟨rfl, rfl⟩
    refine e_if_le 44 dX3_hasEnded_37 (by decide) (fun _ => ?_) (fun q => absurd (by decide) q)
    refine e_iconst (z := 0) dX3_hasEnded_44 ?_
    refine e_zret dX3_hasEnded_45 rfl (by first | rfl | exact q_nar _) ?_
    exact ⟨_, rfl, rfl, _, ⟨sf, asd, sts, snp, txt, rdd, pt, iw, rm, rfl, hR, hS2, hY, hT⟩, fun q => absurd q (by decide), rfl⟩
  · refine ct_of (by decide +kernel) rfl rfl (Nat.le_of_ble_eq_true rfl) ?_
    show Ev mX3_hasEnded 12 0 [some (qR 11 0), some (qI (nI t))] [] 132 (q_put h 11 (oR th sf asd sts snp txt rdd (nI (aC A)) (nI (aN A)) (nI (aL A)) pt iw rm)) 0 0 _ _
    refine e_aload0 dX3_hasEnded_0 ?_
    refine e_iconst (z := 0) dX3_hasEnded_1 ?_
    refine e_putfieldF flX3_28 dX3_hasEnded_2 rfl (Nat.le_of_ble_eq_true rfl) (fun _ => rfl) (fun _ => rfl) ?_
    refine e_aload0 dX3_hasEnded_5 ?_
    refine e_iload1 dX3_hasEnded_6 ?_
    refine e_vIF (M' := mX3_isTransfer) fX3_isTransfer lkX3_123 (r_isTransfer h (nI 0) sf asd sts snp txt rdd (nI (aC A)) (nI (aN A)) (nI (aL A)) pt iw rm (aX A) hR hT61 (nI t)) rfl rfl dX3_hasEnded_7 rfl rfl (by decide) (Nat.le_of_ble_eq_true rfl) rfl ?_
    rintro _ _ ⟨rfl, rfl⟩
    rw [i_in_nI c0 hT31]
    refine e_if_eqN 32 dX3_hasEnded_10 (by decide) (by first | omega | decide) (fun q => absurd q (by decide)) (fun hc10 => ?_)
    refine e_aload0 dX3_hasEnded_13 ?_
    refine e_iload1 dX3_hasEnded_14 ?_
    refine e_bipush (v := nI 6) dX3_hasEnded_15 (by decide) ?_
    refine e_vIF (M' := mX3_of) fX3_of lkX3_39 (r_of6 h (nI 0) sf asd sts snp txt rdd (nI (aC A)) (nI (aN A)) (nI (aL A)) pt iw rm (aX A) hR (t := t) (Nat.lt_of_lt_of_le c0 hW.1)) rfl rfl dX3_hasEnded_17 rfl rfl (by decide) (Nat.le_of_ble_eq_true rfl) rfl ?_
    rintro _ _ ⟨rfl, rfl⟩
    have h81 := (iV4 hJ.1 t (Nat.lt_of_lt_of_le c0 hW.1)).2.2.2.2.2.2
    refine e_iconst (z := 1) dX3_hasEnded_20 ?_
    first | refine e_icmp_neN 28 dX3_hasEnded_21 (by decide) (by omega) (by omega) (fun hc21 => ?_) (fun hc21 => ?_) | refine e_icmp_ne 28 dX3_hasEnded_21 (by decide) (fun hc21 => ?_) (fun hc21 => ?_)
    · refine e_iconst (z := 0) dX3_hasEnded_28 ?_
      refine e_goto 45 dX3_hasEnded_29 (by decide) ?_
      refine e_zret dX3_hasEnded_45 rfl (by first | rfl | exact q_nar _) ?_
      first
        | exact ⟨_, rfl, rfl, _, ⟨sf, asd, sts, snp, txt, rdd, pt, iw, rm, rfl, hR, hS2, hY, hT⟩, fun _ => by rw [decide_eq_true hc21]; rfl, rfl⟩
        | exact ⟨_, rfl, rfl, _, ⟨sf, asd, sts, snp, txt, rdd, pt, iw, rm, rfl, hR, hS2, hY, hT⟩, fun _ => by rw [decide_eq_false hc21]; rfl, rfl⟩
    · refine e_iconst (z := 1) dX3_hasEnded_24 ?_
      refine e_goto 45 dX3_hasEnded_25 (by decide) ?_
      refine e_zret dX3_hasEnded_45 rfl (by first | rfl | exact q_nar _) ?_
      first
        | exact ⟨_, rfl, rfl, _, ⟨sf, asd, sts, snp, txt, rdd, pt, iw, rm, rfl, hR, hS2, hY, hT⟩, fun _ => by rw [decide_eq_true hc21]; rfl, rfl⟩
        | exact ⟨_, rfl, rfl, _, ⟨sf, asd, sts, snp, txt, rdd, pt, iw, rm, rfl, hR, hS2, hY, hT⟩, fun _ => by rw [decide_eq_false hc21]; rfl, rfl⟩
set_option maxRecDepth 20000 in
set_option maxHeartbeats 4000000 in
theorem p_total (h : qB) {n : Nat} {A : qA} (hG : GA n A) {F : List qE} (hB : RB A F) {code : Nat} {v : Int32} {A2 : qA} (hS : S_total A code v A2) : CtI mX3_total 12 [qR 11 0] (q_put h 11 F) (fun r h2 => ∃ F', RBt A2 F' (nI code) ∧ (code = 0 → r = v) ∧ h2 = q_put h 11 F') := by
  obtain ⟨th, sf, asd, sts, snp, txt, rdd, pt, iw, rm, rfl, hR, hS2, hY, hT⟩ := hB
  have hJ := hG.1.1
  have hW := wk_J hJ
  have hT61 : (aX A).1 0 0 < 61 := Nat.lt_of_le_of_lt hW.1 (by decide)
  have hW61 : (aX A).1 0 4 < 61 := Nat.lt_of_le_of_lt hW.2.1 (by decide)
  have hT31 : (aX A).1 0 0 < 2 ^ 31 := Nat.lt_of_lt_of_le hT61 (by decide)
  have hW31 : (aX A).1 0 4 < 2 ^ 31 := Nat.lt_of_lt_of_le hW61 (by decide)
  obtain ⟨rfl, rfl, rfl⟩ := hS
  refine ct_of (by decide +kernel) rfl rfl (Nat.le_of_ble_eq_true rfl) ?_
  show Ev mX3_total 12 0 [some (qR 11 0)] [] 132 (q_put h 11 (oR th sf asd sts snp txt rdd (nI (aC A)) (nI (aN A)) (nI (aL A)) pt iw rm)) 0 0 _ _
  refine e_aload0 dX3_total_0 ?_
  refine e_iconst (z := 0) dX3_total_1 ?_
  refine e_putfieldF flX3_28 dX3_total_2 rfl (Nat.le_of_ble_eq_true rfl) (fun _ => rfl) (fun _ => rfl) ?_
  refine e_aload0 dX3_total_5 ?_
  refine e_vIF (M' := mX3_totalOf) fX3_totalOf lkX3_205 (r_totalOf h (nI 0) sf asd sts snp txt rdd (nI (aC A)) (nI (aN A)) (nI (aL A)) pt iw rm (aX A) hR) rfl rfl dX3_total_6 rfl rfl (by decide) (Nat.le_of_ble_eq_true rfl) rfl ?_
  rintro _ _ ⟨rfl, rfl⟩
  refine e_iret dX3_total_9 rfl ?_
  exact ⟨_, rfl, rfl, _, ⟨sf, asd, sts, snp, txt, rdd, pt, iw, rm, rfl, hR, hS2, hY, hT⟩, fun _ => rfl, rfl⟩
set_option maxRecDepth 20000 in
set_option maxHeartbeats 4000000 in
theorem p_onTheWay (h : qB) {n : Nat} {A : qA} (hG : GA n A) {F : List qE} (hB : RB A F) {code : Nat} {v : Int32} {A2 : qA} (hS : S_onTheWay A code v A2) : CtI mX3_onTheWay 12 [qR 11 0] (q_put h 11 F) (fun r h2 => ∃ F', RBt A2 F' (nI code) ∧ (code = 0 → r = v) ∧ h2 = q_put h 11 F') := by
  obtain ⟨th, sf, asd, sts, snp, txt, rdd, pt, iw, rm, rfl, hR, hS2, hY, hT⟩ := hB
  have hJ := hG.1.1
  have hW := wk_J hJ
  have hT61 : (aX A).1 0 0 < 61 := Nat.lt_of_le_of_lt hW.1 (by decide)
  have hW61 : (aX A).1 0 4 < 61 := Nat.lt_of_le_of_lt hW.2.1 (by decide)
  have hT31 : (aX A).1 0 0 < 2 ^ 31 := Nat.lt_of_lt_of_le hT61 (by decide)
  have hW31 : (aX A).1 0 4 < 2 ^ 31 := Nat.lt_of_lt_of_le hW61 (by decide)
  obtain ⟨rfl, rfl, rfl⟩ := hS
  refine ct_of (by decide +kernel) rfl rfl (Nat.le_of_ble_eq_true rfl) ?_
  show Ev mX3_onTheWay 12 0 [some (qR 11 0)] [] 132 (q_put h 11 (oR th sf asd sts snp txt rdd (nI (aC A)) (nI (aN A)) (nI (aL A)) pt iw rm)) 0 0 _ _
  refine e_aload0 dX3_onTheWay_0 ?_
  refine e_iconst (z := 0) dX3_onTheWay_1 ?_
  refine e_putfieldF flX3_28 dX3_onTheWay_2 rfl (Nat.le_of_ble_eq_true rfl) (fun _ => rfl) (fun _ => rfl) ?_
  refine e_aload0 dX3_onTheWay_5 ?_
  refine e_vIF (M' := mX3_away) fX3_away lkX3_208 (r_away h (nI 0) sf asd sts snp txt rdd (nI (aC A)) (nI (aN A)) (nI (aL A)) pt iw rm (aX A) hR hJ) rfl rfl dX3_onTheWay_6 rfl rfl (by decide) (Nat.le_of_ble_eq_true rfl) rfl ?_
  rintro _ _ ⟨rfl, rfl⟩
  refine e_iret dX3_onTheWay_9 rfl ?_
  exact ⟨_, rfl, rfl, _, ⟨sf, asd, sts, snp, txt, rdd, pt, iw, rm, rfl, hR, hS2, hY, hT⟩, fun _ => rfl, rfl⟩
set_option maxRecDepth 20000 in
set_option maxHeartbeats 4000000 in
theorem p_sentByAccount (h : qB) {n : Nat} {A : qA} (hG : GA n A) {F : List qE} (hB : RB A F) {code : Nat} {v : Int32} {A2 : qA} (hS : S_sentByAccount A code v A2) : CtI mX3_sentByAccount 12 [qR 11 0] (q_put h 11 F) (fun r h2 => ∃ F', RBt A2 F' (nI code) ∧ (code = 0 → r = v) ∧ h2 = q_put h 11 F') := by
  obtain ⟨th, sf, asd, sts, snp, txt, rdd, pt, iw, rm, rfl, hR, hS2, hY, hT⟩ := hB
  have hJ := hG.1.1
  have hW := wk_J hJ
  have hT61 : (aX A).1 0 0 < 61 := Nat.lt_of_le_of_lt hW.1 (by decide)
  have hW61 : (aX A).1 0 4 < 61 := Nat.lt_of_le_of_lt hW.2.1 (by decide)
  have hT31 : (aX A).1 0 0 < 2 ^ 31 := Nat.lt_of_lt_of_le hT61 (by decide)
  have hW31 : (aX A).1 0 4 < 2 ^ 31 := Nat.lt_of_lt_of_le hW61 (by decide)
  obtain ⟨rfl, rfl, rfl⟩ := hS
  refine ct_of (by decide +kernel) rfl rfl (Nat.le_of_ble_eq_true rfl) ?_
  show Ev mX3_sentByAccount 12 0 [some (qR 11 0)] [] 132 (q_put h 11 (oR th sf asd sts snp txt rdd (nI (aC A)) (nI (aN A)) (nI (aL A)) pt iw rm)) 0 0 _ _
  refine e_aload0 dX3_sentByAccount_0 ?_
  refine e_iconst (z := 0) dX3_sentByAccount_1 ?_
  refine e_putfieldF flX3_28 dX3_sentByAccount_2 rfl (Nat.le_of_ble_eq_true rfl) (fun _ => rfl) (fun _ => rfl) ?_
  refine e_aload0 dX3_sentByAccount_5 ?_
  refine e_vIF (M' := mX3_sentOf) fX3_sentOf lkX3_214 (r_sentOf h (nI 0) sf asd sts snp txt rdd (nI (aC A)) (nI (aN A)) (nI (aL A)) pt iw rm (aX A) hR) rfl rfl dX3_sentByAccount_6 rfl rfl (by decide) (Nat.le_of_ble_eq_true rfl) rfl ?_
  rintro _ _ ⟨rfl, rfl⟩
  refine e_iret dX3_sentByAccount_9 rfl ?_
  exact ⟨_, rfl, rfl, _, ⟨sf, asd, sts, snp, txt, rdd, pt, iw, rm, rfl, hR, hS2, hY, hT⟩, fun _ => rfl, rfl⟩
set_option maxRecDepth 20000 in
set_option maxHeartbeats 4000000 in
theorem p_records (h : qB) {n : Nat} {A : qA} (hG : GA n A) {F : List qE} (hB : RB A F) {x : Int32} {code : Nat} {v : Int32} {A2 : qA} (hS : S_records A x code v A2) : CtI mX3_records 12 [qR 11 0, qI x] (q_put h 11 F) (fun r h2 => ∃ F', RBt A2 F' (nI code) ∧ (code = 0 → r = v) ∧ h2 = q_put h 11 F') := by
  obtain ⟨th, sf, asd, sts, snp, txt, rdd, pt, iw, rm, rfl, hR, hS2, hY, hT⟩ := hB
  have hJ := hG.1.1
  have hW := wk_J hJ
  have hT61 : (aX A).1 0 0 < 61 := Nat.lt_of_le_of_lt hW.1 (by decide)
  have hW61 : (aX A).1 0 4 < 61 := Nat.lt_of_le_of_lt hW.2.1 (by decide)
  have hT31 : (aX A).1 0 0 < 2 ^ 31 := Nat.lt_of_lt_of_le hT61 (by decide)
  have hW31 : (aX A).1 0 4 < 2 ^ 31 := Nat.lt_of_lt_of_le hW61 (by decide)
  rcases hS with ⟨c0, rfl, rfl⟩ | ⟨k, c0, rfl, rfl, rfl, rfl⟩
  · refine ct_of (by decide +kernel) rfl rfl (Nat.le_of_ble_eq_true rfl) ?_
    show Ev mX3_records 12 0 [some (qR 11 0), some (qI (x))] [] 132 (q_put h 11 (oR th sf asd sts snp txt rdd (nI (aC A)) (nI (aN A)) (nI (aL A)) pt iw rm)) 0 0 _ _
    refine e_aload0 dX3_records_0 ?_
    refine e_iconst (z := 0) dX3_records_1 ?_
    refine e_putfieldF flX3_28 dX3_records_2 rfl (Nat.le_of_ble_eq_true rfl) (fun _ => rfl) (fun _ => rfl) ?_
    refine e_iload1 dX3_records_5 ?_
    refine e_sI (M' := mX3_isSite) fX3_isSite lkX3_146 (r_isSite _ (x)) rfl rfl dX3_records_6 (by decide) (Nat.le_of_ble_eq_true rfl) rfl ?_
    rintro _ _ ⟨rfl, rfl⟩
    rw [c0]
    refine e_if_eqN 24 dX3_records_9 (by decide) (by first | omega | decide) (fun hc9 => ?_) (fun q => absurd rfl q)
    refine e_aload0 dX3_records_24 ?_
    refine e_iconst (z := 1) dX3_records_25 ?_
    refine e_vIF (M' := mX3_fails) fX3_fails lkX3_106 (r_fails h (nI 0) sf asd sts snp txt rdd (nI (aC A)) (nI (aN A)) (nI (aL A)) pt iw rm (x := nI 1)) rfl rfl dX3_records_26 rfl rfl (by decide) (Nat.le_of_ble_eq_true rfl) rfl ?_
    rintro _ _ ⟨rfl, rfl⟩
    refine e_iret dX3_records_29 rfl ?_
    exact ⟨_, rfl, rfl, _, ⟨sf, asd, sts, snp, txt, rdd, pt, iw, rm, rfl, hR, hS2, hY, hT⟩, fun q => absurd q (by decide), rfl⟩
  · refine ct_of (by decide +kernel) rfl rfl (Nat.le_of_ble_eq_true rfl) ?_
    show Ev mX3_records 12 0 [some (qR 11 0), some (qI (nI k))] [] 132 (q_put h 11 (oR th sf asd sts snp txt rdd (nI (aC A)) (nI (aN A)) (nI (aL A)) pt iw rm)) 0 0 _ _
    refine e_aload0 dX3_records_0 ?_
    refine e_iconst (z := 0) dX3_records_1 ?_
    refine e_putfieldF flX3_28 dX3_records_2 rfl (Nat.le_of_ble_eq_true rfl) (fun _ => rfl) (fun _ => rfl) ?_
    refine e_iload1 dX3_records_5 ?_
    refine e_sI (M' := mX3_isSite) fX3_isSite lkX3_146 (r_isSite _ (nI k)) rfl rfl dX3_records_6 (by decide) (Nat.le_of_ble_eq_true rfl) rfl ?_
    rintro _ _ ⟨rfl, rfl⟩
    rw [i_in_nI c0 (by decide)]
    refine e_if_eqN 24 dX3_records_9 (by decide) (by first | omega | decide) (fun q => absurd q (by decide)) (fun hc9 => ?_)
    refine e_aload0 dX3_records_12 ?_
    refine e_getfieldF flX3_7 dX3_records_13 rfl rfl ?_
    refine e_bipush (v := nI 102) dX3_records_16 (by decide) ?_
    refine e_iload1 dX3_records_18 ?_
    first | refine e_iaddN dX3_records_19 ?_ | refine e_iadd dX3_records_19 ?_
    refine e_ialoadN dX3_records_20 rfl (by omega) (by decide) ?_
    refine e_goto 29 dX3_records_21 (by decide) ?_
    refine e_iret dX3_records_29 rfl ?_
    exact ⟨_, rfl, rfl, _, ⟨sf, asd, sts, snp, txt, rdd, pt, iw, rm, rfl, hR, hS2, hY, hT⟩, fun _ => rR9 hR k c0, rfl⟩
