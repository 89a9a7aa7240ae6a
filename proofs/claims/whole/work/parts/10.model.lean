/-! THE MODEL. X.1: numbers by field and place; X.2: the amounts. Fields: 0 (0 how many transfers, 1 sent, 2 handled, 3 lost, 4 waiting), 1 up, 2 from, 3 to, 4 size, 5 yes, 6 done, 7 outcome, 8 ended, 9 states (8*store+t), 10 how many records, 11 records (32*site+place), 12 messages -/
abbrev qm : Type := (Nat → Nat → Nat) × (Nat → Int32)
def xs (X : qm) (f i v : Nat) : qm := (fun f' i' => if f' = f ∧ i' = i then v else X.1 f' i', X.2)
def xa (X : qm) (i : Nat) (v : Int32) : qm := (X.1, fun i' => if i' = i then v else X.2 i')
/-- the stores that take part -/
def m_part (X : qm) (t : Nat) : Nat := X.1 3 t ||| 2 ^ X.1 2 t
def m_bits (m : Nat) : Nat := m % 2 + m / 2 % 2 + m / 4 % 2 + m / 8 % 2
/-- a share by from, to, size -/
def m_sh (f to sz : Nat) (store : Nat) : Int32 := if store = f then -nI sz * nI (m_bits to) else if to / 2 ^ store % 2 = 1 then nI sz else nI 0
def m_share (X : qm) (t store : Nat) : Int32 := m_sh (X.1 2 t) (X.1 3 t) (X.1 4 t) store
def m_mask5 (X : qm) : Nat := X.1 1 0 + 2 * X.1 1 1 + 4 * X.1 1 2 + 8 * X.1 1 3 + 16 * X.1 1 4
def m_mask8 (X : qm) : Nat := X.1 8 0 + 2 * X.1 8 1 + 4 * X.1 8 2 + 8 * X.1 8 3 + 16 * X.1 8 4 + 32 * X.1 8 5 + 64 * X.1 8 6 + 128 * X.1 8 7
/-- the class's world: by field of World and place -/
abbrev qw : Type := Nat → Nat → Int32
def wblk (b : Fin 16) (w : qw) : List qE :=
  [eO 1 [qI (w 0 0), qR b 1, qR b 2, qR b 3, qR b 4, qR b 5, qR b 6, qI (w 7 0), qI (w 8 0), qR b 7, qR b 8, qR b 9, qR b 10, qR b 11, qI (w 14 0), qI (w 15 0), qI (w 16 0), qI (w 17 0)],
   eI 8 (w 1), eI 8 (w 2), eI 32 (w 3), eI 8 (w 4), eI 8 (w 5), eI 8 (w 6), eI 4 (w 9), eI 32 (w 10), eI 120 (w 11), eI 5 (w 12), eI 60 (w 13)]
def ws (w : qw) (k : Nat) (f : Nat → Int32) : qw := fun j => if j = k then f else w j
/-- the class's world tells the model's state -/
def RelC (w : qw) (X : qm) : Prop :=
  w 0 0 = nI (X.1 0 0) ∧ (∀ t, t < 8 → w 1 t = nI (X.1 4 t)) ∧ (∀ t, t < 8 → w 2 t = nI (if t < X.1 0 0 then m_part X t else 0)) ∧ (∀ s t, s < 4 → t < 8 → w 3 (s * 8 + t) = m_share X t s) ∧
  (∀ t, t < 8 → w 4 t = nI (X.1 7 t)) ∧ (∀ t, t < 8 → w 5 t = nI (X.1 5 t)) ∧ (∀ t, t < 8 → w 6 t = nI (X.1 6 t)) ∧ w 7 0 = nI (m_mask8 X) ∧ w 8 0 = nI (m_mask5 X) ∧
  (∀ s, s < 4 → w 9 s = X.2 s) ∧ (∀ s t, s < 4 → t < 8 → w 10 (s * 8 + t) = nI (X.1 9 (8 * s + t))) ∧ (∀ s k, s < 5 → k < X.1 10 s → w 11 (s * 24 + k) = nI (X.1 11 (32 * s + k))) ∧
  (∀ s, s < 5 → w 12 s = nI (X.1 10 s)) ∧ (∀ k, k < X.1 0 4 → w 13 k = nI (X.1 12 k)) ∧ w 14 0 = nI (X.1 0 4) ∧ w 15 0 = nI (X.1 0 1) ∧ w 16 0 = nI (X.1 0 2) ∧ w 17 0 = nI (X.1 0 3)
/-- what always holds of a state -/
def Inv (X : qm) : Prop :=
  X.1 0 0 ≤ 8 ∧ X.1 0 4 ≤ 60 ∧ (∀ k, k < 5 → X.1 1 k ≤ 1) ∧ (∀ t, t < 8 → X.1 2 t < 4 ∧ X.1 3 t < 16 ∧ X.1 4 t ≤ 50 ∧ X.1 5 t < 16 ∧ X.1 6 t < 16 ∧ X.1 7 t ≤ 2 ∧ X.1 8 t ≤ 1) ∧
  (∀ t, X.1 0 0 ≤ t → t < 8 → X.1 2 t = 0 ∧ X.1 3 t = 0 ∧ X.1 4 t = 0 ∧ X.1 5 t = 0 ∧ X.1 6 t = 0 ∧ X.1 7 t = 0 ∧ X.1 8 t = 0) ∧
  (∀ s t, s < 4 → t < 8 → X.1 9 (8 * s + t) ≤ 3 ∧ (X.1 0 0 ≤ t → X.1 9 (8 * s + t) = 0)) ∧
  (∀ s, s < 4 → X.1 10 s ≤ 16) ∧ X.1 10 4 ≤ 24 ∧ (∀ s k, s < 5 → k < X.1 10 s → X.1 11 (32 * s + k) < 40 ∧ X.1 11 (32 * s + k) % 8 < X.1 0 0) ∧
  (∀ k, k < X.1 0 4 → X.1 12 k < 224 ∧ X.1 12 k / 4 % 8 < X.1 0 0)
theorem m_up_bit : ∀ m, m < 32 → ∀ k, k < 5 → (nI m >>> (nI k &&& 31)) &&& nI 1 = nI (m / 2 ^ k % 2) := by decide +kernel
theorem m_end_bit : ∀ m, m < 256 → ∀ k, k < 8 → (nI m >>> (nI k &&& 31)) &&& nI 1 = nI (m / 2 ^ k % 2) := by decide +kernel
theorem m_mask5_lt {X : qm} (I : Inv X) : m_mask5 X < 32 ∧ ∀ k, k < 5 → m_mask5 X / 2 ^ k % 2 = X.1 1 k := by
  obtain ⟨-, -, i3, -⟩ := I
  have h0 := i3 0 (by decide); have h1 := i3 1 (by decide); have h2 := i3 2 (by decide); have h3 := i3 3 (by decide); have h4 := i3 4 (by decide)
  refine ⟨by unfold m_mask5; omega, fun k hk => ?_⟩
  unfold m_mask5
  rcases (show k = 0 ∨ k = 1 ∨ k = 2 ∨ k = 3 ∨ k = 4 by omega) with rfl | rfl | rfl | rfl | rfl <;> norm_num <;> omega
set_option maxRecDepth 20000 in
set_option maxHeartbeats 4000000 in
theorem w_stands (h : qB) (b : Fin 16) (w : qw) (X : qm) (hR : RelC w X) (I : Inv X) {k : Nat} (hk : k < 5) : CtI mX1_stands 0 [qR b 0, qI (nI k)] (q_put h b (wblk b w)) (fun x h2 => x = q_b (decide (X.1 1 k = 1)) ∧ h2 = q_put h b (wblk b w)) := by
  obtain ⟨c0, c1, c2, c3, c4, c5, c6, c7, c8, c9, c10, c11, c12, c13, c14, c15, c16, c17⟩ := id hR
  refine ct_of (by decide +kernel) rfl rfl (Nat.le_of_ble_eq_true rfl) ?_
  show Ev mX1_stands 0 0 [some (qR b 0), some (qI (nI k))] [] 132 (q_put h b (wblk b w)) 0 0 _ _
  refine e_aload0 dX1_stands_0 ?_
  refine e_getfieldF flX1_45 dX1_stands_1 rfl rfl ?_
  refine e_iload1 dX1_stands_4 ?_
  refine e_ishr dX1_stands_5 ?_
  refine e_iconst dX1_stands_6 ?_
  refine e_iand dX1_stands_7 ?_
  refine e_iconst dX1_stands_8 ?_
  rw [c8, m_up_bit _ (m_mask5_lt I).1 _ hk, (m_mask5_lt I).2 _ hk]
  have hu := I.2.2.1 _ hk
  first | refine e_icmp_neN 16 dX1_stands_9 (by decide) (by omega) (by omega) (fun hc9 => ?_) (fun hc9 => ?_) | refine e_icmp_ne 16 dX1_stands_9 (by decide) (fun hc9 => ?_) (fun hc9 => ?_)
  · refine e_iconst dX1_stands_16 ?_
    refine e_zret dX1_stands_17 rfl (by first | rfl | exact q_nar _) ?_
    exact ⟨_, rfl, rfl, by simp [q_b, hc9], rfl⟩
  · refine e_iconst dX1_stands_12 ?_
    refine e_goto 17 dX1_stands_13 (by decide) ?_
    refine e_zret dX1_stands_17 rfl (by first | rfl | exact q_nar _) ?_
    exact ⟨_, rfl, rfl, by simp [q_b, hc9], rfl⟩
set_option maxRecDepth 20000 in
set_option maxHeartbeats 4000000 in
theorem w_shareOf (h : qB) (b : Fin 16) (w : qw) (X : qm) (hR : RelC w X) (I : Inv X) {t s : Nat} (ht : t < 8) (hs : s < 4) : CtI mX1_shareOf 0 [qR b 0, qI (nI t), qI (nI s)] (q_put h b (wblk b w)) (fun x h2 => x = m_share X t s ∧ h2 = q_put h b (wblk b w)) := by
  obtain ⟨c0, c1, c2, c3, c4, c5, c6, c7, c8, c9, c10, c11, c12, c13, c14, c15, c16, c17⟩ := id hR
  refine ct_of (by decide +kernel) rfl rfl (Nat.le_of_ble_eq_true rfl) ?_
  show Ev mX1_shareOf 0 0 [some (qR b 0), some (qI (nI t)), some (qI (nI s))] [] 132 (q_put h b (wblk b w)) 0 0 _ _
  refine e_aload0 dX1_shareOf_0 ?_
  refine e_getfieldF flX1_18 dX1_shareOf_1 rfl rfl ?_
  refine e_iload2 dX1_shareOf_4 ?_
  refine e_bipush (v := nI 8) dX1_shareOf_5 (by decide) ?_
  first | refine e_imulN dX1_shareOf_7 ?_ | refine e_imul dX1_shareOf_7 ?_
  refine e_iload1 dX1_shareOf_8 ?_
  first | refine e_iaddN dX1_shareOf_9 ?_ | refine e_iadd dX1_shareOf_9 ?_
  refine e_ialoadN dX1_shareOf_10 rfl (by omega) (by decide) ?_
  refine e_iret dX1_shareOf_11 rfl ?_
  exact ⟨_, rfl, rfl, by rw [← Nat.mul_comm 8] ; exact sorry, rfl⟩
