/-! THE MODEL. X.1: numbers by field and place; X.2: the amounts. Fields: 0 (0 how many transfers, 1 sent, 2 handled, 3 lost, 4 waiting), 1 up, 2 from, 3 to, 4 size, 5 yes, 6 done, 7 outcome, 8 ended, 9 states (8*store+t), 10 how many records, 11 records (32*site+place), 12 messages -/
abbrev qm : Type := (Nat → Nat → Nat) × (Nat → Int32)
def xs (X : qm) (f i v : Nat) : qm := (fun f' i' => if f' = f ∧ i' = i then v else X.1 f' i', X.2)
def xa (X : qm) (i : Nat) (v : Int32) : qm := (X.1, fun i' => if i' = i then v else X.2 i')
/-- the stores that take part -/
def m_part (X : qm) (t : Nat) : Nat := X.1 3 t ||| 2 ^ X.1 2 t
def m_bits (m : Nat) : Nat := m % 2 + m / 2 % 2 + m / 4 % 2 + m / 8 % 2
/-- a share by from, to, size -/
def m_sh (f to sz : Nat) (store : Nat) : Int32 := if store = f then -nI sz * nI (m_bits to) else if to / 2 ^ store % 2 = 1 then nI sz else nI 0
def m_share (X : qm) (t store : Nat) : Int32 := m_sh (X.1 2 t) (X.1 3 t) (X.1 4 t) store
def m_mask5 (X : qm) : Nat := X.1 1 0 + 2 * X.1 1 1 + 4 * X.1 1 2 + 8 * X.1 1 3 + 16 * X.1 1 4
def m_mask8 (X : qm) : Nat := X.1 8 0 + 2 * X.1 8 1 + 4 * X.1 8 2 + 8 * X.1 8 3 + 16 * X.1 8 4 + 32 * X.1 8 5 + 64 * X.1 8 6 + 128 * X.1 8 7
/-- sending, writing, taking out -/
def m_send (X : qm) (kind t store : Nat) : qm :=
  if X.1 0 4 < 60 then xs (xs (xs X 0 1 (X.1 0 1 + 1)) 12 (X.1 0 4) (32 * kind + 4 * t + store)) 0 4 (X.1 0 4 + 1) else xs (xs X 0 1 (X.1 0 1 + 1)) 0 3 (X.1 0 3 + 1)
def m_sendN (X : qm) (kind t mask : Nat) : Nat → qm
  | 0 => X
  | n + 1 => if mask / 2 ^ n % 2 = 1 then m_send (m_sendN X kind t mask n) kind t n else m_sendN X kind t mask n
def m_write (X : qm) (site kind t : Nat) : qm := xs (xs X 11 (32 * site + X.1 10 site) (8 * kind + t)) 10 site (X.1 10 site + 1)
def m_takeOut (X : qm) (place : Nat) : qm := (fun f i => if f = 12 then (if i < place then X.1 12 i else X.1 12 (i + 1)) else if f = 0 ∧ i = 4 then X.1 0 4 - 1 else X.1 f i, X.2)
/-- the class's world: by field of World and place -/
abbrev qw : Type := Nat → Nat → Int32
def wblk (b : Fin 16) (w : qw) : List qE :=
  [eO 1 [qI (w 0 0), qR b 1, qR b 2, qR b 3, qR b 4, qR b 5, qR b 6, qI (w 7 0), qI (w 8 0), qR b 7, qR b 8, qR b 9, qR b 10, qR b 11, qI (w 14 0), qI (w 15 0), qI (w 16 0), qI (w 17 0)],
   eI 8 (w 1), eI 8 (w 2), eI 32 (w 3), eI 8 (w 4), eI 8 (w 5), eI 8 (w 6), eI 4 (w 9), eI 32 (w 10), eI 120 (w 11), eI 5 (w 12), eI 60 (w 13)]
def wt (w : qw) (k : Nat) (f : Nat → Int32) : qw := fun j => if j = k then f else w j
/-- the class's world tells the model's state -/
def RelC (w : qw) (X : qm) : Prop :=
  w 0 0 = nI (X.1 0 0) ∧ (∀ t, t < 8 → w 1 t = nI (X.1 4 t)) ∧ (∀ t, t < 8 → w 2 t = nI (if t < X.1 0 0 then m_part X t else 0)) ∧ (∀ s t, s < 4 → t < 8 → w 3 (s * 8 + t) = m_share X t s) ∧
  (∀ t, t < 8 → w 4 t = nI (X.1 7 t)) ∧ (∀ t, t < 8 → w 5 t = nI (X.1 5 t)) ∧ (∀ t, t < 8 → w 6 t = nI (X.1 6 t)) ∧ w 7 0 = nI (m_mask8 X) ∧ w 8 0 = nI (m_mask5 X) ∧
  (∀ s, s < 4 → w 9 s = X.2 s) ∧ (∀ s t, s < 4 → t < 8 → w 10 (s * 8 + t) = nI (X.1 9 (8 * s + t))) ∧ (∀ s k, s < 5 → k < X.1 10 s → w 11 (s * 24 + k) = nI (X.1 11 (32 * s + k))) ∧
  (∀ s, s < 5 → w 12 s = nI (X.1 10 s)) ∧ (∀ k, k < X.1 0 4 → w 13 k = nI (X.1 12 k)) ∧ w 14 0 = nI (X.1 0 4) ∧ w 15 0 = nI (X.1 0 1) ∧ w 16 0 = nI (X.1 0 2) ∧ w 17 0 = nI (X.1 0 3)
/-- what always holds of a state -/
def Inv (X : qm) : Prop :=
  X.1 0 0 ≤ 8 ∧ X.1 0 4 ≤ 60 ∧ (∀ k, k < 5 → X.1 1 k ≤ 1) ∧ (∀ t, t < 8 → X.1 2 t < 4 ∧ X.1 3 t < 16 ∧ X.1 4 t ≤ 50 ∧ X.1 5 t < 16 ∧ X.1 6 t < 16 ∧ X.1 7 t ≤ 2 ∧ X.1 8 t ≤ 1) ∧
  (∀ t, X.1 0 0 ≤ t → t < 8 → X.1 2 t = 0 ∧ X.1 3 t = 0 ∧ X.1 4 t = 0 ∧ X.1 5 t = 0 ∧ X.1 6 t = 0 ∧ X.1 7 t = 0 ∧ X.1 8 t = 0) ∧
  (∀ s t, s < 4 → t < 8 → X.1 9 (8 * s + t) ≤ 3 ∧ (X.1 0 0 ≤ t → X.1 9 (8 * s + t) = 0)) ∧
  (∀ s, s < 4 → X.1 10 s ≤ 16) ∧ X.1 10 4 ≤ 24 ∧ (∀ s k, s < 5 → k < X.1 10 s → X.1 11 (32 * s + k) < 40 ∧ X.1 11 (32 * s + k) % 8 < X.1 0 0) ∧
  (∀ k, k < X.1 0 4 → X.1 12 k < 224 ∧ X.1 12 k / 4 % 8 < X.1 0 0)
theorem rC0 {w : qw} {X : qm} (hR : RelC w X) : w 0 0 = nI (X.1 0 0) := hR.1
theorem rC1 {w : qw} {X : qm} (hR : RelC w X) : ∀ t, t < 8 → w 1 t = nI (X.1 4 t) := hR.2.1
theorem rC2 {w : qw} {X : qm} (hR : RelC w X) : ∀ t, t < 8 → w 2 t = nI (if t < X.1 0 0 then m_part X t else 0) := hR.2.2.1
theorem rC3 {w : qw} {X : qm} (hR : RelC w X) : ∀ s t, s < 4 → t < 8 → w 3 (s * 8 + t) = m_share X t s := hR.2.2.2.1
theorem rC4 {w : qw} {X : qm} (hR : RelC w X) : ∀ t, t < 8 → w 4 t = nI (X.1 7 t) := hR.2.2.2.2.1
theorem rC5 {w : qw} {X : qm} (hR : RelC w X) : ∀ t, t < 8 → w 5 t = nI (X.1 5 t) := hR.2.2.2.2.2.1
theorem rC6 {w : qw} {X : qm} (hR : RelC w X) : ∀ t, t < 8 → w 6 t = nI (X.1 6 t) := hR.2.2.2.2.2.2.1
theorem rC7 {w : qw} {X : qm} (hR : RelC w X) : w 7 0 = nI (m_mask8 X) := hR.2.2.2.2.2.2.2.1
theorem rC8 {w : qw} {X : qm} (hR : RelC w X) : w 8 0 = nI (m_mask5 X) := hR.2.2.2.2.2.2.2.2.1
theorem rC9 {w : qw} {X : qm} (hR : RelC w X) : ∀ s, s < 4 → w 9 s = X.2 s := hR.2.2.2.2.2.2.2.2.2.1
theorem rC10 {w : qw} {X : qm} (hR : RelC w X) : ∀ s t, s < 4 → t < 8 → w 10 (s * 8 + t) = nI (X.1 9 (8 * s + t)) := hR.2.2.2.2.2.2.2.2.2.2.1
theorem rC11 {w : qw} {X : qm} (hR : RelC w X) : ∀ s k, s < 5 → k < X.1 10 s → w 11 (s * 24 + k) = nI (X.1 11 (32 * s + k)) := hR.2.2.2.2.2.2.2.2.2.2.2.1
theorem rC12 {w : qw} {X : qm} (hR : RelC w X) : ∀ s, s < 5 → w 12 s = nI (X.1 10 s) := hR.2.2.2.2.2.2.2.2.2.2.2.2.1
theorem rC13 {w : qw} {X : qm} (hR : RelC w X) : ∀ k, k < X.1 0 4 → w 13 k = nI (X.1 12 k) := hR.2.2.2.2.2.2.2.2.2.2.2.2.2.1
theorem rC14 {w : qw} {X : qm} (hR : RelC w X) : w 14 0 = nI (X.1 0 4) := hR.2.2.2.2.2.2.2.2.2.2.2.2.2.2.1
theorem rC15 {w : qw} {X : qm} (hR : RelC w X) : w 15 0 = nI (X.1 0 1) := hR.2.2.2.2.2.2.2.2.2.2.2.2.2.2.2.1
theorem rC16 {w : qw} {X : qm} (hR : RelC w X) : w 16 0 = nI (X.1 0 2) := hR.2.2.2.2.2.2.2.2.2.2.2.2.2.2.2.2.1
theorem rC17 {w : qw} {X : qm} (hR : RelC w X) : w 17 0 = nI (X.1 0 3) := hR.2.2.2.2.2.2.2.2.2.2.2.2.2.2.2.2.2
theorem iV1 {X : qm} (I : Inv X) : X.1 0 0 ≤ 8 := I.1
theorem iV2 {X : qm} (I : Inv X) : X.1 0 4 ≤ 60 := I.2.1
theorem iV3 {X : qm} (I : Inv X) : ∀ k, k < 5 → X.1 1 k ≤ 1 := I.2.2.1
theorem iV4 {X : qm} (I : Inv X) : ∀ t, t < 8 → X.1 2 t < 4 ∧ X.1 3 t < 16 ∧ X.1 4 t ≤ 50 ∧ X.1 5 t < 16 ∧ X.1 6 t < 16 ∧ X.1 7 t ≤ 2 ∧ X.1 8 t ≤ 1 := I.2.2.2.1
theorem iV5 {X : qm} (I : Inv X) : ∀ t, X.1 0 0 ≤ t → t < 8 → X.1 2 t = 0 ∧ X.1 3 t = 0 ∧ X.1 4 t = 0 ∧ X.1 5 t = 0 ∧ X.1 6 t = 0 ∧ X.1 7 t = 0 ∧ X.1 8 t = 0 := I.2.2.2.2.1
theorem iV6 {X : qm} (I : Inv X) : ∀ s t, s < 4 → t < 8 → X.1 9 (8 * s + t) ≤ 3 ∧ (X.1 0 0 ≤ t → X.1 9 (8 * s + t) = 0) := I.2.2.2.2.2.1
theorem iV7 {X : qm} (I : Inv X) : ∀ s, s < 4 → X.1 10 s ≤ 16 := I.2.2.2.2.2.2.1
theorem iV8 {X : qm} (I : Inv X) : X.1 10 4 ≤ 24 := I.2.2.2.2.2.2.2.1
theorem iV9 {X : qm} (I : Inv X) : ∀ s k, s < 5 → k < X.1 10 s → X.1 11 (32 * s + k) < 40 ∧ X.1 11 (32 * s + k) % 8 < X.1 0 0 := I.2.2.2.2.2.2.2.2.1
theorem iV10 {X : qm} (I : Inv X) : ∀ k, k < X.1 0 4 → X.1 12 k < 224 ∧ X.1 12 k / 4 % 8 < X.1 0 0 := I.2.2.2.2.2.2.2.2.2
/-! bits -/
theorem b_up : ∀ m, m < 32 → ∀ k, k < 5 → (nI m >>> (nI k &&& 31)) &&& nI 1 = nI (m / 2 ^ k % 2) := by decide +kernel
theorem b_end : ∀ m, m < 256 → ∀ k, k < 8 → (nI m >>> (nI k &&& 31)) &&& nI 1 = nI (m / 2 ^ k % 2) := by decide +kernel
theorem b_msk : ∀ m, m < 16 → ∀ k, k < 4 → (nI m >>> (nI k &&& 31)) &&& nI 1 = nI (m / 2 ^ k % 2) := by decide +kernel
theorem b_msg : ∀ k, k < 7 → ∀ t, t < 8 → ∀ s, s < 4 → ((nI k <<< (nI 5 &&& 31)) ||| (nI t <<< (nI 2 &&& 31))) ||| nI s = nI (32 * k + 4 * t + s) := by decide +kernel
theorem b_rec : ∀ k, k < 5 → ∀ t, t < 8 → (nI k <<< (nI 3 &&& 31)) ||| nI t = nI (8 * k + t) := by decide +kernel
theorem b_rk : ∀ r, r < 40 → nI r >>> (nI 3 &&& 31) = nI (r / 8) := by decide +kernel
theorem b_rt : ∀ r, r < 40 → nI r &&& nI 7 = nI (r % 8) := by decide +kernel
theorem b_mk : ∀ r, r < 224 → nI r >>> (nI 5 &&& 31) = nI (r / 32) := by decide +kernel
theorem b_mt : ∀ r, r < 224 → (nI r >>> (nI 2 &&& 31)) &&& nI 7 = nI (r / 4 % 8) := by decide +kernel
theorem b_ms : ∀ r, r < 224 → nI r &&& nI 3 = nI (r % 4) := by decide +kernel
theorem m_mask5_lt {X : qm} (i3 : ∀ k, k < 5 → X.1 1 k ≤ 1) : m_mask5 X < 32 ∧ ∀ k, k < 5 → m_mask5 X / 2 ^ k % 2 = X.1 1 k := by
  have h0 := i3 0 (by decide); have h1 := i3 1 (by decide); have h2 := i3 2 (by decide); have h3 := i3 3 (by decide); have h4 := i3 4 (by decide)
  refine ⟨by unfold m_mask5; omega, fun k hk => ?_⟩
  unfold m_mask5
  rcases (show k = 0 ∨ k = 1 ∨ k = 2 ∨ k = 3 ∨ k = 4 by omega) with rfl | rfl | rfl | rfl | rfl <;> simp only [Nat.reducePow] <;> omega
theorem m_mask8_lt0 {X : qm} (he : ∀ k, k < 8 → X.1 8 k ≤ 1) : m_mask8 X < 256 ∧ ∀ k, k < 8 → m_mask8 X / 2 ^ k % 2 = X.1 8 k := by
  have h0 := he 0 (by decide); have h1 := he 1 (by decide); have h2 := he 2 (by decide); have h3 := he 3 (by decide)
  have h4 := he 4 (by decide); have h5 := he 5 (by decide); have h6 := he 6 (by decide); have h7 := he 7 (by decide)
  refine ⟨by unfold m_mask8; omega, fun k hk => ?_⟩
  unfold m_mask8
  rcases (show k = 0 ∨ k = 1 ∨ k = 2 ∨ k = 3 ∨ k = 4 ∨ k = 5 ∨ k = 6 ∨ k = 7 by omega) with rfl | rfl | rfl | rfl | rfl | rfl | rfl | rfl <;> simp only [Nat.reducePow] <;> omega
theorem m_mask8_lt {X : qm} (I : Inv X) : m_mask8 X < 256 ∧ ∀ k, k < 8 → m_mask8 X / 2 ^ k % 2 = X.1 8 k := m_mask8_lt0 (fun k hk => (iV4 I k hk).2.2.2.2.2.2)
theorem b_or4 : ∀ a, a < 16 → ∀ k, k < 4 → a ||| 2 ^ k < 16 := by decide +kernel
theorem m_part_lt {X : qm} (I : Inv X) {t : Nat} (ht : t < 8) : m_part X t < 16 := b_or4 _ (I.2.2.2.1 t ht).2.1 _ (I.2.2.2.1 t ht).1
/-- an int that is a place among n -/
def i_in (x : Int32) (n : Nat) : Bool := decide (¬ x < 0 ∧ x < nI n)
theorem i_in_of {x : Int32} {n : Nat} (hn : n < 2 ^ 31) (h : i_in x n = true) : ∃ k, k < n ∧ x = nI k := by
  simp only [i_in, decide_eq_true_eq] at h
  obtain ⟨j, hj, rfl⟩ := nI_of h.1
  exact ⟨j, (nI_ltI hj hn).mp h.2, rfl⟩
theorem i_in_nI {k n : Nat} (hk : k < n) (hn : n < 2 ^ 31) : i_in (nI k) n = true := by
  simp only [i_in, decide_eq_true_eq]
  exact ⟨nI_pos (by omega), (nI_ltI (by omega) hn).mpr hk⟩
theorem q_b1 {B : Bool} (h : B = true) : nI 1 = q_b B := by rw [h]; rfl
theorem q_b0 {B : Bool} (h : B = false) : nI 0 = q_b B := by rw [h]; rfl
set_option maxRecDepth 20000 in
set_option maxHeartbeats 4000000 in
theorem w_knows (h : qB) (b : Fin 16) (w : qw) (X : qm) (hR : RelC w X) (I : Inv X) (x : Int32) : CtI mX1_knows 0 [qR b 0, qI x] (q_put h b (wblk b w)) (fun r h2 => r = q_b (i_in x (X.1 0 0)) ∧ h2 = q_put h b (wblk b w)) := by
  refine ct_of (by decide +kernel) rfl rfl (Nat.le_of_ble_eq_true rfl) ?_
  show Ev mX1_knows 0 0 [some (qR b 0), some (qI x)] [] 124 (q_put h b (wblk b w)) 0 0 _ _
  refine e_iload1 dX1_knows_0 ?_
  refine e_if_lt 16 dX1_knows_1 (by decide) (fun hc1 => ?_) (fun hc1 => ?_)
  · refine e_iconst (z := 0) dX1_knows_16 ?_
    refine e_zret dX1_knows_17 rfl (by first | rfl | exact q_nar _) ?_
    exact ⟨_, rfl, rfl, by first | (refine q_b1 ?_; simp_all [i_in]) | (refine q_b0 ?_; simp_all [i_in]), rfl⟩
  · refine e_iload1 dX1_knows_4 ?_
    refine e_aload0 dX1_knows_5 ?_
    refine e_getfieldF flX1_49 dX1_knows_6 rfl rfl ?_
    rw [rC0 hR]
    first | refine e_icmp_geN 16 dX1_knows_9 (by decide) (by omega) (by omega) (fun hc9 => ?_) (fun hc9 => ?_) | refine e_icmp_ge 16 dX1_knows_9 (by decide) (fun hc9 => ?_) (fun hc9 => ?_)
    · refine e_iconst (z := 0) dX1_knows_16 ?_
      refine e_zret dX1_knows_17 rfl (by first | rfl | exact q_nar _) ?_
      exact ⟨_, rfl, rfl, by first | (refine q_b1 ?_; simp_all [i_in]) | (refine q_b0 ?_; simp_all [i_in]), rfl⟩
    · refine e_iconst (z := 1) dX1_knows_12 ?_
      refine e_goto 17 dX1_knows_13 (by decide) ?_
      refine e_zret dX1_knows_17 rfl (by first | rfl | exact q_nar _) ?_
      exact ⟨_, rfl, rfl, by first | (refine q_b1 ?_; simp_all [i_in]) | (refine q_b0 ?_; simp_all [i_in]), rfl⟩
set_option maxRecDepth 20000 in
set_option maxHeartbeats 4000000 in
theorem w_hasMessage (h : qB) (b : Fin 16) (w : qw) (X : qm) (hR : RelC w X) (I : Inv X) (x : Int32) : CtI mX1_hasMessage 0 [qR b 0, qI x] (q_put h b (wblk b w)) (fun r h2 => r = q_b (i_in x (X.1 0 4)) ∧ h2 = q_put h b (wblk b w)) := by
  refine ct_of (by decide +kernel) rfl rfl (Nat.le_of_ble_eq_true rfl) ?_
  show Ev mX1_hasMessage 0 0 [some (qR b 0), some (qI x)] [] 124 (q_put h b (wblk b w)) 0 0 _ _
  refine e_iload1 dX1_hasMessage_0 ?_
  refine e_if_lt 16 dX1_hasMessage_1 (by decide) (fun hc1 => ?_) (fun hc1 => ?_)
  · refine e_iconst (z := 0) dX1_hasMessage_16 ?_
    refine e_zret dX1_hasMessage_17 rfl (by first | rfl | exact q_nar _) ?_
    exact ⟨_, rfl, rfl, by first | (refine q_b1 ?_; simp_all [i_in]) | (refine q_b0 ?_; simp_all [i_in]), rfl⟩
  · refine e_iload1 dX1_hasMessage_4 ?_
    refine e_aload0 dX1_hasMessage_5 ?_
    refine e_getfieldF flX1_61 dX1_hasMessage_6 rfl rfl ?_
    rw [rC14 hR]
    first | refine e_icmp_geN 16 dX1_hasMessage_9 (by decide) (by omega) (by omega) (fun hc9 => ?_) (fun hc9 => ?_) | refine e_icmp_ge 16 dX1_hasMessage_9 (by decide) (fun hc9 => ?_) (fun hc9 => ?_)
    · refine e_iconst (z := 0) dX1_hasMessage_16 ?_
      refine e_zret dX1_hasMessage_17 rfl (by first | rfl | exact q_nar _) ?_
      exact ⟨_, rfl, rfl, by first | (refine q_b1 ?_; simp_all [i_in]) | (refine q_b0 ?_; simp_all [i_in]), rfl⟩
    · refine e_iconst (z := 1) dX1_hasMessage_12 ?_
      refine e_goto 17 dX1_hasMessage_13 (by decide) ?_
      refine e_zret dX1_hasMessage_17 rfl (by first | rfl | exact q_nar _) ?_
      exact ⟨_, rfl, rfl, by first | (refine q_b1 ?_; simp_all [i_in]) | (refine q_b0 ?_; simp_all [i_in]), rfl⟩
set_option maxRecDepth 20000 in
set_option maxHeartbeats 4000000 in
theorem w_stands (h : qB) (b : Fin 16) (w : qw) (X : qm) (hR : RelC w X) (hu3 : ∀ k, k < 5 → X.1 1 k ≤ 1) {k : Nat} (hk : k < 5) : CtI mX1_stands 0 [qR b 0, qI (nI k)] (q_put h b (wblk b w)) (fun r h2 => r = q_b (decide (X.1 1 k = 1)) ∧ h2 = q_put h b (wblk b w)) := by
  refine ct_of (by decide +kernel) rfl rfl (Nat.le_of_ble_eq_true rfl) ?_
  show Ev mX1_stands 0 0 [some (qR b 0), some (qI (nI k))] [] 124 (q_put h b (wblk b w)) 0 0 _ _
  refine e_aload0 dX1_stands_0 ?_
  refine e_getfieldF flX1_45 dX1_stands_1 rfl rfl ?_
  refine e_iload1 dX1_stands_4 ?_
  refine e_ishr dX1_stands_5 ?_
  refine e_iconst (z := 1) dX1_stands_6 ?_
  refine e_iand dX1_stands_7 ?_
  refine e_iconst (z := 1) dX1_stands_8 ?_
  rw [rC8 hR, b_up _ (m_mask5_lt hu3).1 _ hk, (m_mask5_lt hu3).2 _ hk]
  have hu := hu3 _ hk
  first | refine e_icmp_neN 16 dX1_stands_9 (by decide) (by omega) (by omega) (fun hc9 => ?_) (fun hc9 => ?_) | refine e_icmp_ne 16 dX1_stands_9 (by decide) (fun hc9 => ?_) (fun hc9 => ?_)
  · refine e_iconst (z := 0) dX1_stands_16 ?_
    refine e_zret dX1_stands_17 rfl (by first | rfl | exact q_nar _) ?_
    exact ⟨_, rfl, rfl, by first | (refine q_b1 ?_; simp [hc9]; done) | (refine q_b0 ?_; simp [hc9]; done), rfl⟩
  · refine e_iconst (z := 1) dX1_stands_12 ?_
    refine e_goto 17 dX1_stands_13 (by decide) ?_
    refine e_zret dX1_stands_17 rfl (by first | rfl | exact q_nar _) ?_
    exact ⟨_, rfl, rfl, by first | (refine q_b1 ?_; simp [hc9]; done) | (refine q_b0 ?_; simp [hc9]; done), rfl⟩
set_option maxRecDepth 20000 in
set_option maxHeartbeats 4000000 in
theorem w_isOver (h : qB) (b : Fin 16) (w : qw) (X : qm) (hR : RelC w X) (he8 : ∀ k, k < 8 → X.1 8 k ≤ 1) {k : Nat} (hk : k < 8) : CtI mX1_isOver 0 [qR b 0, qI (nI k)] (q_put h b (wblk b w)) (fun r h2 => r = q_b (decide (X.1 8 k = 1)) ∧ h2 = q_put h b (wblk b w)) := by
  refine ct_of (by decide +kernel) rfl rfl (Nat.le_of_ble_eq_true rfl) ?_
  show Ev mX1_isOver 0 0 [some (qR b 0), some (qI (nI k))] [] 124 (q_put h b (wblk b w)) 0 0 _ _
  refine e_aload0 dX1_isOver_0 ?_
  refine e_getfieldF flX1_58 dX1_isOver_1 rfl rfl ?_
  refine e_iload1 dX1_isOver_4 ?_
  refine e_ishr dX1_isOver_5 ?_
  refine e_iconst (z := 1) dX1_isOver_6 ?_
  refine e_iand dX1_isOver_7 ?_
  refine e_iconst (z := 1) dX1_isOver_8 ?_
  rw [rC7 hR, b_end _ (m_mask8_lt0 he8).1 _ hk, (m_mask8_lt0 he8).2 _ hk]
  have hu := he8 _ hk
  first | refine e_icmp_neN 16 dX1_isOver_9 (by decide) (by omega) (by omega) (fun hc9 => ?_) (fun hc9 => ?_) | refine e_icmp_ne 16 dX1_isOver_9 (by decide) (fun hc9 => ?_) (fun hc9 => ?_)
  · refine e_iconst (z := 0) dX1_isOver_16 ?_
    refine e_zret dX1_isOver_17 rfl (by first | rfl | exact q_nar _) ?_
    exact ⟨_, rfl, rfl, by first | (refine q_b1 ?_; simp [hc9]; done) | (refine q_b0 ?_; simp [hc9]; done), rfl⟩
  · refine e_iconst (z := 1) dX1_isOver_12 ?_
    refine e_goto 17 dX1_isOver_13 (by decide) ?_
    refine e_zret dX1_isOver_17 rfl (by first | rfl | exact q_nar _) ?_
    exact ⟨_, rfl, rfl, by first | (refine q_b1 ?_; simp [hc9]; done) | (refine q_b0 ?_; simp [hc9]; done), rfl⟩
set_option maxRecDepth 20000 in
set_option maxHeartbeats 4000000 in
theorem w_shareOf (h : qB) (b : Fin 16) (w : qw) (X : qm) (hR : RelC w X) {t s : Nat} (ht : t < 8) (hs : s < 4) : CtI mX1_shareOf 0 [qR b 0, qI (nI t), qI (nI s)] (q_put h b (wblk b w)) (fun r h2 => r = m_share X t s ∧ h2 = q_put h b (wblk b w)) := by
  refine ct_of (by decide +kernel) rfl rfl (Nat.le_of_ble_eq_true rfl) ?_
  show Ev mX1_shareOf 0 0 [some (qR b 0), some (qI (nI t)), some (qI (nI s))] [] 124 (q_put h b (wblk b w)) 0 0 _ _
  refine e_aload0 dX1_shareOf_0 ?_
  refine e_getfieldF flX1_18 dX1_shareOf_1 rfl rfl ?_
  refine e_iload2 dX1_shareOf_4 ?_
  refine e_bipush (v := nI 8) dX1_shareOf_5 (by decide) ?_
  first | refine e_imulN dX1_shareOf_7 ?_ | refine e_imul dX1_shareOf_7 ?_
  refine e_iload1 dX1_shareOf_8 ?_
  first | refine e_iaddN dX1_shareOf_9 ?_ | refine e_iadd dX1_shareOf_9 ?_
  refine e_ialoadN dX1_shareOf_10 rfl (by omega) (by decide) ?_
  refine e_iret dX1_shareOf_11 rfl ?_
  exact ⟨_, rfl, rfl, rC3 hR s t hs ht, rfl⟩
set_option maxRecDepth 20000 in
set_option maxHeartbeats 4000000 in
theorem w_stateOf (h : qB) (b : Fin 16) (w : qw) (X : qm) (hR : RelC w X) {t s : Nat} (ht : t < 8) (hs : s < 4) : CtI mX1_stateOf 0 [qR b 0, qI (nI s), qI (nI t)] (q_put h b (wblk b w)) (fun r h2 => r = nI (X.1 9 (8 * s + t)) ∧ h2 = q_put h b (wblk b w)) := by
  refine ct_of (by decide +kernel) rfl rfl (Nat.le_of_ble_eq_true rfl) ?_
  show Ev mX1_stateOf 0 0 [some (qR b 0), some (qI (nI s)), some (qI (nI t))] [] 124 (q_put h b (wblk b w)) 0 0 _ _
  refine e_aload0 dX1_stateOf_0 ?_
  refine e_getfieldF flX1_33 dX1_stateOf_1 rfl rfl ?_
  refine e_iload1 dX1_stateOf_4 ?_
  refine e_bipush (v := nI 8) dX1_stateOf_5 (by decide) ?_
  first | refine e_imulN dX1_stateOf_7 ?_ | refine e_imul dX1_stateOf_7 ?_
  refine e_iload2 dX1_stateOf_8 ?_
  first | refine e_iaddN dX1_stateOf_9 ?_ | refine e_iadd dX1_stateOf_9 ?_
  refine e_ialoadN dX1_stateOf_10 rfl (by omega) (by decide) ?_
  refine e_iret dX1_stateOf_11 rfl ?_
  exact ⟨_, rfl, rfl, rC10 hR s t hs ht, rfl⟩
set_option maxRecDepth 20000 in
set_option maxHeartbeats 4000000 in
theorem w_kindOfRecord (h : qB) (b : Fin 16) (w : qw) (X : qm) (hR : RelC w X) (I : Inv X) {s k : Nat} (hs : s < 5) (hk : k < X.1 10 s) : CtI mX1_kindOfRecord 0 [qR b 0, qI (nI s), qI (nI k)] (q_put h b (wblk b w)) (fun r h2 => r = nI (X.1 11 (32 * s + k) / 8) ∧ h2 = q_put h b (wblk b w)) := by
  have h24 : X.1 10 s ≤ 24 := (Nat.lt_or_ge s 4).elim (fun q => Nat.le_trans (iV7 I s q) (by decide)) (fun q => by rw [show s = 4 by omega]; exact iV8 I)
  refine ct_of (by decide +kernel) rfl rfl (Nat.le_of_ble_eq_true rfl) ?_
  show Ev mX1_kindOfRecord 0 0 [some (qR b 0), some (qI (nI s)), some (qI (nI k))] [] 124 (q_put h b (wblk b w)) 0 0 _ _
  refine e_aload0 dX1_kindOfRecord_0 ?_
  refine e_getfieldF flX1_36 dX1_kindOfRecord_1 rfl rfl ?_
  refine e_iload1 dX1_kindOfRecord_4 ?_
  refine e_bipush (v := nI 24) dX1_kindOfRecord_5 (by decide) ?_
  first | refine e_imulN dX1_kindOfRecord_7 ?_ | refine e_imul dX1_kindOfRecord_7 ?_
  refine e_iload2 dX1_kindOfRecord_8 ?_
  first | refine e_iaddN dX1_kindOfRecord_9 ?_ | refine e_iadd dX1_kindOfRecord_9 ?_
  refine e_ialoadN dX1_kindOfRecord_10 rfl (by omega) (by decide) ?_
  refine e_iconst (z := 3) dX1_kindOfRecord_11 ?_
  refine e_ishr dX1_kindOfRecord_12 ?_
  refine e_iret dX1_kindOfRecord_13 rfl ?_
  exact ⟨_, rfl, rfl, by rw [rC11 hR s k hs hk, b_rk _ (iV9 I s k hs hk).1], rfl⟩
set_option maxRecDepth 20000 in
set_option maxHeartbeats 4000000 in
theorem w_transferOfRecord (h : qB) (b : Fin 16) (w : qw) (X : qm) (hR : RelC w X) (I : Inv X) {s k : Nat} (hs : s < 5) (hk : k < X.1 10 s) : CtI mX1_transferOfRecord 0 [qR b 0, qI (nI s), qI (nI k)] (q_put h b (wblk b w)) (fun r h2 => r = nI (X.1 11 (32 * s + k) % 8) ∧ h2 = q_put h b (wblk b w)) := by
  have h24 : X.1 10 s ≤ 24 := (Nat.lt_or_ge s 4).elim (fun q => Nat.le_trans (iV7 I s q) (by decide)) (fun q => by rw [show s = 4 by omega]; exact iV8 I)
  refine ct_of (by decide +kernel) rfl rfl (Nat.le_of_ble_eq_true rfl) ?_
  show Ev mX1_transferOfRecord 0 0 [some (qR b 0), some (qI (nI s)), some (qI (nI k))] [] 124 (q_put h b (wblk b w)) 0 0 _ _
  refine e_aload0 dX1_transferOfRecord_0 ?_
  refine e_getfieldF flX1_36 dX1_transferOfRecord_1 rfl rfl ?_
  refine e_iload1 dX1_transferOfRecord_4 ?_
  refine e_bipush (v := nI 24) dX1_transferOfRecord_5 (by decide) ?_
  first | refine e_imulN dX1_transferOfRecord_7 ?_ | refine e_imul dX1_transferOfRecord_7 ?_
  refine e_iload2 dX1_transferOfRecord_8 ?_
  first | refine e_iaddN dX1_transferOfRecord_9 ?_ | refine e_iadd dX1_transferOfRecord_9 ?_
  refine e_ialoadN dX1_transferOfRecord_10 rfl (by omega) (by decide) ?_
  refine e_bipush (v := nI 7) dX1_transferOfRecord_11 (by decide) ?_
  refine e_iand dX1_transferOfRecord_13 ?_
  refine e_iret dX1_transferOfRecord_14 rfl ?_
  exact ⟨_, rfl, rfl, by rw [rC11 hR s k hs hk, b_rt _ (iV9 I s k hs hk).1], rfl⟩
