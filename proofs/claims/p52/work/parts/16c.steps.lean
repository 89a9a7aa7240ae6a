theorem m_decide_0 {X : qm} (t oc : Nat) {i : Nat} (h : i = 0 ∨ i = 2) : (m_decide X t oc).1 0 i = X.1 0 i := by
  unfold m_decide
  rw [m_sendN_f _ _ _ _ (Or.inr h) (by decide)]
  rcases h with rfl | rfl <;> rfl
theorem j_ask {X : qm} (hJ : J X) {t s : Nat} (ht : t < X.1 0 0) (hs : s < 4) : J (m_ask X t s) := by
  unfold m_ask
  split
  · next h =>
    split
    · exact j_send (j_become hJ hs ht (Or.inl ⟨h, Or.inl rfl⟩)) (by decide) (by rw [m_become_f _ _ _ (by decide) (by decide) (by decide)]; exact ht) hs (fun h => absurd h (by decide))
    · exact j_send (j_become hJ hs ht (Or.inl ⟨h, Or.inr rfl⟩)) (by decide) (by rw [m_become_f _ _ _ (by decide) (by decide) (by decide)]; exact ht) hs (fun h => absurd h (by decide))
  · split
    · exact j_send hJ (by decide) ht hs (fun h => absurd h (by decide))
    · exact j_send hJ (by decide) ht hs (fun h => absurd h (by decide))
theorem j_mk {X : qm} (hJ : J X) {t s : Nat} (ht : t < X.1 0 0) (hs : s < 4) : J (m_mk X t s) := by
  unfold m_mk
  split
  · next h => exact j_send (j_become hJ hs ht (Or.inr ⟨h, Or.inl rfl⟩)) (by decide) (by rw [m_become_f _ _ _ (by decide) (by decide) (by decide)]; exact ht) hs (fun h => absurd h (by decide))
  · split
    · exact j_send hJ (by decide) ht hs (fun h => absurd h (by decide))
    · exact hJ
theorem j_dr {X : qm} (hJ : J X) {t s : Nat} (ht : t < X.1 0 0) (hs : s < 4) : J (m_dr X t s) := by
  unfold m_dr
  split
  · next h => exact j_send (j_become hJ hs ht ((show X.1 9 (8 * s + t) = 0 ∨ X.1 9 (8 * s + t) = 1 by omega).elim (fun a => Or.inl ⟨a, Or.inr rfl⟩) (fun a => Or.inr ⟨a, Or.inr rfl⟩))) (by decide) (by rw [m_become_f _ _ _ (by decide) (by decide) (by decide)]; exact ht) hs (fun h => absurd h (by decide))
  · split
    · exact j_send hJ (by decide) ht hs (fun h => absurd h (by decide))
    · exact hJ
theorem j_or {X : qm} (hJ : J X) {t s : Nat} (ht : t < X.1 0 0) (hs : s < 4) : X.1 5 t ||| 2 ^ s < 16 ∧ X.1 6 t ||| 2 ^ s < 16 := by
  have i1 := iV1 hJ.1
  have i4 := iV4 hJ.1 t (by omega)
  exact ⟨b_or4 _ i4.2.2.2.1 _ hs, b_or4 _ i4.2.2.2.2.1 _ hs⟩
theorem j_hYes {X : qm} (hJ : J X) {t s : Nat} (ht : t < X.1 0 0) (hs : s < 4) : J (m_hYes X t s) := by
  unfold m_hYes
  split
  · next h =>
    have hy := j_yes hJ ht (j_or hJ ht hs).1
    split
    · exact j_decide hy ht h (Or.inl rfl)
    · exact hy
  · exact hJ
theorem j_hNo {X : qm} (hJ : J X) {t : Nat} (ht : t < X.1 0 0) : J (m_hNo X t) := by
  unfold m_hNo
  split
  · next h => exact j_decide hJ ht h (Or.inr rfl)
  · exact hJ
theorem j_hDone {X : qm} (hJ : J X) {t s : Nat} (ht : t < X.1 0 0) (hs : s < 4) : J (m_hDone X t s) := by
  have hy := j_done hJ ht (j_or hJ ht hs).2
  unfold m_hDone
  split
  · next h => exact j_endCore hy ht h.2
  · exact hy
theorem j_hWhat {X : qm} (hJ : J X) {t s : Nat} (ht : t < X.1 0 0) (hs : s < 4) : J (m_hWhat X t s) := by
  have i1 := iV1 hJ.1
  have i4 := (iV4 hJ.1 t (by omega)).2.2.2.2.2.1
  unfold m_hWhat
  split
  · exact hJ
  · exact j_send hJ (by omega) ht hs (fun h => absurd h (by omega))
theorem j_takesUp {X : qm} (hJ : J X) {t : Nat} (ht : t < X.1 0 0) : J (m_takesUp X t) := by
  have i1 := iV1 hJ.1
  have i4 := (iV4 hJ.1 t (by omega)).2.2.2.2.2.1
  unfold m_takesUp
  split
  · next h => exact j_decide hJ ht h (Or.inr rfl)
  · split
    · exact j_sendN hJ (by omega) ht (fun h => absurd h (by omega)) 4 (Nat.le_refl _)
    · exact hJ
/-- a message is heard -/
def m_hears (Z : qm) (kd t s : Nat) : qm := if kd = 0 then m_ask Z t s else if kd = 1 then m_hYes Z t s else if kd = 2 then m_hNo Z t else if kd = 3 then m_mk Z t s else if kd = 4 then m_dr Z t s else if kd = 5 then m_hDone Z t s else m_hWhat Z t s
def m_isUp (X : qm) (p : Nat) : Bool := decide (X.1 1 (if X.1 12 p / 32 = 0 ∨ X.1 12 p / 32 = 3 ∨ X.1 12 p / 32 = 4 then X.1 12 p % 4 else 4) = 1)
def m_deliver (X : qm) (p : Nat) : qm := if m_isUp X p = true then m_hears (xs (m_takeOut X p) 0 2 (X.1 0 2 + 1)) (X.1 12 p / 32) (X.1 12 p / 4 % 8) (X.1 12 p % 4) else xs (m_takeOut X p) 0 3 (X.1 0 3 + 1)
theorem j_hears {X : qm} (hJ : J X) {k t s : Nat} (ht : t < X.1 0 0) (hs : s < 4) : J (m_hears X k t s) := by
  unfold m_hears
  split; exact j_ask hJ ht hs
  split; exact j_hYes hJ ht hs
  split; exact j_hNo hJ ht
  split; exact j_mk hJ ht hs
  split; exact j_dr hJ ht hs
  split; exact j_hDone hJ ht hs
  exact j_hWhat hJ ht hs
theorem j_deliver {X : qm} (hJ : J X) {p : Nat} (hp : p < X.1 0 4) : J (m_deliver X p) := by
  unfold m_deliver
  split
  · exact j_hears (j_counter (j_takeOut hJ hp) (Or.inr (Or.inl rfl))) (iV10 hJ.1 p hp).2 (by omega)
  · exact j_counter (j_takeOut hJ hp) (Or.inr (Or.inr rfl))
/-! what it costs -/
def m_c (k : Nat) : Nat := if k = 0 then 10 else if k = 1 ∨ k = 2 then 9 else if k = 6 then 3 else if k = 5 then 1 else 2
def m_ms (X : qm) : Nat → Nat
  | 0 => 0
  | n + 1 => m_ms X n + m_c (X.1 12 n / 32)
def m_meas (X : qm) : Nat := m_ms X (X.1 0 4)
theorem m_c_1 (k : Nat) : 1 ≤ m_c k ∧ m_c k ≤ 10 := by
  unfold m_c
  repeat (first | (split; omega) | omega)
theorem m_ms_congr {X Y : qm} : ∀ n, (∀ k, k < n → Y.1 12 k = X.1 12 k) → m_ms Y n = m_ms X n := by
  intro n
  induction n with
  | zero => intro _; rfl
  | succ n ih => intro h; rw [m_ms, m_ms, h n (by omega), ih (fun k hk => h k (by omega))]
theorem m_ms_b (X : qm) : ∀ n, n ≤ m_ms X n ∧ m_ms X n ≤ 10 * n := by
  intro n
  induction n with
  | zero => exact ⟨Nat.le_refl _, Nat.le_refl _⟩
  | succ n ih => have := m_c_1 (X.1 12 n / 32); rw [m_ms]; omega
def Pay (X Y : qm) (c n : Nat) : Prop := m_meas Y ≤ m_meas X + c ∧ Y.1 0 1 ≤ X.1 0 1 + n ∧ Y.1 0 2 + Y.1 0 3 + Y.1 0 4 + X.1 0 1 = X.1 0 2 + X.1 0 3 + X.1 0 4 + Y.1 0 1
theorem pay_same {X Y : qm} (h0 : ∀ i, Y.1 0 i = X.1 0 i) (h12 : ∀ i, Y.1 12 i = X.1 12 i) : Pay X Y 0 0 := by
  refine ⟨?_, ?_, ?_⟩
  · unfold m_meas; rw [h0, m_ms_congr (X := X) _ (fun k _ => h12 k)]; exact Nat.le_refl _
  · rw [h0]; exact Nat.le_refl _
  · rw [h0, h0, h0, h0]
theorem pay_trans {X Y Z : qm} {c n c2 n2 : Nat} (h : Pay X Y c n) (h2 : Pay Y Z c2 n2) : Pay X Z (c + c2) (n + n2) := by
  obtain ⟨a, b, d⟩ := h
  obtain ⟨a2, b2, d2⟩ := h2
  exact ⟨by omega, by omega, by omega⟩
theorem pay_le {X Y : qm} {c n c2 n2 : Nat} (h : Pay X Y c n) (h1 : c ≤ c2) (h2 : n ≤ n2) : Pay X Y c2 n2 := by
  obtain ⟨a, b, d⟩ := h
  exact ⟨by omega, by omega, by omega⟩
theorem pay_send {X : qm} {k t s : Nat} (ht : t < 8) (hs : s < 4) : Pay X (m_send X k t s) (m_c k) 1 := by
  unfold m_send
  split
  · next h =>
    have e12 : ∀ k', (xs (xs (xs X 0 1 (X.1 0 1 + 1)) 12 (X.1 0 4) (32 * k + 4 * t + s)) 0 4 (X.1 0 4 + 1)).1 12 k' = if k' = X.1 0 4 then 32 * k + 4 * t + s else X.1 12 k' := fun k' => by simp [xs]
    refine ⟨?_, ?_, ?_⟩
    · unfold m_meas
      show m_ms _ (X.1 0 4 + 1) ≤ _
      rw [m_ms, e12, if_pos rfl, m_ms_congr (X := X) _ (fun k' hk => by rw [e12, if_neg (by omega)]), show (32 * k + 4 * t + s) / 32 = k by omega]
      exact Nat.le_refl _
    · show X.1 0 1 + 1 ≤ X.1 0 1 + 1; exact Nat.le_refl _
    · show X.1 0 2 + X.1 0 3 + (X.1 0 4 + 1) + X.1 0 1 = X.1 0 2 + X.1 0 3 + X.1 0 4 + (X.1 0 1 + 1); omega
  · refine ⟨?_, ?_, ?_⟩
    · show m_ms _ (X.1 0 4) ≤ m_ms X (X.1 0 4) + _
      rw [m_ms_congr (X := X) (Y := xs (xs X 0 1 (X.1 0 1 + 1)) 0 3 (X.1 0 3 + 1)) _ (fun _ _ => rfl)]; omega
    · show X.1 0 1 + 1 ≤ X.1 0 1 + 1; exact Nat.le_refl _
    · show X.1 0 2 + (X.1 0 3 + 1) + X.1 0 4 + X.1 0 1 = X.1 0 2 + X.1 0 3 + X.1 0 4 + (X.1 0 1 + 1); omega
theorem pay_sendN {X : qm} {k t m : Nat} (ht : t < 8) : ∀ n, n ≤ 4 → Pay X (m_sendN X k t m n) (n * m_c k) n := by
  intro n
  induction n with
  | zero => intro _; exact pay_le (pay_same (fun _ => rfl) (fun _ => rfl)) (by omega) (by omega)
  | succ n ih =>
    intro hn
    rw [m_sendN]
    have e : (n + 1) * m_c k = n * m_c k + m_c k := by rw [Nat.succ_mul]
    split
    · exact pay_le (pay_trans (ih (by omega)) (pay_send ht (by omega))) (by omega) (by omega)
    · exact pay_le (ih (by omega)) (by omega) (by omega)
theorem pay_decide {X : qm} {t oc : Nat} (ht : t < 8) (hoc : oc = 1 ∨ oc = 2) : Pay X (m_decide X t oc) 8 4 := by
  have a := pay_sendN (X := m_write (xs X 7 t oc) 4 oc t) (k := 2 + oc) (t := t) (m := m_part X t) ht 4 (Nat.le_refl _)
  have b : Pay X (m_write (xs X 7 t oc) 4 oc t) 0 0 := pay_same (fun _ => rfl) (fun _ => rfl)
  have c : m_c (2 + oc) = 2 := by rcases hoc with rfl | rfl <;> decide
  rw [c] at a
  exact pay_le (pay_trans b a) (by omega) (by omega)
theorem pay_become {X : qm} {s t st : Nat} : Pay X (m_become X s t st) 0 0 := pay_same (fun _ => m_become_f _ _ _ (by decide) (by decide) (by decide)) (fun _ => m_become_f _ _ _ (by decide) (by decide) (by decide))
theorem pay_refl {X : qm} : Pay X X 0 0 := pay_same (fun _ => rfl) (fun _ => rfl)
theorem pay_hears {X : qm} (hJ : J X) {k t s : Nat} (hk : k < 7) (ht : t < X.1 0 0) (hs : s < 4) : ∃ c n, Pay X (m_hears X k t s) c n ∧ c + 1 ≤ m_c k ∧ 4 * c + n ≤ 4 * m_c k ∧ n ≤ 4 := by
  have i1 := iV1 hJ.1
  have h8 : t < 8 := by omega
  have i4 := (iV4 hJ.1 t h8).2.2.2.2.2.1
  unfold m_hears
  split
  · next h =>
    subst h
    refine ⟨9, 1, ?_, by decide, by decide, by decide⟩
    unfold m_ask
    split
    · split
      · exact pay_le (pay_trans pay_become (pay_send h8 hs)) (by decide) (by decide)
      · exact pay_le (pay_trans pay_become (pay_send h8 hs)) (by decide) (by decide)
    · split
      · exact pay_le (pay_send h8 hs) (by decide) (by decide)
      · exact pay_le (pay_send h8 hs) (by decide) (by decide)
  split
  · next h =>
    subst h
    refine ⟨8, 4, ?_, by decide, by decide, by decide⟩
    unfold m_hYes
    have b : ∀ v, Pay X (xs X 5 t v) 0 0 := fun v => pay_same (fun _ => rfl) (fun _ => rfl)
    split
    · split
      · exact pay_le (pay_trans (b _) (pay_decide h8 (Or.inl rfl))) (by decide) (by decide)
      · exact pay_le (b _) (by decide) (by decide)
    · exact pay_le pay_refl (by decide) (by decide)
  split
  · next h =>
    subst h
    refine ⟨8, 4, ?_, by decide, by decide, by decide⟩
    unfold m_hNo
    split
    · exact pay_decide h8 (Or.inr rfl)
    · exact pay_le pay_refl (by decide) (by decide)
  split
  · next h =>
    subst h
    refine ⟨1, 1, ?_, by decide, by decide, by decide⟩
    unfold m_mk
    split
    · exact pay_le (pay_trans pay_become (pay_send h8 hs)) (by decide) (by decide)
    · split
      · exact pay_le (pay_send h8 hs) (by decide) (by decide)
      · exact pay_le pay_refl (by decide) (by decide)
  split
  · next h =>
    subst h
    refine ⟨1, 1, ?_, by decide, by decide, by decide⟩
    unfold m_dr
    split
    · exact pay_le (pay_trans pay_become (pay_send h8 hs)) (by decide) (by decide)
    · split
      · exact pay_le (pay_send h8 hs) (by decide) (by decide)
      · exact pay_le pay_refl (by decide) (by decide)
  split
  · next h =>
    subst h
    refine ⟨0, 0, ?_, by decide, by decide, by decide⟩
    unfold m_hDone
    split
    · exact pay_same (fun _ => rfl) (fun _ => rfl)
    · exact pay_same (fun _ => rfl) (fun _ => rfl)
  · obtain rfl : k = 6 := by omega
    unfold m_hWhat
    split
    · exact ⟨0, 0, pay_refl, by decide, by decide, by decide⟩
    · refine ⟨2, 1, ?_, by decide, by decide, by decide⟩
      have c : m_c (2 + X.1 7 t) = 2 := by rcases (show X.1 7 t = 1 ∨ X.1 7 t = 2 by omega) with q | q <;> rw [q] <;> decide
      have := pay_send (X := X) (k := 2 + X.1 7 t) h8 hs
      rw [c] at this; exact this
theorem m_ms_take {X : qm} (p : Nat) : ∀ n, p ≤ n → m_ms (m_takeOut X p) n + m_c (X.1 12 p / 32) = m_ms X (n + 1) := by
  have e : ∀ i, (m_takeOut X p).1 12 i = if i < p then X.1 12 i else X.1 12 (i + 1) := fun i => rfl
  intro n
  induction n with
  | zero => intro h; obtain rfl : p = 0 := by omega
            rw [m_ms, m_ms, m_ms]
  | succ n ih =>
    intro h
    by_cases q : p ≤ n
    · rw [m_ms, e, if_neg (by omega), m_ms]
      have := ih q
      omega
    · obtain rfl : p = n + 1 := by omega
      rw [m_ms, m_ms_congr (X := X) _ (fun k hk => by rw [e, if_pos (by omega)]), e, if_pos (by omega), m_ms, m_ms]
theorem pay_deliver {X : qm} (hJ : J X) {p : Nat} (hp : p < X.1 0 4) : m_meas (m_deliver X p) + 1 ≤ m_meas X ∧ (m_deliver X p).1 0 1 + 4 * m_meas (m_deliver X p) ≤ X.1 0 1 + 4 * m_meas X ∧ (m_deliver X p).1 0 1 ≤ X.1 0 1 + 4 ∧
    (m_deliver X p).1 0 2 + (m_deliver X p).1 0 3 + (m_deliver X p).1 0 4 + X.1 0 1 = X.1 0 2 + X.1 0 3 + X.1 0 4 + (m_deliver X p).1 0 1 := by
  have hm : ∀ j v, m_meas (xs (m_takeOut X p) 0 j v) + m_c (X.1 12 p / 32) = m_meas X ∨ j = 4 := fun j v => by
    by_cases q : j = 4
    · exact Or.inr q
    · refine Or.inl ?_
      unfold m_meas
      have e4 : (xs (m_takeOut X p) 0 j v).1 0 4 = X.1 0 4 - 1 := by
        have : ¬ (4 = j) := fun c => q c.symm
        simp [xs, m_takeOut, this]
      rw [e4, m_ms_congr (X := m_takeOut X p) (Y := xs (m_takeOut X p) 0 j v) _ (fun _ _ => rfl)]
      have := m_ms_take (X := X) p (X.1 0 4 - 1) (by omega)
      rw [this, show X.1 0 4 - 1 + 1 = X.1 0 4 by omega]
  have i10 := iV10 hJ.1 p hp
  have c1 := m_c_1 (X.1 12 p / 32)
  unfold m_deliver
  split
  · have hj : J (xs (m_takeOut X p) 0 2 (X.1 0 2 + 1)) := j_counter (j_takeOut hJ hp) (Or.inr (Or.inl rfl))
    obtain ⟨c, n, ⟨q1, q2, q3⟩, a2, a3, a4⟩ := pay_hears hj (k := X.1 12 p / 32) (t := X.1 12 p / 4 % 8) (s := X.1 12 p % 4) (by omega) i10.2 (by omega)
    have hm2 := (hm 2 (X.1 0 2 + 1)).resolve_right (by decide)
    have e1 : (xs (m_takeOut X p) 0 2 (X.1 0 2 + 1)).1 0 1 = X.1 0 1 := rfl
    have e2 : (xs (m_takeOut X p) 0 2 (X.1 0 2 + 1)).1 0 2 = X.1 0 2 + 1 := rfl
    have e3 : (xs (m_takeOut X p) 0 2 (X.1 0 2 + 1)).1 0 3 = X.1 0 3 := rfl
    have e4 : (xs (m_takeOut X p) 0 2 (X.1 0 2 + 1)).1 0 4 = X.1 0 4 - 1 := rfl
    rw [e1] at q2 q3; rw [e2, e3, e4] at q3
    exact ⟨by omega, by omega, by omega, by omega⟩
  · have hm2 := (hm 3 (X.1 0 3 + 1)).resolve_right (by decide)
    have e1 : (xs (m_takeOut X p) 0 3 (X.1 0 3 + 1)).1 0 1 = X.1 0 1 := rfl
    have e2 : (xs (m_takeOut X p) 0 3 (X.1 0 3 + 1)).1 0 2 = X.1 0 2 := rfl
    have e3 : (xs (m_takeOut X p) 0 3 (X.1 0 3 + 1)).1 0 3 = X.1 0 3 + 1 := rfl
    have e4 : (xs (m_takeOut X p) 0 3 (X.1 0 3 + 1)).1 0 4 = X.1 0 4 - 1 := rfl
    rw [e1, e2, e3, e4]
    exact ⟨by omega, by omega, by omega, by omega⟩
/-! many deliveries -/
def m_first : Nat → qm → qm
  | 0, X => X
  | n + 1, X => if 0 < X.1 0 4 then m_first n (m_deliver X 0) else X
def m_firstN : Nat → qm → Nat
  | 0, _ => 0
  | n + 1, X => if 0 < X.1 0 4 then m_firstN n (m_deliver X 0) + 1 else 0
theorem m_first_none {X : qm} (h : X.1 0 4 = 0) (n : Nat) : m_first n X = X ∧ m_firstN n X = 0 := by
  cases n with
  | zero => exact ⟨rfl, rfl⟩
  | succ n => rw [m_first, m_firstN, if_neg (by omega), if_neg (by omega)]; exact ⟨rfl, rfl⟩
theorem m_first_all : ∀ n m (X : qm), J X → m_meas X ≤ n → m_meas X ≤ m → m_first n X = m_first m X ∧ m_firstN n X = m_firstN m X := by
  intro n
  induction n with
  | zero =>
    intro m X _ h _
    have := (m_ms_b X (X.1 0 4)).1
    unfold m_meas at h
    have z := m_first_none (X := X) (by omega)
    exact ⟨by rw [(z 0).1, (z m).1], by rw [(z 0).2, (z m).2]⟩
  | succ n ih =>
    intro m X hJ h h2
    by_cases q : 0 < X.1 0 4
    · have p := (pay_deliver hJ q).1
      cases m with
      | zero => omega
      | succ m =>
        have a := ih m (m_deliver X 0) (j_deliver hJ q) (by omega) (by omega)
        rw [m_first, m_first, m_firstN, m_firstN, if_pos q, if_pos q, if_pos q, if_pos q, a.1, a.2]
        exact ⟨rfl, rfl⟩
    · have z := m_first_none (X := X) (by omega)
      exact ⟨by rw [(z (n + 1)).1, (z m).1], by rw [(z (n + 1)).2, (z m).2]⟩
theorem m_meas_600 {X : qm} (hJ : J X) : m_meas X ≤ 600 := by
  have := (m_ms_b X (X.1 0 4)).2
  have := iV2 hJ.1
  unfold m_meas
  omega
theorem j_first : ∀ n (X : qm), J X → J (m_first n X) ∧ m_firstN n X ≤ n ∧ (m_first n X).1 0 1 + 4 * m_meas (m_first n X) ≤ X.1 0 1 + 4 * m_meas X ∧ (m_first n X).1 0 1 ≤ X.1 0 1 + 4 * n ∧
    (m_first n X).1 0 2 + (m_first n X).1 0 3 + (m_first n X).1 0 4 + X.1 0 1 = X.1 0 2 + X.1 0 3 + X.1 0 4 + (m_first n X).1 0 1 := by
  intro n
  induction n with
  | zero => intro X h; exact ⟨h, Nat.le_refl _, Nat.le_refl _, Nat.le_refl _, rfl⟩
  | succ n ih =>
    intro X hJ
    rw [m_first, m_firstN]
    by_cases q : 0 < X.1 0 4
    · rw [if_pos q, if_pos q]
      obtain ⟨a1, a2, a3, a4, a5⟩ := ih _ (j_deliver hJ q)
      obtain ⟨b1, b2, b3, b4⟩ := pay_deliver hJ q
      exact ⟨a1, by omega, by omega, by omega, by omega⟩
    · rw [if_neg q, if_neg q]; exact ⟨hJ, by omega, Nat.le_refl _, by omega, rfl⟩
def m_run (X : qm) : qm := m_first 600 X
def m_runN (X : qm) : Nat := m_firstN 600 X
theorem m_run_of {X : qm} (hJ : J X) {n : Nat} (h : 600 ≤ n) : m_first n X = m_run X ∧ m_firstN n X = m_runN X :=
  m_first_all n 600 X hJ (Nat.le_trans (m_meas_600 hJ) h) (m_meas_600 hJ)
/-! up again -/
def m_upStep (X : qm) (k t : Nat) : qm := if k = 4 then m_takesUp X t else if X.1 9 (8 * k + t) = 1 then m_send X 6 t k else X
def m_ups (X : qm) (k : Nat) : Nat → qm
  | 0 => X
  | n + 1 => m_upStep (m_ups X k n) k n
def m_recover (X : qm) (k : Nat) : qm := m_ups (xs X 1 k 1) k (X.1 0 0)
theorem m_takesUp_0 {X : qm} (t : Nat) : (m_takesUp X t).1 0 0 = X.1 0 0 := by
  unfold m_takesUp
  split
  · exact m_decide_0 t 2 (Or.inl rfl)
  · split
    · exact m_sendN_f _ _ _ _ (Or.inr (Or.inl rfl)) (by decide)
    · rfl
theorem m_upStep_0 {X : qm} (k t : Nat) : (m_upStep X k t).1 0 0 = X.1 0 0 := by
  unfold m_upStep
  split
  · exact m_takesUp_0 t
  · split
    · exact m_send_f _ _ _ (Or.inr (Or.inl rfl)) (by decide)
    · rfl
theorem m_ups_0 {X : qm} (k n : Nat) : (m_ups X k n).1 0 0 = X.1 0 0 := by
  induction n with
  | zero => rfl
  | succ n ih => rw [m_ups, m_upStep_0, ih]
theorem j_upStep {X : qm} (hJ : J X) {k t : Nat} (hk : k < 5) (ht : t < X.1 0 0) : J (m_upStep X k t) := by
  unfold m_upStep
  split
  · exact j_takesUp hJ ht
  · split
    · exact j_send hJ (by decide) ht (by omega) (fun h => absurd h (by decide))
    · exact hJ
theorem j_ups {X : qm} (hJ : J X) {k : Nat} (hk : k < 5) : ∀ n, n ≤ X.1 0 0 → J (m_ups X k n) := by
  intro n
  induction n with
  | zero => intro _; exact hJ
  | succ n ih => intro h; exact j_upStep (ih (by omega)) hk (by rw [m_ups_0]; omega)
theorem j_recover {X : qm} (hJ : J X) {k : Nat} (hk : k < 5) : J (m_recover X k) := j_ups (j_up hJ k) hk _ (Nat.le_refl _)
theorem pay_upStep {X : qm} (hJ : J X) {k t : Nat} (hk : k < 5) (ht : t < X.1 0 0) : Pay X (m_upStep X k t) 8 4 := by
  have i1 := iV1 hJ.1
  have h8 : t < 8 := by omega
  have i4 := (iV4 hJ.1 t h8).2.2.2.2.2.1
  unfold m_upStep
  split
  · unfold m_takesUp
    split
    · exact pay_decide h8 (Or.inr rfl)
    · split
      · have c : m_c (2 + X.1 7 t) = 2 := by rcases (show X.1 7 t = 1 ∨ X.1 7 t = 2 by omega) with q | q <;> rw [q] <;> decide
        have := pay_sendN (X := X) (k := 2 + X.1 7 t) (t := t) (m := m_part X t) h8 4 (Nat.le_refl _)
        rw [c] at this; exact this
      · exact pay_le pay_refl (by decide) (by decide)
  · split
    · exact pay_le (pay_send h8 (by omega)) (by decide) (by decide)
    · exact pay_le pay_refl (by decide) (by decide)
theorem pay_ups {X : qm} (hJ : J X) {k : Nat} (hk : k < 5) : ∀ n, n ≤ X.1 0 0 → Pay X (m_ups X k n) (8 * n) (4 * n) := by
  intro n
  induction n with
  | zero => intro _; exact pay_refl
  | succ n ih => intro h; exact pay_le (pay_trans (ih (by omega)) (pay_upStep (j_ups hJ hk n (by omega)) hk (by rw [m_ups_0]; omega))) (by omega) (by omega)
theorem pay_recover {X : qm} (hJ : J X) {k : Nat} (hk : k < 5) : Pay X (m_recover X k) 64 32 := by
  have i1 := iV1 hJ.1
  have b : Pay X (xs X 1 k 1) 0 0 := pay_same (fun _ => rfl) (fun _ => rfl)
  have e : (xs X 1 k 1).1 0 0 = X.1 0 0 := rfl
  exact pay_le (pay_trans b (pay_ups (j_up hJ k) hk (X.1 0 0) (Nat.le_refl _))) (by omega) (by omega)
/-! settled -/
def m_ifUp (X : qm) (k : Nat) : qm := if X.1 1 k = 1 then X else m_recover X k
def m_settleUp (X : qm) : Nat → qm
  | 0 => m_ifUp X 4
  | n + 1 => m_ifUp (m_settleUp X n) n
theorem j_ifUp {X : qm} (hJ : J X) {k : Nat} (hk : k < 5) : J (m_ifUp X k) := by
  unfold m_ifUp
  split
  · exact hJ
  · exact j_recover hJ hk
theorem j_settleUp {X : qm} (hJ : J X) : ∀ n, n ≤ 4 → J (m_settleUp X n) := by
  intro n
  induction n with
  | zero => intro _; exact j_ifUp hJ (by decide)
  | succ n ih => intro h; exact j_ifUp (ih (by omega)) (by omega)
def m_settle (X : qm) : qm := m_run (m_settleUp X 4)
def m_settleN (X : qm) : Nat := m_runN (m_settleUp X 4)
theorem j_settle {X : qm} (hJ : J X) : J (m_settle X) := (j_first 600 _ (j_settleUp hJ 4 (Nat.le_refl _))).1
theorem j_lose {X : qm} (hJ : J X) {p : Nat} (hp : p < X.1 0 4) : J (m_lose X p) := j_takeOut (j_counter hJ (Or.inr (Or.inr rfl))) hp
