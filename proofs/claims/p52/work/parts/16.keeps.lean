/-! WHAT ALWAYS HOLDS, AND EACH STEP KEEPS IT -/
def q_s8 (f : Nat → Nat) : Nat := f 0 + f 1 + f 2 + f 3 + f 4 + f 5 + f 6 + f 7
theorem q_s8_one {f g : Nat → Nat} {t : Nat} (ht : t < 8) (hg : ∀ k, k ≠ t → g k = f k) : q_s8 g + f t = q_s8 f + g t := by
  unfold q_s8
  rcases (show t = 0 ∨ t = 1 ∨ t = 2 ∨ t = 3 ∨ t = 4 ∨ t = 5 ∨ t = 6 ∨ t = 7 by omega) with rfl | rfl | rfl | rfl | rfl | rfl | rfl | rfl <;>
    (have a0 := hg 0; have a1 := hg 1; have a2 := hg 2; have a3 := hg 3; have a4 := hg 4; have a5 := hg 5; have a6 := hg 6; have a7 := hg 7; simp at a0 a1 a2 a3 a4 a5 a6 a7; omega)
theorem q_s8_le {f : Nat → Nat} {n : Nat} (h : ∀ k, k < 8 → f k ≤ n) : q_s8 f ≤ 8 * n := by
  have a0 := h 0 (by decide); have a1 := h 1 (by decide); have a2 := h 2 (by decide); have a3 := h 3 (by decide)
  have a4 := h 4 (by decide); have a5 := h 5 (by decide); have a6 := h 6 (by decide); have a7 := h 7 (by decide)
  unfold q_s8; omega
theorem q_s8_one_le {f : Nat → Nat} {n t : Nat} (ht : t < 8) (h : ∀ k, k < 8 → f k ≤ n) : q_s8 f + n ≤ 8 * n + f t := by
  have h1 := q_s8_one (f := f) (g := fun k => if k = t then n else f k) ht (fun k hk => if_neg hk)
  have h2 := q_s8_le (f := fun k => if k = t then n else f k) (n := n) (fun k hk => by split; exact Nat.le_refl _; exact h k hk)
  simp only [if_true] at h1
  omega
def m_cS (X : qm) (s : Nat) : Nat := q_s8 (fun t => min (X.1 9 (8 * s + t)) 2)
def m_cC (X : qm) : Nat := q_s8 (fun t => min (X.1 7 t) 1 + X.1 8 t)
def J (X : qm) : Prop := Inv X ∧ (∀ s, s < 4 → X.1 10 s ≤ m_cS X s) ∧ X.1 10 4 ≤ X.1 0 0 + m_cC X ∧ (∀ t, t < 8 → m_outLog X t (X.1 10 4) = X.1 7 t) ∧
  (∀ s k, s < 4 → k < X.1 10 s → X.1 11 (32 * s + k) / 8 = 1 ∨ X.1 11 (32 * s + k) / 8 = 2 ∨ X.1 11 (32 * s + k) / 8 = 4) ∧
  (∀ k, k < X.1 0 4 → X.1 12 k / 32 = 0 → m_part X (X.1 12 k / 4 % 8) / 2 ^ (X.1 12 k % 4) % 2 = 1) ∧
  (∀ t, t < X.1 0 0 → X.1 3 t / 2 ^ X.1 2 t % 2 = 0 ∧ 1 ≤ X.1 3 t ∧ 1 ≤ X.1 4 t)
theorem m_outLog_congr {X Y : qm} (t : Nat) : ∀ n, (∀ k, k < n → Y.1 11 (32 * 4 + k) = X.1 11 (32 * 4 + k)) → m_outLog Y t n = m_outLog X t n := by
  intro n
  induction n with
  | zero => intro _; rfl
  | succ n ih => intro h; rw [m_outLog, m_outLog, h n (by omega), ih (fun k hk => h k (by omega))]
theorem j_cS_lt {X : qm} (hJ : J X) {s t : Nat} (hs : s < 4) (ht : t < 8) (h : X.1 9 (8 * s + t) ≤ 1) : X.1 10 s < 16 := by
  have h1 := hJ.2.1 s hs
  have h2 := q_s8_one_le (f := fun t => min (X.1 9 (8 * s + t)) 2) (n := 2) ht (fun k _ => by omega)
  unfold m_cS at h1
  omega
theorem j_cC_le {X : qm} (hJ : J X) {t : Nat} (ht : t < X.1 0 0) (n : Nat) (h : min (X.1 7 t) 1 + X.1 8 t ≤ n) : X.1 10 4 + 2 ≤ 24 + n := by
  have h1 := hJ.2.2.1
  have i1 := iV1 hJ.1
  have h2 := q_s8_one_le (f := fun t => min (X.1 7 t) 1 + X.1 8 t) (n := 2) (t := t) (by omega) (fun k hk => by have := (iV4 hJ.1 k hk).2.2.2.2.2.2; omega)
  unfold m_cC at h1
  omega
theorem j_len7 {X : qm} (hJ : J X) {t : Nat} (ht : t < X.1 0 0) (h : X.1 7 t = 0) : X.1 10 4 < 24 := by
  have i1 := iV1 hJ.1
  have h3 := (iV4 hJ.1 t (by omega)).2.2.2.2.2.2
  have := j_cC_le hJ ht 1 (by omega)
  omega
theorem j_len8 {X : qm} (hJ : J X) {t : Nat} (ht : t < X.1 0 0) (h : X.1 8 t = 0) : X.1 10 4 < 24 := by
  have := j_cC_le hJ ht 1 (by omega)
  omega
theorem j_lenT {X : qm} (hJ : J X) (h : X.1 0 0 < 8) : X.1 10 4 < 24 := by
  have h1 := hJ.2.2.1
  have h4 := iV5 hJ.1 7 (by omega) (by omega)
  have h2 := q_s8_one_le (f := fun t => min (X.1 7 t) 1 + X.1 8 t) (n := 2) (t := 7) (by omega) (fun k hk => by have := (iV4 hJ.1 k hk).2.2.2.2.2.2; omega)
  unfold m_cC at h1
  omega
theorem j_L {X : qm} (hJ : J X) : ∀ s, s < 5 → X.1 10 s ≤ 24 := fun s hs => by
  have a := iV7 hJ.1; have b := iV8 hJ.1
  rcases Nat.lt_or_ge s 4 with q | q
  · have := a s q; omega
  · rw [show s = 4 by omega]; exact b
theorem j_counter {X : qm} (hJ : J X) {j v : Nat} (hj : j = 1 ∨ j = 2 ∨ j = 3) : J (xs X 0 j v) := by
  obtain ⟨⟨i1, i2, i3, i4, i5, i6, i7, i8, i9, i10⟩, j1, j2, j3, j4, j5, j6⟩ := hJ
  rcases hj with rfl | rfl | rfl <;> exact ⟨⟨i1, i2, i3, i4, i5, i6, i7, i8, i9, i10⟩, j1, j2, fun t ht => Eq.trans (m_outLog_congr (X := X) t _ (fun _ _ => rfl)) (j3 t ht), j4, j5, j6⟩
theorem j_send {X : qm} (hJ : J X) {k t s : Nat} (hk : k < 7) (ht : t < X.1 0 0) (hs : s < 4) (hp : k = 0 → m_part X t / 2 ^ s % 2 = 1) : J (m_send X k t s) := by
  unfold m_send
  split
  · next h =>
    obtain ⟨⟨i1, i2, i3, i4, i5, i6, i7, i8, i9, i10⟩, j1, j2, j3, j4, j5, j6⟩ := hJ
    have e12 : ∀ k', (xs (xs (xs X 0 1 (X.1 0 1 + 1)) 12 (X.1 0 4) (32 * k + 4 * t + s)) 0 4 (X.1 0 4 + 1)).1 12 k' = if k' = X.1 0 4 then 32 * k + 4 * t + s else X.1 12 k' := fun k' => by simp [xs]
    have e4 : (xs (xs (xs X 0 1 (X.1 0 1 + 1)) 12 (X.1 0 4) (32 * k + 4 * t + s)) 0 4 (X.1 0 4 + 1)).1 0 4 = X.1 0 4 + 1 := by simp [xs]
    refine ⟨⟨i1, ?_, i3, i4, i5, i6, i7, i8, i9, ?_⟩, j1, j2, ?_, j4, ?_, j6⟩
    · rw [e4]; omega
    · intro k' hk'
      rw [e4] at hk'; rw [e12]
      show _ ∧ _ < X.1 0 0
      by_cases q : k' = X.1 0 4
      · rw [if_pos q]; refine ⟨by omega, by omega⟩
      · rw [if_neg q]; exact i10 k' (by omega)
    · intro t2 h2
      exact Eq.trans (m_outLog_congr (X := X) t2 _ (fun _ _ => rfl)) (j3 t2 h2)
    · intro k' hk' h0
      rw [e4] at hk'; rw [e12] at h0 ⊢
      by_cases q : k' = X.1 0 4
      · rw [if_pos q] at h0 ⊢
        rw [show (32 * k + 4 * t + s) / 4 % 8 = t by omega, show (32 * k + 4 * t + s) % 4 = s by omega]
        exact hp (by omega)
      · rw [if_neg q] at h0 ⊢; exact j5 k' (by omega) h0
  · exact j_counter (j_counter hJ (Or.inl rfl)) (Or.inr (Or.inr rfl))
theorem m_send_f {X : qm} (k t s : Nat) {f i : Nat} (h0 : f ≠ 0 ∨ i = 0 ∨ i = 2) (h12 : f ≠ 12) : (m_send X k t s).1 f i = X.1 f i := by
  unfold m_send
  rcases h0 with h0 | rfl | rfl
  · split <;> simp [xs, h0, h12]
  · split <;> simp [xs, h12]
  · split <;> simp [xs, h12]
theorem m_send_2 {X : qm} (k t s : Nat) : (m_send X k t s).2 = X.2 := by
  unfold m_send; split <;> rfl
theorem m_sendN_f {X : qm} (k t m n : Nat) {f i : Nat} (h0 : f ≠ 0 ∨ i = 0 ∨ i = 2) (h12 : f ≠ 12) : (m_sendN X k t m n).1 f i = X.1 f i := by
  induction n with
  | zero => rfl
  | succ n ih =>
    rw [m_sendN]; split
    · rw [m_send_f _ _ _ h0 h12, ih]
    · exact ih
theorem m_sendN_2 {X : qm} (k t m n : Nat) : (m_sendN X k t m n).2 = X.2 := by
  induction n with
  | zero => rfl
  | succ n ih =>
    rw [m_sendN]; split
    · rw [m_send_2, ih]
    · exact ih
theorem j_sendN {X : qm} (hJ : J X) {k t m : Nat} (hk : k < 7) (ht : t < X.1 0 0) (hp : k = 0 → ∀ s, s < 4 → m / 2 ^ s % 2 = 1 → m_part X t / 2 ^ s % 2 = 1) : ∀ n, n ≤ 4 → J (m_sendN X k t m n) := by
  intro n
  induction n with
  | zero => intro _; exact hJ
  | succ n ih =>
    intro hn
    rw [m_sendN]
    split
    · next h =>
      refine j_send (ih (by omega)) hk (by rw [m_sendN_f _ _ _ _ (Or.inr (Or.inl rfl)) (by decide)]; exact ht) (by omega) (fun h0 => ?_)
      unfold m_part
      rw [m_sendN_f _ _ _ _ (Or.inl (by decide)) (by decide), m_sendN_f _ _ _ _ (Or.inl (by decide)) (by decide)]
      exact hp h0 n (by omega) h
    · exact ih (by omega)
theorem j_takeOut {X : qm} (hJ : J X) {p : Nat} (hp : p < X.1 0 4) : J (m_takeOut X p) := by
  obtain ⟨⟨i1, i2, i3, i4, i5, i6, i7, i8, i9, i10⟩, j1, j2, j3, j4, j5, j6⟩ := hJ
  refine ⟨⟨i1, ?_, i3, i4, i5, i6, i7, i8, i9, ?_⟩, j1, j2, ?_, j4, ?_, j6⟩
  · show X.1 0 4 - 1 ≤ 60; omega
  · intro k hk
    have hk : k < X.1 0 4 - 1 := hk
    show (if k < p then X.1 12 k else X.1 12 (k + 1)) < 224 ∧ (if k < p then X.1 12 k else X.1 12 (k + 1)) / 4 % 8 < X.1 0 0
    split
    · exact i10 k (by omega)
    · exact i10 (k + 1) (by omega)
  · intro t2 h2
    exact Eq.trans (m_outLog_congr (X := X) t2 _ (fun _ _ => rfl)) (j3 t2 h2)
  · intro k hk
    have hk : k < X.1 0 4 - 1 := hk
    show (if k < p then X.1 12 k else X.1 12 (k + 1)) / 32 = 0 → m_part X ((if k < p then X.1 12 k else X.1 12 (k + 1)) / 4 % 8) / 2 ^ ((if k < p then X.1 12 k else X.1 12 (k + 1)) % 4) % 2 = 1
    split
    · exact j5 k (by omega)
    · exact j5 (k + 1) (by omega)
theorem j_yes {X : qm} (hJ : J X) {t v : Nat} (ht : t < X.1 0 0) (hv : v < 16) : J (xs X 5 t v) := by
  obtain ⟨⟨i1, i2, i3, i4, i5, i6, i7, i8, i9, i10⟩, j1, j2, j3, j4, j5, j6⟩ := hJ
  have e : ∀ i, (xs X 5 t v).1 5 i = if i = t then v else X.1 5 i := fun i => by simp [xs]
  refine ⟨⟨i1, i2, i3, ?_, ?_, i6, i7, i8, i9, i10⟩, j1, j2, ?_, j4, j5, j6⟩
  · intro t2 h2
    have q := i4 t2 h2
    refine ⟨q.1, q.2.1, q.2.2.1, ?_, q.2.2.2.2.1, q.2.2.2.2.2.1, q.2.2.2.2.2.2⟩
    rw [e]; split; exact hv; exact q.2.2.2.1
  · intro t2 h1 h2
    have h1 : X.1 0 0 ≤ t2 := h1
    have q := i5 t2 h1 h2
    refine ⟨q.1, q.2.1, q.2.2.1, ?_, q.2.2.2.2.1, q.2.2.2.2.2.1, q.2.2.2.2.2.2⟩
    rw [e, if_neg (by omega)]; exact q.2.2.2.1
  · intro t2 h2
    exact Eq.trans (m_outLog_congr (X := X) t2 _ (fun _ _ => rfl)) (j3 t2 h2)
theorem j_done {X : qm} (hJ : J X) {t v : Nat} (ht : t < X.1 0 0) (hv : v < 16) : J (xs X 6 t v) := by
  obtain ⟨⟨i1, i2, i3, i4, i5, i6, i7, i8, i9, i10⟩, j1, j2, j3, j4, j5, j6⟩ := hJ
  have e : ∀ i, (xs X 6 t v).1 6 i = if i = t then v else X.1 6 i := fun i => by simp [xs]
  refine ⟨⟨i1, i2, i3, ?_, ?_, i6, i7, i8, i9, i10⟩, j1, j2, ?_, j4, j5, j6⟩
  · intro t2 h2
    have q := i4 t2 h2
    refine ⟨q.1, q.2.1, q.2.2.1, q.2.2.2.1, ?_, q.2.2.2.2.2.1, q.2.2.2.2.2.2⟩
    rw [e]; split; exact hv; exact q.2.2.2.2.1
  · intro t2 h1 h2
    have h1 : X.1 0 0 ≤ t2 := h1
    have q := i5 t2 h1 h2
    refine ⟨q.1, q.2.1, q.2.2.1, q.2.2.2.1, ?_, q.2.2.2.2.2.1, q.2.2.2.2.2.2⟩
    rw [e, if_neg (by omega)]; exact q.2.2.2.2.1
  · intro t2 h2
    exact Eq.trans (m_outLog_congr (X := X) t2 _ (fun _ _ => rfl)) (j3 t2 h2)
/-- a record of the clerk -/
theorem e11_4 (X : qm) (kd t k : Nat) : (m_write X 4 kd t).1 11 (32 * 4 + k) = if k = X.1 10 4 then 8 * kd + t else X.1 11 (32 * 4 + k) := by
  simp [m_write, xs]
theorem e11_s (X : qm) {s : Nat} (hs : s < 4) (hl : X.1 10 4 < 32) (kd t k : Nat) (hk : k < 32) : (m_write X 4 kd t).1 11 (32 * s + k) = X.1 11 (32 * s + k) := by
  simp [m_write, xs]; omega
theorem m_outLog_write (X : qm) (kd t t2 : Nat) (ht : t < 8) (h2 : t2 < 8) : m_outLog (m_write X 4 kd t) t2 (X.1 10 4 + 1) = if t2 = t then (if kd = 1 then 1 else if kd = 2 then 2 else m_outLog X t2 (X.1 10 4)) else m_outLog X t2 (X.1 10 4) := by
  rw [m_outLog, e11_4, if_pos rfl, m_outLog_congr (X := X) t2 (X.1 10 4) (fun k hk => by rw [e11_4, if_neg (by omega)]),
    show (8 * kd + t) % 8 = t by omega, show (8 * kd + t) / 8 = kd by omega]
  by_cases q : t2 = t
  · rw [if_pos q, if_pos q.symm]
  · rw [if_neg q, if_neg (fun e => q e.symm)]
theorem j_write4 {X : qm} (hJ : J X) {kd t : Nat} (hk : kd < 5) (ht : t < X.1 0 0) (hl : X.1 10 4 < 24) :
    (∀ s, s < 4 → (m_write X 4 kd t).1 10 s ≤ 16) ∧ (m_write X 4 kd t).1 10 4 = X.1 10 4 + 1 ∧ (∀ s, s < 4 → (m_write X 4 kd t).1 10 s = X.1 10 s) ∧
    (∀ s k, s < 5 → k < (m_write X 4 kd t).1 10 s → (m_write X 4 kd t).1 11 (32 * s + k) < 40 ∧ (m_write X 4 kd t).1 11 (32 * s + k) % 8 < X.1 0 0) ∧
    (∀ s k, s < 4 → k < (m_write X 4 kd t).1 10 s → (m_write X 4 kd t).1 11 (32 * s + k) / 8 = 1 ∨ (m_write X 4 kd t).1 11 (32 * s + k) / 8 = 2 ∨ (m_write X 4 kd t).1 11 (32 * s + k) / 8 = 4) := by
  have i1 := iV1 hJ.1
  have e4 : (m_write X 4 kd t).1 10 4 = X.1 10 4 + 1 := by simp [m_write, xs]
  have es : ∀ s, s < 4 → (m_write X 4 kd t).1 10 s = X.1 10 s := fun s hs => by
    have : s ≠ 4 := by omega
    simp [m_write, xs, this]
  refine ⟨fun s hs => by rw [es s hs]; exact iV7 hJ.1 s hs, e4, es, fun s k hs hk2 => ?_, fun s k hs hk2 => ?_⟩
  · rcases Nat.lt_or_ge s 4 with q | q
    · rw [es s q] at hk2
      have := iV7 hJ.1 s q
      rw [e11_s X q (by omega) _ _ _ (by omega)]; exact iV9 hJ.1 s k hs hk2
    · obtain rfl : s = 4 := by omega
      rw [e4] at hk2
      rw [e11_4]
      by_cases q2 : k = X.1 10 4
      · rw [if_pos q2]; refine ⟨by omega, by omega⟩
      · rw [if_neg q2]; exact iV9 hJ.1 4 k hs (by omega)
  · rw [es s hs] at hk2
    have := iV7 hJ.1 s hs
    rw [e11_s X hs (by omega) _ _ _ (by omega)]; exact hJ.2.2.2.2.1 s k hs hk2
