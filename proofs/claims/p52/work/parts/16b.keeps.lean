theorem q_s8_congr {f g : Nat → Nat} (h : ∀ k, k < 8 → g k = f k) : q_s8 g = q_s8 f := by
  unfold q_s8
  rw [h 0 (by decide), h 1 (by decide), h 2 (by decide), h 3 (by decide), h 4 (by decide), h 5 (by decide), h 6 (by decide), h 7 (by decide)]
theorem j_decCore {X : qm} (hJ : J X) {t oc : Nat} (ht : t < X.1 0 0) (h0 : X.1 7 t = 0) (hoc : oc = 1 ∨ oc = 2) : J (m_write (xs X 7 t oc) 4 oc t) := by
  have hl := j_len7 hJ ht h0
  obtain ⟨w1, w2, w3, w4, w5⟩ := j_write4 hJ (kd := oc) (t := t) (by omega) ht hl
  obtain ⟨⟨i1, i2, i3, i4, i5, i6, i7, i8, i9, i10⟩, j1, j2, j3, j4, j5, j6⟩ := hJ
  have e : ∀ i, (m_write (xs X 7 t oc) 4 oc t).1 7 i = if i = t then oc else X.1 7 i := fun i => by simp [m_write, xs]
  refine ⟨⟨i1, i2, i3, ?_, ?_, i6, w1, ?_, w4, i10⟩, ?_, ?_, ?_, w5, j5, j6⟩
  · intro t2 h2
    have q := i4 t2 h2
    refine ⟨q.1, q.2.1, q.2.2.1, q.2.2.2.1, q.2.2.2.2.1, ?_, q.2.2.2.2.2.2⟩
    rw [e]; split; omega; exact q.2.2.2.2.2.1
  · intro t2 h1 h2
    have h1 : X.1 0 0 ≤ t2 := h1
    have q := i5 t2 h1 h2
    refine ⟨q.1, q.2.1, q.2.2.1, q.2.2.2.1, q.2.2.2.2.1, ?_, q.2.2.2.2.2.2⟩
    rw [e, if_neg (by omega)]; exact q.2.2.2.2.2.1
  · exact (show (m_write X 4 oc t).1 10 4 ≤ 24 by rw [w2]; omega)
  · intro s hs; exact (show (m_write X 4 oc t).1 10 s ≤ m_cS X s by rw [w3 s hs]; exact j1 s hs)
  · have c := q_s8_one (f := fun t => min (X.1 7 t) 1 + X.1 8 t) (g := fun i => min (if i = t then oc else X.1 7 i) 1 + X.1 8 i) (t := t) (by omega) (fun k hk => by rw [if_neg hk])
    show (m_write X 4 oc t).1 10 4 ≤ X.1 0 0 + q_s8 (fun i => min ((m_write (xs X 7 t oc) 4 oc t).1 7 i) 1 + X.1 8 i)
    simp only [e]
    rw [w2]
    unfold m_cC at j2
    simp only [if_true] at c
    omega
  · intro t2 h2
    rw [e]
    refine Eq.trans (b := m_outLog (m_write X 4 oc t) t2 (X.1 10 4 + 1)) ?_ ?_
    · show m_outLog (m_write (xs X 7 t oc) 4 oc t) t2 ((m_write X 4 oc t).1 10 4) = _
      rw [w2]; exact m_outLog_congr t2 _ (fun _ _ => rfl)
    · rw [m_outLog_write X oc t t2 (by omega) h2, j3 t2 h2]
      by_cases q : t2 = t
      · rw [if_pos q, if_pos q]; rcases hoc with rfl | rfl <;> rfl
      · rw [if_neg q, if_neg q]
theorem j_decide {X : qm} (hJ : J X) {t oc : Nat} (ht : t < X.1 0 0) (h0 : X.1 7 t = 0) (hoc : oc = 1 ∨ oc = 2) : J (m_decide X t oc) :=
  j_sendN (j_decCore hJ ht h0 hoc) (by omega) ht (fun h => absurd h (by omega)) 4 (Nat.le_refl _)
theorem j_endCore {X : qm} (hJ : J X) {t : Nat} (ht : t < X.1 0 0) (h0 : X.1 8 t = 0) : J (xs (m_write X 4 3 t) 8 t 1) := by
  have hl := j_len8 hJ ht h0
  obtain ⟨w1, w2, w3, w4, w5⟩ := j_write4 hJ (kd := 3) (t := t) (by omega) ht hl
  obtain ⟨⟨i1, i2, i3, i4, i5, i6, i7, i8, i9, i10⟩, j1, j2, j3, j4, j5, j6⟩ := hJ
  have e : ∀ i, (xs (m_write X 4 3 t) 8 t 1).1 8 i = if i = t then 1 else X.1 8 i := fun i => by simp [m_write, xs]
  refine ⟨⟨i1, i2, i3, ?_, ?_, i6, w1, ?_, w4, i10⟩, ?_, ?_, ?_, w5, j5, j6⟩
  · intro t2 h2
    have q := i4 t2 h2
    refine ⟨q.1, q.2.1, q.2.2.1, q.2.2.2.1, q.2.2.2.2.1, q.2.2.2.2.2.1, ?_⟩
    rw [e]; split; omega; exact q.2.2.2.2.2.2
  · intro t2 h1 h2
    have h1 : X.1 0 0 ≤ t2 := h1
    have q := i5 t2 h1 h2
    refine ⟨q.1, q.2.1, q.2.2.1, q.2.2.2.1, q.2.2.2.2.1, q.2.2.2.2.2.1, ?_⟩
    rw [e, if_neg (by omega)]; exact q.2.2.2.2.2.2
  · exact (show (m_write X 4 3 t).1 10 4 ≤ 24 by rw [w2]; omega)
  · intro s hs; exact (show (m_write X 4 3 t).1 10 s ≤ m_cS X s by rw [w3 s hs]; exact j1 s hs)
  · have c := q_s8_one (f := fun t => min (X.1 7 t) 1 + X.1 8 t) (g := fun i => min (X.1 7 i) 1 + (if i = t then 1 else X.1 8 i)) (t := t) (by omega) (fun k hk => by rw [if_neg hk])
    show (m_write X 4 3 t).1 10 4 ≤ X.1 0 0 + q_s8 (fun i => min (X.1 7 i) 1 + (xs (m_write X 4 3 t) 8 t 1).1 8 i)
    simp only [e]
    rw [w2]
    unfold m_cC at j2
    simp only [if_true] at c
    omega
  · intro t2 h2
    refine Eq.trans (b := m_outLog (m_write X 4 3 t) t2 (X.1 10 4 + 1)) ?_ ?_
    · show m_outLog (xs (m_write X 4 3 t) 8 t 1) t2 ((m_write X 4 3 t).1 10 4) = _
      rw [w2]; exact m_outLog_congr t2 _ (fun _ _ => rfl)
    · rw [m_outLog_write X 3 t t2 (by omega) h2, j3 t2 h2]
      show (if t2 = t then X.1 7 t2 else X.1 7 t2) = X.1 7 t2
      split <;> rfl
theorem j_becCore {X : qm} (hJ : J X) {s t kd st : Nat} (hs : s < 4) (ht : t < X.1 0 0) (hk : kd = 1 ∨ kd = 2 ∨ kd = 4) (hst : st ≤ 3) (h01 : X.1 9 (8 * s + t) ≤ 1) (h1 : X.1 9 (8 * s + t) < min st 2) : J (xs (m_write X s kd t) 9 (8 * s + t) st) := by
  have i1 := iV1 hJ.1
  have hl := j_cS_lt hJ hs (by omega) h01
  obtain ⟨⟨i1, i2, i3, i4, i5, i6, i7, i8, i9, i10⟩, j1, j2, j3, j4, j5, j6⟩ := hJ
  have e9 : ∀ i, (xs (m_write X s kd t) 9 (8 * s + t) st).1 9 i = if i = 8 * s + t then st else X.1 9 i := fun i => by simp [m_write, xs]
  have e10 : ∀ s2, (xs (m_write X s kd t) 9 (8 * s + t) st).1 10 s2 = if s2 = s then X.1 10 s + 1 else X.1 10 s2 := fun i => by simp [m_write, xs]
  have e11 : ∀ s2 k, k < 32 → (xs (m_write X s kd t) 9 (8 * s + t) st).1 11 (32 * s2 + k) = if s2 = s ∧ k = X.1 10 s then 8 * kd + t else X.1 11 (32 * s2 + k) := fun s2 k hk2 => by
    simp only [m_write, xs]
    by_cases q : s2 = s ∧ k = X.1 10 s
    · obtain ⟨rfl, rfl⟩ := q; simp
    · rw [if_neg q]
      have : ¬ (32 * s2 + k = 32 * s + X.1 10 s) := by omega
      simp [this]
  refine ⟨⟨i1, i2, i3, i4, i5, ?_, ?_, ?_, ?_, i10⟩, ?_, ?_, ?_, ?_, j5, j6⟩
  · intro s2 t2 hs2 ht2
    rw [e9]
    show _ ∧ (X.1 0 0 ≤ t2 → _)
    split
    · exact ⟨hst, fun _ => by omega⟩
    · exact i6 s2 t2 hs2 ht2
  · intro s2 hs2
    rw [e10]; split; omega; exact i7 s2 hs2
  · rw [e10, if_neg (by omega)]; exact i8
  · intro s2 k hs2 hk2
    have b : X.1 10 s2 ≤ 24 := (Nat.lt_or_ge s2 4).elim (fun q => Nat.le_trans (i7 s2 q) (by decide)) (fun q => by rw [show s2 = 4 by omega]; exact i8)
    rw [e10] at hk2
    show _ ∧ _ < X.1 0 0
    by_cases q : s2 = s
    · rw [if_pos q] at hk2
      rw [e11 s2 k (by omega)]
      by_cases q2 : k = X.1 10 s
      · rw [if_pos ⟨q, q2⟩]; omega
      · rw [if_neg (fun c => q2 c.2)]; subst q; exact i9 s2 k hs2 (by omega)
    · rw [if_neg q] at hk2
      rw [e11 s2 k (by omega), if_neg (fun c => q c.1)]; exact i9 s2 k hs2 hk2
  · intro s2 hs2
    rw [e10]
    show _ ≤ q_s8 (fun i => min ((xs (m_write X s kd t) 9 (8 * s + t) st).1 9 (8 * s2 + i)) 2)
    simp only [e9]
    by_cases q : s2 = s
    · subst q
      rw [if_pos rfl]
      have c := q_s8_one (f := fun t => min (X.1 9 (8 * s2 + t)) 2) (g := fun i => min (if 8 * s2 + i = 8 * s2 + t then st else X.1 9 (8 * s2 + i)) 2) (t := t) (by omega) (fun k hk => by rw [if_neg (by omega)])
      have d := j1 s2 hs2
      unfold m_cS at d
      simp only [if_true] at c
      omega
    · rw [if_neg q, q_s8_congr (f := fun t => min (X.1 9 (8 * s2 + t)) 2) (fun k hk => by rw [if_neg (by omega)])]
      exact j1 s2 hs2
  · rw [e10, if_neg (by omega)]; exact j2
  · intro t2 h2
    rw [e10, if_neg (by omega)]
    exact Eq.trans (m_outLog_congr (X := X) t2 _ (fun k hk => by rw [e11 4 k (by omega), if_neg (by omega)])) (j3 t2 h2)
  · intro s2 k hs2 hk2
    have b := i7 s2 hs2
    rw [e10] at hk2
    by_cases q : s2 = s
    · rw [if_pos q] at hk2
      rw [e11 s2 k (by omega)]
      by_cases q2 : k = X.1 10 s
      · rw [if_pos ⟨q, q2⟩]; omega
      · rw [if_neg (fun c => q2 c.2)]; subst q; exact j4 s2 k hs2 (by omega)
    · rw [if_neg q] at hk2
      rw [e11 s2 k (by omega), if_neg (fun c => q c.1)]; exact j4 s2 k hs2 hk2
theorem j_xa {X : qm} (hJ : J X) (i : Nat) (v : Int32) : J (xa X i v) := by
  obtain ⟨⟨i1, i2, i3, i4, i5, i6, i7, i8, i9, i10⟩, j1, j2, j3, j4, j5, j6⟩ := hJ
  exact ⟨⟨i1, i2, i3, i4, i5, i6, i7, i8, i9, i10⟩, j1, j2, fun t ht => Eq.trans (m_outLog_congr (X := X) t _ (fun _ _ => rfl)) (j3 t ht), j4, j5, j6⟩
theorem j_become {X : qm} (hJ : J X) {s t st : Nat} (hs : s < 4) (ht : t < X.1 0 0) (h : (X.1 9 (8 * s + t) = 0 ∧ (st = 1 ∨ st = 3)) ∨ (X.1 9 (8 * s + t) = 1 ∧ (st = 2 ∨ st = 3))) : J (m_become X s t st) := by
  have hk : m_kd st = 1 ∨ m_kd st = 2 ∨ m_kd st = 4 := by
    rcases h with ⟨_, rfl | rfl⟩ | ⟨_, rfl | rfl⟩ <;> decide
  have hc := j_becCore hJ (kd := m_kd st) (st := st) hs ht hk (by omega) (by omega) (by omega)
  unfold m_become
  split
  · exact j_xa hc _ _
  · exact hc
theorem m_become_f {X : qm} (s t st : Nat) {f i : Nat} (h9 : f ≠ 9) (h10 : f ≠ 10) (h11 : f ≠ 11) : (m_become X s t st).1 f i = X.1 f i := by
  unfold m_become
  split <;> simp [m_write, xs, xa, h9, h10, h11]
def m_begin (X : qm) (f to sz : Nat) : qm := m_sendN (m_write (xs (xs (xs (xs X 0 0 (X.1 0 0 + 1)) 2 (X.1 0 0) f) 3 (X.1 0 0) to) 4 (X.1 0 0) sz) 4 0 (X.1 0 0)) 0 (X.1 0 0) (to ||| 2 ^ f) 4
theorem j_begin {X : qm} (hJ : J X) {f to sz : Nat} (hT : X.1 0 0 < 8) (hf : f < 4) (ht1 : 1 ≤ to) (ht : to < 16) (hb : to / 2 ^ f % 2 = 0) (hz1 : 1 ≤ sz) (hz : sz ≤ 50) : J (m_begin X f to sz) := by
  have hl := j_lenT hJ hT
  have hc : J (m_write (xs (xs (xs (xs X 0 0 (X.1 0 0 + 1)) 2 (X.1 0 0) f) 3 (X.1 0 0) to) 4 (X.1 0 0) sz) 4 0 (X.1 0 0)) := by
    obtain ⟨⟨i1, i2, i3, i4, i5, i6, i7, i8, i9, i10⟩, j1, j2, j3, j4, j5, j6⟩ := hJ
    generalize hY : m_write (xs (xs (xs (xs X 0 0 (X.1 0 0 + 1)) 2 (X.1 0 0) f) 3 (X.1 0 0) to) 4 (X.1 0 0) sz) 4 0 (X.1 0 0) = Y
    have e0 : Y.1 0 0 = X.1 0 0 + 1 := by subst hY; simp [m_write, xs]
    have e04 : Y.1 0 4 = X.1 0 4 := by subst hY; rfl
    have e1 : ∀ i, Y.1 1 i = X.1 1 i := fun i => by subst hY; rfl
    have e2 : ∀ i, Y.1 2 i = if i = X.1 0 0 then f else X.1 2 i := fun i => by subst hY; simp [m_write, xs]
    have e3 : ∀ i, Y.1 3 i = if i = X.1 0 0 then to else X.1 3 i := fun i => by subst hY; simp [m_write, xs]
    have e4 : ∀ i, Y.1 4 i = if i = X.1 0 0 then sz else X.1 4 i := fun i => by subst hY; simp [m_write, xs]
    have e5 : ∀ i, Y.1 5 i = X.1 5 i := fun i => by subst hY; rfl
    have e6 : ∀ i, Y.1 6 i = X.1 6 i := fun i => by subst hY; rfl
    have e7 : ∀ i, Y.1 7 i = X.1 7 i := fun i => by subst hY; rfl
    have e8 : ∀ i, Y.1 8 i = X.1 8 i := fun i => by subst hY; rfl
    have e9 : ∀ i, Y.1 9 i = X.1 9 i := fun i => by subst hY; rfl
    have e12 : ∀ i, Y.1 12 i = X.1 12 i := fun i => by subst hY; rfl
    have e10 : ∀ s, Y.1 10 s = if s = 4 then X.1 10 4 + 1 else X.1 10 s := fun s => by subst hY; simp [m_write, xs]
    have e114 : ∀ k, Y.1 11 (32 * 4 + k) = if k = X.1 10 4 then X.1 0 0 else X.1 11 (32 * 4 + k) := fun k => by subst hY; simp [m_write, xs]
    have e11 : ∀ s k, s < 4 → k < 32 → Y.1 11 (32 * s + k) = X.1 11 (32 * s + k) := fun s k hs hk => by
      subst hY
      have : ¬ (32 * s + k = 32 * 4 + X.1 10 4) := by omega
      simp [m_write, xs]; omega
    clear hY
    refine ⟨⟨?_, ?_, ?_, ?_, ?_, ?_, ?_, ?_, ?_, ?_⟩, ?_, ?_, ?_, ?_, ?_, ?_⟩
    · omega
    · omega
    · intro k hk; rw [e1]; exact i3 k hk
    · intro t h2
      have q := i4 t h2
      rw [e2, e3, e4, e5, e6, e7, e8]
      refine ⟨?_, ?_, ?_, q.2.2.2⟩
      · split; exact hf; exact q.1
      · split; exact ht; exact q.2.1
      · split; exact hz; exact q.2.2.1
    · intro t h1 h2
      rw [e0] at h1
      rw [e2, e3, e4, e5, e6, e7, e8, if_neg (by omega), if_neg (by omega), if_neg (by omega)]
      exact i5 t (by omega) h2
    · intro s t h1 h2
      rw [e9, e0]
      exact ⟨(i6 s t h1 h2).1, fun h3 => (i6 s t h1 h2).2 (by omega)⟩
    · intro s hs; rw [e10, if_neg (by omega)]; exact i7 s hs
    · rw [e10, if_pos rfl]; omega
    · intro s k hs hk
      rw [e0]
      rw [e10] at hk
      rcases Nat.lt_or_ge s 4 with q | q
      · rw [if_neg (by omega)] at hk
        have := i7 s q
        rw [e11 s k q (by omega)]
        have := i9 s k hs hk
        exact ⟨this.1, by omega⟩
      · obtain rfl : s = 4 := by omega
        rw [if_pos rfl] at hk
        rw [e114]
        by_cases q2 : k = X.1 10 4
        · rw [if_pos q2]; omega
        · rw [if_neg q2]; have := i9 4 k hs (by omega); exact ⟨this.1, by omega⟩
    · intro k hk
      rw [e12, e0]; rw [e04] at hk
      have := i10 k hk
      exact ⟨this.1, by omega⟩
    · intro s hs
      rw [e10, if_neg (by omega)]
      unfold m_cS; simp only [e9]; exact j1 s hs
    · rw [e10, if_pos rfl, e0]
      unfold m_cC; simp only [e7, e8]
      unfold m_cC at j2
      omega
    · intro t h2
      rw [e10, if_pos rfl, e7, m_outLog, e114, if_pos rfl, m_outLog_congr (X := X) t (X.1 10 4) (fun k hk => by rw [e114, if_neg (by omega)]), j3 t h2]
      have h8 : X.1 0 0 / 8 = 0 := by omega
      rw [h8]
      split <;> rfl
    · intro s k hs hk
      rw [e10, if_neg (by omega)] at hk
      have := i7 s hs
      rw [e11 s k hs (by omega)]; exact j4 s k hs hk
    · intro k hk h0
      rw [e04] at hk; rw [e12] at h0 ⊢
      have := (i10 k hk).2
      unfold m_part
      rw [e2, e3, if_neg (by omega), if_neg (by omega)]
      exact j5 k hk h0
    · intro t h1
      rw [e0] at h1
      rw [e2, e3, e4]
      by_cases q : t = X.1 0 0
      · rw [if_pos q, if_pos q, if_pos q]; exact ⟨hb, ht1, hz1⟩
      · rw [if_neg q, if_neg q, if_neg q]; exact j6 t (by omega)
  refine j_sendN hc (by decide) ?_ (fun _ s hs h => ?_) 4 (Nat.le_refl _)
  · show X.1 0 0 < (m_write (xs (xs (xs (xs X 0 0 (X.1 0 0 + 1)) 2 (X.1 0 0) f) 3 (X.1 0 0) to) 4 (X.1 0 0) sz) 4 0 (X.1 0 0)).1 0 0
    simp [m_write, xs]
  · have e : m_part (m_write (xs (xs (xs (xs X 0 0 (X.1 0 0 + 1)) 2 (X.1 0 0) f) 3 (X.1 0 0) to) 4 (X.1 0 0) sz) 4 0 (X.1 0 0)) (X.1 0 0) = to ||| 2 ^ f := by simp [m_part, m_write, xs]
    rw [e]; exact h
def m_crash (X : qm) (k : Nat) : qm := (fun f i => if f = 1 ∧ i = k then 0 else if (f = 5 ∨ f = 6) ∧ k = 4 ∧ i < X.1 0 0 then 0 else X.1 f i, X.2)
theorem j_crash {X : qm} (hJ : J X) (k : Nat) : J (m_crash X k) := by
  obtain ⟨⟨i1, i2, i3, i4, i5, i6, i7, i8, i9, i10⟩, j1, j2, j3, j4, j5, j6⟩ := hJ
  have e1 : ∀ i, (m_crash X k).1 1 i = if i = k then 0 else X.1 1 i := fun i => by simp [m_crash]
  have e5 : ∀ i, (m_crash X k).1 5 i = if k = 4 ∧ i < X.1 0 0 then 0 else X.1 5 i := fun i => by simp [m_crash]
  have e6 : ∀ i, (m_crash X k).1 6 i = if k = 4 ∧ i < X.1 0 0 then 0 else X.1 6 i := fun i => by simp [m_crash]
  refine ⟨⟨i1, i2, ?_, ?_, ?_, i6, i7, i8, i9, i10⟩, j1, j2, ?_, j4, j5, j6⟩
  · intro k2 h2; rw [e1]; split; omega; exact i3 k2 h2
  · intro t2 h2
    have q := i4 t2 h2
    refine ⟨q.1, q.2.1, q.2.2.1, ?_, ?_, q.2.2.2.2.2⟩
    · rw [e5]; split; omega; exact q.2.2.2.1
    · rw [e6]; split; omega; exact q.2.2.2.2.1
  · intro t2 h1 h2
    have h1 : X.1 0 0 ≤ t2 := h1
    have q := i5 t2 h1 h2
    refine ⟨q.1, q.2.1, q.2.2.1, ?_, ?_, q.2.2.2.2.2⟩
    · rw [e5]; split; rfl; exact q.2.2.2.1
    · rw [e6]; split; rfl; exact q.2.2.2.2.1
  · intro t2 h2
    exact Eq.trans (m_outLog_congr (X := X) t2 _ (fun _ _ => rfl)) (j3 t2 h2)
theorem j_up {X : qm} (hJ : J X) (k : Nat) : J (xs X 1 k 1) := by
  obtain ⟨⟨i1, i2, i3, i4, i5, i6, i7, i8, i9, i10⟩, j1, j2, j3, j4, j5, j6⟩ := hJ
  have e1 : ∀ i, (xs X 1 k 1).1 1 i = if i = k then 1 else X.1 1 i := fun i => by simp [xs]
  refine ⟨⟨i1, i2, ?_, i4, i5, i6, i7, i8, i9, i10⟩, j1, j2, ?_, j4, j5, j6⟩
  · intro k2 h2; rw [e1]; split; omega; exact i3 k2 h2
  · intro t2 h2
    exact Eq.trans (m_outLog_congr (X := X) t2 _ (fun _ _ => rfl)) (j3 t2 h2)
