/-! COURSES AS TEXTS: a machine that reads a character at a time. phase, letter, first, takers, last -/
abbrev qt : Type := Nat × (Nat × (Nat × (Nat × Nat)))
def t_0 : qt := (0, (0, (0, (0, 0))))
def t_let (c : Nat) : Bool := decide (c = 98 ∨ c = 100 ∨ c = 108 ∨ c = 99 ∨ c = 114 ∨ c = 103 ∨ c = 113)
def t_hi (le : Nat) : Nat := if le = 98 ∨ le = 113 then 3 else if le = 99 ∨ le = 114 then 4 else if le = 103 then 7 else 9
def t_lo (le : Nat) : Nat := if le = 100 then 1 else 0
def t_tk (fi ta c : Nat) : Bool := decide (48 ≤ c ∧ c < 52 ∧ ¬ c - 48 = fi ∧ ta / 2 ^ (c - 48) = 0)
def t_step (s : qt) (c : Nat) : Option qt :=
  if s.1 = 0 then (if t_let c = true then some (1, (c, (0, (0, 0)))) else none)
  else if s.1 = 1 then (if 48 + t_lo s.2.1 ≤ c ∧ c ≤ 48 + t_hi s.2.1 then some ((if s.2.1 = 98 then 2 else if s.2.1 = 113 then 7 else 8), (s.2.1, (c - 48, (0, 0)))) else none)
  else if s.1 = 2 then (if c = 62 then some (3, s.2) else none)
  else if s.1 = 3 then (if t_tk s.2.2.1 s.2.2.2.1 c = true then some (4, (s.2.1, (s.2.2.1, (s.2.2.2.1 ||| 2 ^ (c - 48), s.2.2.2.2)))) else none)
  else if s.1 = 4 then (if c = 58 then some (5, s.2) else if t_tk s.2.2.1 s.2.2.2.1 c = true then some (4, (s.2.1, (s.2.2.1, (s.2.2.2.1 ||| 2 ^ (c - 48), s.2.2.2.2)))) else none)
  else if s.1 = 5 then (if 49 ≤ c ∧ c ≤ 57 then some (6, (s.2.1, (s.2.2.1, (s.2.2.2.1, c - 48)))) else none)
  else if s.1 = 6 then (if c = 59 then some t_0 else if 48 ≤ c ∧ c ≤ 57 ∧ s.2.2.2.2 * 10 + (c - 48) ≤ 50 then some (8, (s.2.1, (s.2.2.1, (s.2.2.2.1, s.2.2.2.2 * 10 + (c - 48))))) else none)
  else if s.1 = 7 then (if 48 ≤ c ∧ c ≤ 55 then some (8, (s.2.1, (s.2.2.1, (s.2.2.2.1, c - 48)))) else none)
  else (if c = 59 then some t_0 else none)
/-- what holds of all states of the machine -/
def t_wf (s : qt) : Prop := s.1 ≤ 8 ∧ (1 ≤ s.1 → t_let s.2.1 = true) ∧ (2 ≤ s.1 → t_lo s.2.1 ≤ s.2.2.1 ∧ s.2.2.1 ≤ t_hi s.2.1) ∧ (2 ≤ s.1 → s.1 ≤ 6 → s.2.1 = 98) ∧ (s.1 = 7 → s.2.1 = 113) ∧ (s.1 ≤ 3 → s.2.2.2.1 = 0) ∧
  (4 ≤ s.1 → s.2.1 = 98 → 1 ≤ s.2.2.2.1 ∧ s.2.2.2.1 < 16 ∧ s.2.2.2.1 / 2 ^ s.2.2.1 % 2 = 0) ∧ (s.1 = 6 → 1 ≤ s.2.2.2.2 ∧ s.2.2.2.2 ≤ 9) ∧ (s.1 = 8 → s.2.1 = 98 → 1 ≤ s.2.2.2.2 ∧ s.2.2.2.2 ≤ 50) ∧ (s.1 = 8 → s.2.1 = 113 → s.2.2.2.2 < 8)
theorem t_wf_0 : t_wf t_0 := by
  refine ⟨by decide, ?_, ?_, ?_, ?_, fun _ => rfl, ?_, ?_, ?_, ?_⟩ <;> intro h <;> exact absurd h (by decide)
theorem t_bits1 : ∀ ta, ta < 16 → ∀ d, d < 4 → 1 ≤ ta ||| 2 ^ d ∧ ta ||| 2 ^ d < 16 := by decide +kernel
theorem t_bits2 : ∀ ta, ta < 16 → ∀ d, d < 4 → ∀ fi, fi < 4 → d = fi ∨ ta / 2 ^ fi % 2 = 1 ∨ (ta ||| 2 ^ d) / 2 ^ fi % 2 = 0 := by decide +kernel
theorem t_tk_of {fi ta c : Nat} (h : t_tk fi ta c = true) : 48 ≤ c ∧ c < 52 ∧ ¬ c - 48 = fi ∧ ta / 2 ^ (c - 48) = 0 := of_decide_eq_true h
theorem t_tk_bits {fi ta c : Nat} (h : t_tk fi ta c = true) (hf : fi < 4) (ht : ta < 16) (hb : ta / 2 ^ fi % 2 = 0) : 1 ≤ ta ||| 2 ^ (c - 48) ∧ ta ||| 2 ^ (c - 48) < 16 ∧ (ta ||| 2 ^ (c - 48)) / 2 ^ fi % 2 = 0 := by
  obtain ⟨a, b, c1, d⟩ := t_tk_of h
  have e := t_bits1 ta ht (c - 48) (by omega)
  exact ⟨e.1, e.2, ((t_bits2 ta ht (c - 48) (by omega) fi hf).resolve_left c1).resolve_left (by omega)⟩
theorem t_hi98 : t_hi 98 = 3 ∧ t_hi 113 = 3 := by decide
theorem t_wf_step {s s' : qt} {c : Nat} (hw : t_wf s) (h : t_step s c = some s') : t_wf s' := by
  obtain ⟨ph, le, fi, ta, la⟩ := s
  obtain ⟨w1, w2, w3, w4, w5, w6, w7, w8, w9, w10⟩ := hw
  dsimp only at w1 w2 w3 w4 w5 w6 w7 w8 w9 w10
  unfold t_step at h
  dsimp only at h
  by_cases p0 : ph = 0
  · rw [if_pos p0] at h
    split at h
    · cases h
      refine ⟨by (try dsimp only); decide, fun _ => by assumption, ?_, ?_, ?_, fun _ => rfl, ?_, ?_, ?_, ?_⟩ <;> intro q <;> exact absurd q (by (try dsimp only); decide)
    · cases h
  rw [if_neg p0] at h
  by_cases p1 : ph = 1
  · rw [if_pos p1] at h
    split at h
    · rename_i hc
      cases h
      have hl := w2 (by omega)
      by_cases l98 : le = 98
      · rw [if_pos l98]
        exact ⟨by (try dsimp only); decide, fun _ => hl, fun _ => by dsimp only; omega, fun _ _ => l98, fun q => absurd q (by (try dsimp only); decide), fun _ => rfl, fun q => absurd q (by (try dsimp only); decide), fun q => absurd q (by (try dsimp only); decide), fun q => absurd q (by (try dsimp only); decide), fun q => absurd q (by (try dsimp only); decide)⟩
      · rw [if_neg l98]
        by_cases l113 : le = 113
        · rw [if_pos l113]
          exact ⟨by (try dsimp only); decide, fun _ => hl, fun _ => by dsimp only; omega, fun _ q => absurd q (by (try dsimp only); decide), fun _ => l113, fun q => absurd q (by (try dsimp only); decide), fun _ q => absurd q l98, fun q => absurd q (by (try dsimp only); decide), fun q => absurd q (by (try dsimp only); decide), fun q => absurd q (by (try dsimp only); decide)⟩
        · rw [if_neg l113]
          exact ⟨by (try dsimp only); decide, fun _ => hl, fun _ => by dsimp only; omega, fun _ q => absurd q (by (try dsimp only); decide), fun q => absurd q (by (try dsimp only); decide), fun q => absurd q (by (try dsimp only); decide), fun _ q => absurd q l98, fun q => absurd q (by (try dsimp only); decide), fun _ q => absurd q l98, fun _ q => absurd q l113⟩
    · cases h
  rw [if_neg p1] at h
  have hl := w2 (by omega)
  have hf := w3 (by omega)
  by_cases p2 : ph = 2
  · rw [if_pos p2] at h
    have e98 := w4 (by omega) (by omega)
    have e0 := w6 (by omega)
    split at h
    · cases h
      exact ⟨by (try dsimp only); decide, fun _ => hl, fun _ => hf, fun _ _ => e98, fun q => absurd q (by (try dsimp only); decide), fun _ => e0, fun q => absurd q (by (try dsimp only); decide), fun q => absurd q (by (try dsimp only); decide), fun q => absurd q (by (try dsimp only); decide), fun q => absurd q (by (try dsimp only); decide)⟩
    · cases h
  rw [if_neg p2] at h
  by_cases p3 : ph = 3
  · rw [if_pos p3] at h
    have e98 := w4 (by omega) (by omega)
    have e0 := w6 (by omega)
    split at h
    · rename_i hc
      cases h
      have hf4 : fi < 4 := by rw [e98, t_hi98.1] at hf; omega
      have b := t_tk_bits hc hf4 (by rw [e0]; decide) (by rw [e0]; simp)
      exact ⟨by (try dsimp only); decide, fun _ => hl, fun _ => hf, fun _ _ => e98, fun q => absurd q (by (try dsimp only); decide), fun q => absurd q (by (try dsimp only); decide), fun _ _ => b, fun q => absurd q (by (try dsimp only); decide), fun q => absurd q (by (try dsimp only); decide), fun q => absurd q (by (try dsimp only); decide)⟩
    · cases h
  rw [if_neg p3] at h
  by_cases p4 : ph = 4
  · rw [if_pos p4] at h
    have e98 := w4 (by omega) (by omega)
    have e7 := w7 (by omega) e98
    have hf4 : fi < 4 := by rw [e98, t_hi98.1] at hf; omega
    split at h
    · cases h
      exact ⟨by (try dsimp only); decide, fun _ => hl, fun _ => hf, fun _ _ => e98, fun q => absurd q (by (try dsimp only); decide), fun q => absurd q (by (try dsimp only); decide), fun _ _ => e7, fun q => absurd q (by (try dsimp only); decide), fun q => absurd q (by (try dsimp only); decide), fun q => absurd q (by (try dsimp only); decide)⟩
    · split at h
      · rename_i hc
        cases h
        have b := t_tk_bits hc hf4 e7.2.1 e7.2.2
        exact ⟨by (try dsimp only); decide, fun _ => hl, fun _ => hf, fun _ _ => e98, fun q => absurd q (by (try dsimp only); decide), fun q => absurd q (by (try dsimp only); decide), fun _ _ => b, fun q => absurd q (by (try dsimp only); decide), fun q => absurd q (by (try dsimp only); decide), fun q => absurd q (by (try dsimp only); decide)⟩
      · cases h
  rw [if_neg p4] at h
  by_cases p5 : ph = 5
  · rw [if_pos p5] at h
    have e98 := w4 (by omega) (by omega)
    have e7 := w7 (by omega) e98
    split at h
    · rename_i hc
      cases h
      exact ⟨by (try dsimp only); decide, fun _ => hl, fun _ => hf, fun _ _ => e98, fun q => absurd q (by (try dsimp only); decide), fun q => absurd q (by (try dsimp only); decide), fun _ _ => e7, fun _ => by dsimp only; omega, fun q => absurd q (by (try dsimp only); decide), fun q => absurd q (by (try dsimp only); decide)⟩
    · cases h
  rw [if_neg p5] at h
  by_cases p6 : ph = 6
  · rw [if_pos p6] at h
    have e98 := w4 (by omega) (by omega)
    have e7 := w7 (by omega) e98
    have e8 := w8 p6
    split at h
    · cases h
      exact t_wf_0
    · split at h
      · rename_i hc
        cases h
        exact ⟨by (try dsimp only); decide, fun _ => hl, fun _ => hf, fun _ q => absurd q (by (try dsimp only); decide), fun q => absurd q (by (try dsimp only); decide), fun q => absurd q (by (try dsimp only); decide), fun _ _ => e7, fun q => absurd q (by (try dsimp only); decide), fun _ _ => by dsimp only; omega, fun _ q => absurd (e98.symm.trans q) (by (try dsimp only); decide)⟩
      · cases h
  rw [if_neg p6] at h
  by_cases p7 : ph = 7
  · rw [if_pos p7] at h
    have e113 := w5 p7
    split at h
    · rename_i hc
      cases h
      have n98 : ¬ le = 98 := by omega
      exact ⟨by (try dsimp only); decide, fun _ => hl, fun _ => hf, fun _ q => absurd q (by (try dsimp only); decide), fun q => absurd q (by (try dsimp only); decide), fun q => absurd q (by (try dsimp only); decide), fun _ q => absurd q n98, fun q => absurd q (by (try dsimp only); decide), fun _ q => absurd q n98, fun _ _ => by dsimp only; omega⟩
    · cases h
  rw [if_neg p7] at h
  split at h
  · cases h
    exact t_wf_0
  · cases h
def t_go (tx : Nat → Nat) : Nat → qt → Nat → Nat × qt
  | 0, s, i => (i, s)
  | m + 1, s, i => match t_step s (tx i) with
    | none => (i, s)
    | some s' => t_go tx m s' (i + 1)
def t_lst (tx : Nat → Nat) : Nat → qt → Nat → List qt
  | 0, s, _ => [s]
  | m + 1, s, i => match t_step s (tx i) with
    | none => []
    | some s' => if tx i = 59 then s :: t_lst tx m s' (i + 1) else t_lst tx m s' (i + 1)
def t_err (tx : Nat → Nat) (n : Nat) : Nat := (t_go tx n t_0 0).1
def t_end (s : qt) : Bool := decide (s.1 = 6 ∨ s.1 = 8)
def t_ok (tx : Nat → Nat) (n : Nat) : Bool := decide (t_err tx n = n) && t_end (t_go tx n t_0 0).2
/-- the machine has read a characters of n, is in the state s, and l are the parts that ended -/
def TP (tx : Nat → Nat) (n a : Nat) (s : qt) (l : List qt) : Prop := a ≤ n ∧ t_go tx n t_0 0 = t_go tx (n - a) s a ∧ t_lst tx n t_0 0 = l ++ t_lst tx (n - a) s a ∧ t_wf s
theorem tp_0 (tx : Nat → Nat) (n : Nat) : TP tx n 0 t_0 [] := ⟨Nat.zero_le _, rfl, rfl, t_wf_0⟩
theorem tp_step {tx : Nat → Nat} {n a : Nat} {s s' : qt} {l : List qt} (h : TP tx n a s l) (ha : a < n) (hs : t_step s (tx a) = some s') : TP tx n (a + 1) s' (if tx a = 59 then l ++ [s] else l) := by
  obtain ⟨h1, h2, h3, h4⟩ := h
  have e : n - a = (n - (a + 1)) + 1 := by omega
  refine ⟨ha, ?_, ?_, t_wf_step h4 hs⟩
  · rw [h2, e, t_go, hs]
  · rw [h3, e, t_lst, hs]
    dsimp only
    split
    · rw [List.append_assoc]; rfl
    · rfl
theorem tp_err {tx : Nat → Nat} {n a : Nat} {s : qt} {l : List qt} (h : TP tx n a s l) (ha : a < n) (hs : t_step s (tx a) = none) : t_go tx n t_0 0 = (a, s) := by
  have e : n - a = (n - (a + 1)) + 1 := by omega
  rw [h.2.1, e, t_go, hs]
theorem tp_end {tx : Nat → Nat} {n : Nat} {s : qt} {l : List qt} (h : TP tx n n s l) : t_go tx n t_0 0 = (n, s) ∧ t_lst tx n t_0 0 = l ++ [s] := by
  have e := h.2.1
  have e2 := h.2.2.1
  rw [Nat.sub_self] at e e2
  exact ⟨e, e2⟩
theorem tp_some {tx : Nat → Nat} {n a : Nat} {s : qt} {l : List qt} (h : TP tx n a s l) (ha : a < n) (hok : t_ok tx n = true) : ∃ s', t_step s (tx a) = some s' := by
  cases hs : t_step s (tx a) with
  | some s' => exact ⟨s', rfl⟩
  | none =>
    have e := tp_err h ha hs
    unfold t_ok t_err at hok
    rw [e] at hok
    simp at hok
    omega
/-- a part that ended: can it be done, and what does it do -/
def t_can (s : qt) (X : qm) : Bool :=
  if s.2.1 = 98 then decide (X.1 1 4 = 1 ∧ X.1 0 0 < 8) else if s.2.1 = 100 then true else if s.2.1 = 108 then decide (s.2.2.1 < X.1 0 4) else if s.2.1 = 99 then decide (X.1 1 s.2.2.1 = 1)
  else if s.2.1 = 114 then decide (¬ X.1 1 s.2.2.1 = 1) else if s.2.1 = 103 then decide (s.2.2.1 < X.1 0 0 ∧ X.1 1 4 = 1 ∧ X.1 7 s.2.2.1 = 0) else decide (s.2.2.2.2 < X.1 0 0 ∧ X.1 1 s.2.2.1 = 1 ∧ X.1 9 (8 * s.2.2.1 + s.2.2.2.2) = 1)
def t_do (s : qt) (X : qm) : qm :=
  if s.2.1 = 98 then m_begin X s.2.2.1 s.2.2.2.1 s.2.2.2.2 else if s.2.1 = 100 then m_first s.2.2.1 X else if s.2.1 = 108 then m_lose X s.2.2.1 else if s.2.1 = 99 then m_crash X s.2.2.1
  else if s.2.1 = 114 then m_recover X s.2.2.1 else if s.2.1 = 103 then m_decide X s.2.2.1 2 else m_send X 6 s.2.2.2.2 s.2.2.1
def t_ex : List qt → qm → Nat → qm × Nat
  | [], X, k => (X, k)
  | s :: r, X, k => if t_can s X = true then t_ex r (t_do s X) (k + 1) else (X, k)
def t_run (tx : Nat → Nat) (n : Nat) (X : qm) : qm × Nat := t_ex (t_lst tx n t_0 0) X 0
def t_runN (tx : Nat → Nat) (n : Nat) (X : qm) : Nat := (t_run tx n X).2
/-- what a part that ended has told -/
theorem t_end_98 {s : qt} (hw : t_wf s) (he : t_end s = true) (h : s.2.1 = 98) : s.2.2.1 < 4 ∧ 1 ≤ s.2.2.2.1 ∧ s.2.2.2.1 < 16 ∧ s.2.2.2.1 / 2 ^ s.2.2.1 % 2 = 0 ∧ 1 ≤ s.2.2.2.2 ∧ s.2.2.2.2 ≤ 50 := by
  obtain ⟨w1, w2, w3, w4, w5, w6, w7, w8, w9, w10⟩ := hw
  have he : s.1 = 6 ∨ s.1 = 8 := of_decide_eq_true he
  have a := w3 (by omega)
  rw [h, t_hi98.1] at a
  have b := w7 (by omega) h
  rcases he with e | e
  · have c := w8 e; exact ⟨by omega, b.1, b.2.1, b.2.2, by omega, by omega⟩
  · have c := w9 e h; exact ⟨by omega, b.1, b.2.1, b.2.2, by omega, by omega⟩
theorem t_end_8 {s : qt} (hw : t_wf s) (he : t_end s = true) (h : ¬ s.2.1 = 98) : s.1 = 8 ∧ t_let s.2.1 = true ∧ t_lo s.2.1 ≤ s.2.2.1 ∧ s.2.2.1 ≤ t_hi s.2.1 ∧ (s.2.1 = 113 → s.2.2.2.2 < 8) := by
  obtain ⟨w1, w2, w3, w4, w5, w6, w7, w8, w9, w10⟩ := hw
  have he : s.1 = 6 ∨ s.1 = 8 := of_decide_eq_true he
  have e8 : s.1 = 8 := he.resolve_left (fun q => h (w4 (by omega) (by omega)))
  exact ⟨e8, w2 (by omega), (w3 (by omega)).1, (w3 (by omega)).2, fun q => w10 e8 q⟩
theorem t_let_of {c : Nat} (h : t_let c = true) : c = 98 ∨ c = 100 ∨ c = 108 ∨ c = 99 ∨ c = 114 ∨ c = 103 ∨ c = 113 := of_decide_eq_true h
theorem t_end_fi {s : qt} (hw : t_wf s) (he : t_end s = true) : s.2.2.1 ≤ 9 ∧ (s.2.1 = 99 ∨ s.2.1 = 114 → s.2.2.1 < 5) ∧ (s.2.1 = 103 → s.2.2.1 < 8) ∧ (s.2.1 = 113 → s.2.2.1 < 4 ∧ s.2.2.2.2 < 8) := by
  by_cases h : s.2.1 = 98
  · have a := t_end_98 hw he h
    exact ⟨by omega, fun q => by omega, fun q => by omega, fun q => by omega⟩
  · obtain ⟨a, b, c, d, e⟩ := t_end_8 hw he h
    unfold t_hi at d
    refine ⟨?_, fun q => ?_, fun q => ?_, fun q => ⟨?_, e q⟩⟩
    · repeat (first | omega | split at d)
    · rw [if_neg (by omega), if_pos q] at d; omega
    · rw [if_neg (by omega), if_neg (by omega), if_pos q] at d; omega
    · rw [if_pos (Or.inr q)] at d; omega
theorem j_do {s : qt} {X : qm} (hw : t_wf s) (he : t_end s = true) (hJ : J X) (hc : t_can s X = true) : J (t_do s X) := by
  have f := t_end_fi hw he
  unfold t_can at hc
  unfold t_do
  by_cases h1 : s.2.1 = 98
  · rw [if_pos h1] at hc ⊢
    have a := t_end_98 hw he h1
    have b := of_decide_eq_true hc
    exact j_begin hJ b.2 a.1 a.2.1 a.2.2.1 a.2.2.2.1 a.2.2.2.2.1 a.2.2.2.2.2
  rw [if_neg h1] at hc ⊢
  have l := t_let_of (t_end_8 hw he h1).2.1
  by_cases h2 : s.2.1 = 100
  · rw [if_pos h2]; exact (j_first _ X hJ).1
  rw [if_neg h2] at hc ⊢
  by_cases h3 : s.2.1 = 108
  · rw [if_pos h3] at hc ⊢; exact j_lose hJ (of_decide_eq_true hc)
  rw [if_neg h3] at hc ⊢
  by_cases h4 : s.2.1 = 99
  · rw [if_pos h4]; exact j_crash hJ _
  rw [if_neg h4] at hc ⊢
  by_cases h5 : s.2.1 = 114
  · rw [if_pos h5]; exact j_recover hJ (f.2.1 (Or.inr h5))
  rw [if_neg h5] at hc ⊢
  by_cases h6 : s.2.1 = 103
  · rw [if_pos h6] at hc ⊢
    have b := of_decide_eq_true hc
    exact j_decide hJ b.1 b.2.2 (Or.inr rfl)
  rw [if_neg h6] at hc ⊢
  have b := of_decide_eq_true hc
  exact j_send hJ (by decide) b.1 (f.2.2.2 (by omega)).1 (fun q => absurd q (by decide))
