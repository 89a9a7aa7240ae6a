/-! ALL STORES DECIDE ALIKE: what always holds of transfers, states, votes and messages, and each step keeps it -/
def z_pt (X : qm) (t s : Nat) : Nat := m_part X t / 2 ^ s % 2
def z_q (p st oc y d e : Nat) : Prop := (st ≠ 0 → p = 1) ∧ (st = 2 → oc = 1) ∧ (y = 1 → p = 1 ∧ st ≠ 0 ∧ (st = 3 → oc = 2)) ∧ (d = 1 → p = 1 ∧ 2 ≤ st ∧ oc ≠ 0) ∧ (oc = 1 → p = 1 → st = 1 ∨ st = 2) ∧ (e = 1 → oc ≠ 0 ∧ (p = 1 → 2 ≤ st))
def z_m (kd p st oc : Nat) : Prop := p = 1 ∧ (kd = 1 → st ≠ 0 ∧ (st = 3 → oc = 2)) ∧ (kd = 3 → oc = 1) ∧ (kd = 4 → oc = 2) ∧ (kd = 5 → 2 ≤ st ∧ oc ≠ 0)
def z_X (X : qm) (t s : Nat) : Prop := z_q (z_pt X t s) (X.1 9 (8 * s + t)) (X.1 7 t) (X.1 5 t / 2 ^ s % 2) (X.1 6 t / 2 ^ s % 2) (X.1 8 t)
def z_M (X : qm) (m : Nat) : Prop := z_m (m / 32) (z_pt X (m / 4 % 8) (m % 4)) (X.1 9 (8 * (m % 4) + m / 4 % 8)) (X.1 7 (m / 4 % 8))
def Ag (X : qm) : Prop := (∀ t s, t < X.1 0 0 → s < 4 → z_X X t s) ∧ (∀ k, k < X.1 0 4 → z_M X (X.1 12 k))
/-! the numbers -/
theorem z_b2 (n : Nat) : n % 2 < 2 := Nat.mod_lt _ (by decide)
theorem z_dec : ∀ p, p < 2 → ∀ st, st < 4 → ∀ oc, oc < 3 → ∀ y, y < 2 → ∀ d, d < 2 → ∀ e, e < 2 → z_q p st 0 y d e → oc ≠ 0 → (oc = 1 → p = 1 → y = 1) → z_q p st oc y d e := by
  intro p hp st hst oc ho y hy d hd e he h h0 h1
  unfold z_q at h ⊢
  obtain ⟨a1, a2, a3, a4, a5, a6⟩ := h
  refine ⟨a1, by omega, by omega, by omega, by omega, by omega⟩
theorem z_mdec {kd p st oc : Nat} (h : z_m kd p st 0) (ho : oc ≠ 0) : z_m kd p st oc := by unfold z_m at h ⊢; omega
theorem z_bec : ∀ p, p < 2 → ∀ st, st < 4 → ∀ oc, oc < 3 → ∀ y, y < 2 → ∀ d, d < 2 → ∀ e, e < 2 → ∀ s2, s2 < 4 → z_q p st oc y d e → p = 1 → (st = 0 ∧ (s2 = 1 ∨ s2 = 3)) ∨ (st = 1 ∧ ((s2 = 2 ∧ oc = 1) ∨ (s2 = 3 ∧ oc = 2))) → z_q p s2 oc y d e := by
  intro p hp st hst oc ho y hy d hd e he s2 hs2 h h0 h1
  unfold z_q at h ⊢
  obtain ⟨a1, a2, a3, a4, a5, a6⟩ := h
  refine ⟨fun _ => h0, by omega, by omega, by omega, by omega, by omega⟩
theorem z_mbec {kd p st oc s2 : Nat} (h : z_m kd p st oc) (hc : (st = 0 ∧ (s2 = 1 ∨ s2 = 3)) ∨ (st = 1 ∧ ((s2 = 2 ∧ oc = 1) ∨ (s2 = 3 ∧ oc = 2)))) : z_m kd p s2 oc := by unfold z_m at h ⊢; omega
theorem z_bit : ∀ y, y < 16 → ∀ s, s < 4 → ∀ s2, s2 < 4 → (y ||| 2 ^ s) / 2 ^ s2 % 2 = if s2 = s then 1 else y / 2 ^ s2 % 2 := by decide +kernel
/-! messages -/
theorem ag_send {X : qm} (hA : Ag X) {kd t s : Nat} (ht : t < 8) (hs : s < 4) (hm : z_m kd (z_pt X t s) (X.1 9 (8 * s + t)) (X.1 7 t)) : Ag (m_send X kd t s) := by
  unfold m_send
  split
  · next h =>
    refine ⟨hA.1, fun k hk => ?_⟩
    have e12 : ∀ k', (xs (xs (xs X 0 1 (X.1 0 1 + 1)) 12 (X.1 0 4) (32 * kd + 4 * t + s)) 0 4 (X.1 0 4 + 1)).1 12 k' = if k' = X.1 0 4 then 32 * kd + 4 * t + s else X.1 12 k' := fun k' => by simp [xs]
    have e4 : (xs (xs (xs X 0 1 (X.1 0 1 + 1)) 12 (X.1 0 4) (32 * kd + 4 * t + s)) 0 4 (X.1 0 4 + 1)).1 0 4 = X.1 0 4 + 1 := by simp [xs]
    rw [e4] at hk
    rw [e12]
    show z_M X _
    by_cases q : k = X.1 0 4
    · rw [if_pos q]
      unfold z_M
      rw [show (32 * kd + 4 * t + s) / 32 = kd by omega, show (32 * kd + 4 * t + s) / 4 % 8 = t by omega, show (32 * kd + 4 * t + s) % 4 = s by omega]
      exact hm
    · rw [if_neg q]; exact hA.2 k (by omega)
  · exact ⟨hA.1, hA.2⟩
theorem ag_sendN {X : qm} (hA : Ag X) {kd t m : Nat} (ht : t < 8) (hm : ∀ s, s < 4 → m / 2 ^ s % 2 = 1 → z_m kd (z_pt X t s) (X.1 9 (8 * s + t)) (X.1 7 t)) : ∀ n, n ≤ 4 → Ag (m_sendN X kd t m n) := by
  intro n
  induction n with
  | zero => intro _; exact hA
  | succ n ih =>
    intro hn
    rw [m_sendN]
    split
    · next h =>
      refine ag_send (ih (by omega)) ht (by omega) ?_
      have a := hm n (by omega) h
      unfold z_pt m_part at a ⊢
      rw [m_sendN_f _ _ _ _ (Or.inl (by decide)) (by decide), m_sendN_f _ _ _ _ (Or.inl (by decide)) (by decide), m_sendN_f _ _ _ _ (Or.inl (by decide)) (by decide), m_sendN_f _ _ _ _ (Or.inl (by decide)) (by decide)]
      exact a
    · exact ih (by omega)
theorem ag_takeOut {X : qm} (hA : Ag X) {p : Nat} (hp : p < X.1 0 4) : Ag (m_takeOut X p) := by
  refine ⟨hA.1, fun k hk => ?_⟩
  have hk : k < X.1 0 4 - 1 := hk
  show z_M X (if k < p then X.1 12 k else X.1 12 (k + 1))
  split
  · exact hA.2 k (by omega)
  · exact hA.2 (k + 1) (by omega)
theorem ag_counter {X : qm} (hA : Ag X) {j v : Nat} (hj : j = 1 ∨ j = 2 ∨ j = 3) : Ag (xs X 0 j v) := by
  rcases hj with rfl | rfl | rfl <;> exact ⟨hA.1, hA.2⟩
theorem ag_lose {X : qm} (hA : Ag X) {p : Nat} (hp : p < X.1 0 4) : Ag (m_lose X p) := ag_takeOut (ag_counter hA (Or.inr (Or.inr rfl))) hp
/-! votes -/
theorem ag_yes {X : qm} (hJ : J X) (hA : Ag X) {t s : Nat} (ht : t < X.1 0 0) (hs : s < 4) (hm : z_m 1 (z_pt X t s) (X.1 9 (8 * s + t)) (X.1 7 t)) : Ag (xs X 5 t (X.1 5 t ||| 2 ^ s)) := by
  have i1 := iV1 hJ.1
  have hy := (iV4 hJ.1 t (by omega)).2.2.2.1
  refine ⟨fun t2 s2 h1 h2 => ?_, hA.2⟩
  have a := hA.1 t2 s2 h1 h2
  show z_q (z_pt X t2 s2) (X.1 9 (8 * s2 + t2)) (X.1 7 t2) ((if 5 = 5 ∧ t2 = t then X.1 5 t ||| 2 ^ s else X.1 5 t2) / 2 ^ s2 % 2) (X.1 6 t2 / 2 ^ s2 % 2) (X.1 8 t2)
  by_cases q : t2 = t
  · subst q
    rw [if_pos ⟨rfl, rfl⟩, z_bit _ hy _ hs _ h2]
    by_cases q2 : s2 = s
    · subst q2
      rw [if_pos rfl]
      unfold z_X z_q at a
      unfold z_m at hm
      unfold z_q
      refine ⟨a.1, a.2.1, fun _ => ⟨hm.1, hm.2.1 rfl⟩, a.2.2.2⟩
    · rw [if_neg q2]; exact a
  · rw [if_neg (fun c => q c.2)]; exact a
theorem ag_done {X : qm} (hJ : J X) (hA : Ag X) {t s : Nat} (ht : t < X.1 0 0) (hs : s < 4) (hm : z_m 5 (z_pt X t s) (X.1 9 (8 * s + t)) (X.1 7 t)) : Ag (xs X 6 t (X.1 6 t ||| 2 ^ s)) := by
  have i1 := iV1 hJ.1
  have hy := (iV4 hJ.1 t (by omega)).2.2.2.2.1
  refine ⟨fun t2 s2 h1 h2 => ?_, hA.2⟩
  have a := hA.1 t2 s2 h1 h2
  show z_q (z_pt X t2 s2) (X.1 9 (8 * s2 + t2)) (X.1 7 t2) (X.1 5 t2 / 2 ^ s2 % 2) ((if 6 = 6 ∧ t2 = t then X.1 6 t ||| 2 ^ s else X.1 6 t2) / 2 ^ s2 % 2) (X.1 8 t2)
  by_cases q : t2 = t
  · subst q
    rw [if_pos ⟨rfl, rfl⟩, z_bit _ hy _ hs _ h2]
    by_cases q2 : s2 = s
    · subst q2
      rw [if_pos rfl]
      unfold z_X z_q at a
      unfold z_m at hm
      unfold z_q
      exact ⟨a.1, a.2.1, a.2.2.1, fun _ => ⟨hm.1, hm.2.2.2.2 rfl⟩, a.2.2.2.2⟩
    · rw [if_neg q2]; exact a
  · rw [if_neg (fun c => q c.2)]; exact a
/-! the clerk decides, and ends -/
theorem z_rng {X : qm} (hJ : J X) {t s : Nat} (ht : t < X.1 0 0) (hs : s < 4) : t < 8 ∧ z_pt X t s < 2 ∧ X.1 9 (8 * s + t) < 4 ∧ X.1 7 t < 3 ∧ X.1 8 t < 2 := by
  have i1 := iV1 hJ.1
  have a := iV4 hJ.1 t (by omega)
  have b := (iV6 hJ.1 s t hs (by omega)).1
  exact ⟨by omega, z_b2 _, by omega, by have := a.2.2.2.2.2.1; omega, by have := a.2.2.2.2.2.2; omega⟩
theorem ag_decide {X : qm} (hJ : J X) (hA : Ag X) {t oc : Nat} (ht : t < X.1 0 0) (h0 : X.1 7 t = 0) (hoc : oc = 1 ∨ oc = 2) (hv : oc = 1 → ∀ s, s < 4 → z_pt X t s = 1 → X.1 5 t / 2 ^ s % 2 = 1) : Ag (m_decide X t oc) := by
  have i1 := iV1 hJ.1
  have e7 : ∀ i, (m_write (xs X 7 t oc) 4 oc t).1 7 i = if i = t then oc else X.1 7 i := fun i => by simp [m_write, xs]
  have hc : Ag (m_write (xs X 7 t oc) 4 oc t) := by
    refine ⟨fun t2 s2 h1 h2 => ?_, fun k hk => ?_⟩
    · have h1 : t2 < X.1 0 0 := h1
      have a := hA.1 t2 s2 h1 h2
      have r := z_rng hJ h1 h2
      show z_q (z_pt X t2 s2) (X.1 9 (8 * s2 + t2)) ((m_write (xs X 7 t oc) 4 oc t).1 7 t2) (X.1 5 t2 / 2 ^ s2 % 2) (X.1 6 t2 / 2 ^ s2 % 2) (X.1 8 t2)
      rw [e7]
      by_cases q : t2 = t
      · subst q
        rw [if_pos rfl]
        unfold z_X at a
        rw [h0] at a
        exact z_dec _ r.2.1 _ r.2.2.1 _ (by omega) _ (z_b2 _) _ (z_b2 _) _ r.2.2.2.2 a (by omega) (fun h => hv h s2 h2)
      · rw [if_neg q]; exact a
    · have a := hA.2 k hk
      have r := iV10 hJ.1 k hk
      show z_m (X.1 12 k / 32) (z_pt X (X.1 12 k / 4 % 8) (X.1 12 k % 4)) (X.1 9 (8 * (X.1 12 k % 4) + X.1 12 k / 4 % 8)) ((m_write (xs X 7 t oc) 4 oc t).1 7 (X.1 12 k / 4 % 8))
      rw [e7]
      by_cases q : X.1 12 k / 4 % 8 = t
      · rw [if_pos q]
        unfold z_M at a
        rw [show X.1 7 (X.1 12 k / 4 % 8) = 0 by rw [q]; exact h0] at a
        exact z_mdec a (by omega)
      · rw [if_neg q]; exact a
  unfold m_decide
  refine ag_sendN hc (by omega) (fun s hs h => ?_) 4 (Nat.le_refl _)
  rw [e7, if_pos rfl]
  have hp : z_pt (m_write (xs X 7 t oc) 4 oc t) t s = 1 := h
  rw [hp]
  unfold z_m
  omega
theorem ag_end {X : qm} (hA : Ag X) {t : Nat} (ht : t < X.1 0 0) (h7 : X.1 7 t ≠ 0) (hd : ∀ s, s < 4 → z_pt X t s = 1 → X.1 6 t / 2 ^ s % 2 = 1) : Ag (xs (m_write X 4 3 t) 8 t 1) := by
  refine ⟨fun t2 s2 h1 h2 => ?_, hA.2⟩
  have h1 : t2 < X.1 0 0 := h1
  have a := hA.1 t2 s2 h1 h2
  have e8 : (xs (m_write X 4 3 t) 8 t 1).1 8 t2 = if t2 = t then 1 else X.1 8 t2 := by simp [m_write, xs]
  show z_q (z_pt X t2 s2) (X.1 9 (8 * s2 + t2)) (X.1 7 t2) (X.1 5 t2 / 2 ^ s2 % 2) (X.1 6 t2 / 2 ^ s2 % 2) ((xs (m_write X 4 3 t) 8 t 1).1 8 t2)
  rw [e8]
  by_cases q : t2 = t
  · subst q
    rw [if_pos rfl]
    unfold z_X z_q at a
    unfold z_q
    exact ⟨a.1, a.2.1, a.2.2.1, a.2.2.2.1, a.2.2.2.2.1, fun _ => ⟨h7, fun hp => (a.2.2.2.1 (hd s2 h2 hp)).2.1⟩⟩
  · rw [if_neg q]; exact a
/-! a store is in another state -/
theorem m_become_9 (X : qm) (s t st : Nat) (i : Nat) : (m_become X s t st).1 9 i = if i = 8 * s + t then st else X.1 9 i := by
  unfold m_become
  split <;> simp [m_write, xs, xa]
theorem z_pt_become (X : qm) (s t st t2 s2 : Nat) : z_pt (m_become X s t st) t2 s2 = z_pt X t2 s2 := by
  unfold z_pt m_part
  rw [m_become_f _ _ _ (by decide) (by decide) (by decide), m_become_f _ _ _ (by decide) (by decide) (by decide)]
theorem ag_become {X : qm} (hJ : J X) (hA : Ag X) {s t st : Nat} (hs : s < 4) (ht : t < X.1 0 0) (hp : z_pt X t s = 1) (hc : (X.1 9 (8 * s + t) = 0 ∧ (st = 1 ∨ st = 3)) ∨ (X.1 9 (8 * s + t) = 1 ∧ ((st = 2 ∧ X.1 7 t = 1) ∨ (st = 3 ∧ X.1 7 t = 2)))) : Ag (m_become X s t st) := by
  have i1 := iV1 hJ.1
  refine ⟨fun t2 s2 h1 h2 => ?_, fun k hk => ?_⟩
  · rw [m_become_f _ _ _ (by decide) (by decide) (by decide)] at h1
    have a := hA.1 t2 s2 h1 h2
    have r := z_rng hJ h1 h2
    unfold z_X
    rw [z_pt_become, m_become_9, m_become_f _ _ _ (by decide) (by decide) (by decide), m_become_f _ _ _ (by decide) (by decide) (by decide), m_become_f _ _ _ (by decide) (by decide) (by decide), m_become_f _ _ _ (by decide) (by decide) (by decide)]
    by_cases q : s2 = s ∧ t2 = t
    · obtain ⟨rfl, rfl⟩ := q
      rw [if_pos rfl]
      exact z_bec _ r.2.1 _ r.2.2.1 _ r.2.2.2.1 _ (z_b2 _) _ (z_b2 _) _ r.2.2.2.2 _ (by omega) a hp hc
    · rw [if_neg (by omega)]; exact a
  · rw [m_become_f _ _ _ (by decide) (by decide) (by decide)] at hk
    rw [m_become_f _ _ _ (by decide) (by decide) (by decide)]
    have a := hA.2 k hk
    unfold z_M at a ⊢
    rw [z_pt_become, m_become_9, m_become_f _ _ _ (by decide) (by decide) (by decide)]
    by_cases q : 8 * (X.1 12 k % 4) + X.1 12 k / 4 % 8 = 8 * s + t
    · rw [if_pos q]
      have e1 : X.1 12 k % 4 = s := by omega
      have e2 : X.1 12 k / 4 % 8 = t := by omega
      rw [e1, e2] at a ⊢
      exact z_mbec a hc
    · rw [if_neg q]; exact a
/-! what stores and the clerk hear -/
theorem z_pt_m {X : qm} {kd p st oc : Nat} (h : z_m kd p st oc) : p = 1 := h.1
theorem ag_ask {X : qm} (hJ : J X) (hA : Ag X) {t s : Nat} (ht : t < X.1 0 0) (hs : s < 4) (hp : z_pt X t s = 1) : Ag (m_ask X t s) := by
  have r := z_rng hJ ht hs
  unfold m_ask
  split
  · next h =>
    split
    · refine ag_send (ag_become hJ hA hs ht hp (Or.inl ⟨h, Or.inl rfl⟩)) r.1 hs ?_
      rw [z_pt_become, m_become_9, if_pos rfl, hp]
      unfold z_m; omega
    · refine ag_send (ag_become hJ hA hs ht hp (Or.inl ⟨h, Or.inr rfl⟩)) r.1 hs ?_
      rw [z_pt_become, m_become_9, if_pos rfl, hp]
      unfold z_m; omega
  · next h =>
    refine ag_send hA r.1 hs ?_
    rw [hp]
    split
    · unfold z_m; omega
    · next h3 => unfold z_m; exact ⟨rfl, fun _ => ⟨h, fun c => absurd c h3⟩, by omega, by omega, by omega⟩
theorem ag_mk {X : qm} (hJ : J X) (hA : Ag X) {t s : Nat} (ht : t < X.1 0 0) (hs : s < 4) (hp : z_pt X t s = 1) (ho : X.1 7 t = 1) : Ag (m_mk X t s) := by
  have r := z_rng hJ ht hs
  unfold m_mk
  split
  · next h =>
    refine ag_send (ag_become hJ hA hs ht hp (Or.inr ⟨h, Or.inl ⟨rfl, ho⟩⟩)) r.1 hs ?_
    rw [z_pt_become, m_become_9, if_pos rfl, hp, m_become_f _ _ _ (by decide) (by decide) (by decide), ho]
    unfold z_m; omega
  · split
    · next h => refine ag_send hA r.1 hs ?_; rw [hp, h, ho]; unfold z_m; omega
    · exact hA
theorem ag_dr {X : qm} (hJ : J X) (hA : Ag X) {t s : Nat} (ht : t < X.1 0 0) (hs : s < 4) (hp : z_pt X t s = 1) (ho : X.1 7 t = 2) : Ag (m_dr X t s) := by
  have r := z_rng hJ ht hs
  unfold m_dr
  split
  · next h =>
    refine ag_send (ag_become hJ hA hs ht hp (by omega)) r.1 hs ?_
    rw [z_pt_become, m_become_9, if_pos rfl, hp, m_become_f _ _ _ (by decide) (by decide) (by decide), ho]
    unfold z_m; omega
  · split
    · next h => refine ag_send hA r.1 hs ?_; rw [hp, h, ho]; unfold z_m; omega
    · exact hA
theorem ag_hYes {X : qm} (hJ : J X) (hA : Ag X) {t s : Nat} (ht : t < X.1 0 0) (hs : s < 4) (hm : z_m 1 (z_pt X t s) (X.1 9 (8 * s + t)) (X.1 7 t)) : Ag (m_hYes X t s) := by
  unfold m_hYes
  split
  · next h =>
    have hy := ag_yes hJ hA ht hs hm
    split
    · next h2 =>
      refine ag_decide (j_yes hJ ht (j_or hJ ht hs).1) hy ht h (Or.inl rfl) (fun _ s2 h3 h4 => ?_)
      show (if 5 = 5 ∧ t = t then X.1 5 t ||| 2 ^ s else X.1 5 t) / 2 ^ s2 % 2 = 1
      rw [if_pos ⟨rfl, rfl⟩, h2]
      exact h4
    · exact hy
  · exact hA
theorem ag_hNo {X : qm} (hJ : J X) (hA : Ag X) {t : Nat} (ht : t < X.1 0 0) : Ag (m_hNo X t) := by
  unfold m_hNo
  split
  · next h => exact ag_decide hJ hA ht h (Or.inr rfl) (fun c => absurd c (by decide))
  · exact hA
theorem ag_hDone {X : qm} (hJ : J X) (hA : Ag X) {t s : Nat} (ht : t < X.1 0 0) (hs : s < 4) (hm : z_m 5 (z_pt X t s) (X.1 9 (8 * s + t)) (X.1 7 t)) : Ag (m_hDone X t s) := by
  have hd := ag_done hJ hA ht hs hm
  unfold m_hDone
  split
  · next h =>
    refine ag_end hd ht (hm.2.2.2.2 rfl).2 (fun s2 h3 h4 => ?_)
    show (if 6 = 6 ∧ t = t then X.1 6 t ||| 2 ^ s else X.1 6 t) / 2 ^ s2 % 2 = 1
    rw [if_pos ⟨rfl, rfl⟩, h.1]
    exact h4
  · exact hd
theorem z_oc {X : qm} (hJ : J X) {t s : Nat} (ht : t < X.1 0 0) (hs : s < 4) (hp : z_pt X t s = 1) (h : X.1 7 t ≠ 0) : z_m (2 + X.1 7 t) (z_pt X t s) (X.1 9 (8 * s + t)) (X.1 7 t) := by
  have r := z_rng hJ ht hs
  rw [hp]
  unfold z_m
  omega
theorem ag_hWhat {X : qm} (hJ : J X) (hA : Ag X) {t s : Nat} (ht : t < X.1 0 0) (hs : s < 4) (hp : z_pt X t s = 1) : Ag (m_hWhat X t s) := by
  unfold m_hWhat
  split
  · exact hA
  · next h => exact ag_send hA (z_rng hJ ht hs).1 hs (z_oc hJ ht hs hp h)
theorem ag_takesUp {X : qm} (hJ : J X) (hA : Ag X) {t : Nat} (ht : t < X.1 0 0) : Ag (m_takesUp X t) := by
  unfold m_takesUp
  split
  · next h => exact ag_decide hJ hA ht h (Or.inr rfl) (fun c => absurd c (by decide))
  · next h =>
    split
    · exact ag_sendN hA (z_rng hJ ht (s := 0) (by decide)).1 (fun s hs hp => z_oc hJ ht hs hp h) 4 (Nat.le_refl _)
    · exact hA
theorem ag_hears {X : qm} (hJ : J X) (hA : Ag X) {k t s : Nat} (ht : t < X.1 0 0) (hs : s < 4) (hm : z_m k (z_pt X t s) (X.1 9 (8 * s + t)) (X.1 7 t)) : Ag (m_hears X k t s) := by
  unfold m_hears
  split; exact ag_ask hJ hA ht hs hm.1
  split
  · next h => subst h; exact ag_hYes hJ hA ht hs hm
  split; exact ag_hNo hJ hA ht
  split
  · next h => exact ag_mk hJ hA ht hs hm.1 (hm.2.2.1 h)
  split
  · next h => exact ag_dr hJ hA ht hs hm.1 (hm.2.2.2.1 h)
  split
  · next h => subst h; exact ag_hDone hJ hA ht hs hm
  exact ag_hWhat hJ hA ht hs hm.1
theorem ag_deliver {X : qm} (hJ : J X) (hA : Ag X) {p : Nat} (hp : p < X.1 0 4) : Ag (m_deliver X p) := by
  unfold m_deliver
  split
  · exact ag_hears (j_counter (j_takeOut hJ hp) (Or.inr (Or.inl rfl))) (ag_counter (ag_takeOut hA hp) (Or.inr (Or.inl rfl))) (iV10 hJ.1 p hp).2 (by omega) (hA.2 p hp)
  · exact ag_counter (ag_takeOut hA hp) (Or.inr (Or.inr rfl))
theorem ag_upStep {X : qm} (hJ : J X) (hA : Ag X) {k t : Nat} (hk : k < 5) (ht : t < X.1 0 0) : Ag (m_upStep X k t) := by
  unfold m_upStep
  split
  · exact ag_takesUp hJ hA ht
  · next h4 =>
    split
    · next h =>
      have a := hA.1 t k ht (by omega)
      refine ag_send hA (z_rng hJ ht (s := 0) (by decide)).1 (by omega) ?_
      rw [a.1 (by rw [h]; decide)]
      unfold z_m; omega
    · exact hA
theorem ag_up {X : qm} (hA : Ag X) (k : Nat) : Ag (xs X 1 k 1) := ⟨hA.1, hA.2⟩
theorem ag_recover {X : qm} (hJ : J X) (hA : Ag X) {k : Nat} (hk : k < 5) : Ag (m_recover X k) := by
  have H : ∀ n, n ≤ X.1 0 0 → Ag (m_ups (xs X 1 k 1) k n) := by
    intro n
    induction n with
    | zero => intro _; exact ag_up hA k
    | succ n ih =>
      intro hn
      rw [m_ups]
      exact ag_upStep (j_ups (j_up hJ k) hk n (by show n ≤ X.1 0 0; omega)) (ih (by omega)) hk (by rw [m_ups_0]; show n < X.1 0 0; omega)
  exact H _ (Nat.le_refl _)
theorem ag_crash {X : qm} (hA : Ag X) (k : Nat) : Ag (m_crash X k) := by
  refine ⟨fun t s h1 h2 => ?_, hA.2⟩
  have h1 : t < X.1 0 0 := h1
  have a := hA.1 t s h1 h2
  have e5 : (m_crash X k).1 5 t = if k = 4 then 0 else X.1 5 t := by simp [m_crash, h1]
  have e6 : (m_crash X k).1 6 t = if k = 4 then 0 else X.1 6 t := by simp [m_crash, h1]
  show z_q (z_pt X t s) (X.1 9 (8 * s + t)) (X.1 7 t) ((m_crash X k).1 5 t / 2 ^ s % 2) ((m_crash X k).1 6 t / 2 ^ s % 2) (X.1 8 t)
  rw [e5, e6]
  split
  · unfold z_X z_q at a
    unfold z_q
    rw [Nat.zero_div]
    exact ⟨a.1, a.2.1, fun c => absurd c (by decide), fun c => absurd c (by decide), a.2.2.2.2⟩
  · exact a
theorem ag_begin {X : qm} (hJ : J X) (hA : Ag X) {f to sz : Nat} (hT : X.1 0 0 < 8) : Ag (m_begin X f to sz) := by
  have hc : Ag (m_write (xs (xs (xs (xs X 0 0 (X.1 0 0 + 1)) 2 (X.1 0 0) f) 3 (X.1 0 0) to) 4 (X.1 0 0) sz) 4 0 (X.1 0 0)) := by
    generalize hY : m_write (xs (xs (xs (xs X 0 0 (X.1 0 0 + 1)) 2 (X.1 0 0) f) 3 (X.1 0 0) to) 4 (X.1 0 0) sz) 4 0 (X.1 0 0) = Y
    have e0 : Y.1 0 0 = X.1 0 0 + 1 := by subst hY; simp [m_write, xs]
    have e04 : Y.1 0 4 = X.1 0 4 := by subst hY; rfl
    have e2 : ∀ i, i ≠ X.1 0 0 → Y.1 2 i = X.1 2 i := fun i hi => by subst hY; simp [m_write, xs, hi]
    have e3 : ∀ i, i ≠ X.1 0 0 → Y.1 3 i = X.1 3 i := fun i hi => by subst hY; simp [m_write, xs, hi]
    have e5 : ∀ i, Y.1 5 i = X.1 5 i := fun i => by subst hY; rfl
    have e6 : ∀ i, Y.1 6 i = X.1 6 i := fun i => by subst hY; rfl
    have e7 : ∀ i, Y.1 7 i = X.1 7 i := fun i => by subst hY; rfl
    have e8 : ∀ i, Y.1 8 i = X.1 8 i := fun i => by subst hY; rfl
    have e9 : ∀ i, Y.1 9 i = X.1 9 i := fun i => by subst hY; rfl
    have e12 : ∀ i, Y.1 12 i = X.1 12 i := fun i => by subst hY; rfl
    clear hY
    refine ⟨fun t s h1 h2 => ?_, fun k hk => ?_⟩
    · rw [e0] at h1
      unfold z_X z_pt m_part
      rw [e5, e6, e7, e8, e9]
      by_cases q : t = X.1 0 0
      · have a := iV5 hJ.1 t (by omega) (by omega)
        have b := (iV6 hJ.1 s t h2 (by omega)).2 (by omega)
        rw [a.2.2.2.1, a.2.2.2.2.1, a.2.2.2.2.2.1, a.2.2.2.2.2.2, b]
        unfold z_q
        rw [Nat.zero_div]
        omega
      · rw [e2 _ q, e3 _ q]
        exact hA.1 t s (by omega) h2
    · rw [e04] at hk
      rw [e12]
      have r := iV10 hJ.1 k hk
      unfold z_M z_pt m_part
      rw [e7, e9, e2 _ (by omega), e3 _ (by omega)]
      exact hA.2 k hk
  unfold m_begin
  refine ag_sendN hc hT (fun s hs h => ?_) 4 (Nat.le_refl _)
  have e : m_part (m_write (xs (xs (xs (xs X 0 0 (X.1 0 0 + 1)) 2 (X.1 0 0) f) 3 (X.1 0 0) to) 4 (X.1 0 0) sz) 4 0 (X.1 0 0)) (X.1 0 0) = to ||| 2 ^ f := by simp [m_part, m_write, xs]
  unfold z_pt
  rw [e, h]
  unfold z_m
  omega
theorem ag_first : ∀ (n : Nat) (X : qm), J X → Ag X → Ag (m_first n X) := by
  intro n
  induction n with
  | zero => intro X _ h; exact h
  | succ n ih =>
    intro X hJ hA
    rw [m_first]
    split
    · next h => exact ih _ (j_deliver hJ h) (ag_deliver hJ hA h)
    · exact hA
theorem ag_new : Ag m_new := by
  refine ⟨fun t s h1 _ => absurd h1 (Nat.not_lt_zero t), fun k hk => absurd hk (Nat.not_lt_zero k)⟩
