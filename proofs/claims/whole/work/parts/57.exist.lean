/-! EVERY CALL HAS AN OUTCOME, AND THE STATE STAYS GOOD -/
def Gr (k : Nat) (X Y : qm) : Prop := Y.1 0 1 ≤ X.1 0 1 + k ∧ Y.1 0 2 + Y.1 0 3 + Y.1 0 4 + X.1 0 1 = X.1 0 2 + X.1 0 3 + X.1 0 4 + Y.1 0 1
theorem gr_pay {X Y : qm} {c k : Nat} (h : Pay X Y c k) : Gr k X Y := h.2
theorem gr_le {X Y : qm} {k m : Nat} (h : Gr k X Y) (hk : k ≤ m) : Gr m X Y := ⟨by have := h.1; omega, h.2⟩
theorem gr_trans {X Y Z : qm} {k m : Nat} (h : Gr k X Y) (h2 : Gr m Y Z) : Gr (k + m) X Z := by
  obtain ⟨a, b⟩ := h
  obtain ⟨c, d⟩ := h2
  exact ⟨by omega, by omega⟩
theorem gr_refl (X : qm) : Gr 0 X X := ⟨Nat.le_refl _, rfl⟩
theorem bd_gr {X Y : qm} {n k : Nat} (hB : Bd n X) (h : Gr k X Y) : Bd (n + k) Y := by
  obtain ⟨a, b⟩ := hB
  obtain ⟨c, d⟩ := h
  exact ⟨by omega, by omega⟩
theorem bd_mono {X : qm} {n m : Nat} (hB : Bd n X) (h : n ≤ m) : Bd m X := ⟨Nat.le_trans hB.1 h, hB.2⟩
theorem gr_begin {X : qm} {f to sz : Nat} (hT : X.1 0 0 < 8) : Gr 4 X (m_begin X f to sz) := by
  have a := pay_sendN (X := m_write (xs (xs (xs (xs X 0 0 (X.1 0 0 + 1)) 2 (X.1 0 0) f) 3 (X.1 0 0) to) 4 (X.1 0 0) sz) 4 0 (X.1 0 0)) (k := 0) (t := X.1 0 0) (m := to ||| 2 ^ f) hT 4 (Nat.le_refl _)
  exact ⟨a.2.1, a.2.2⟩
theorem gr_first (n : Nat) {X : qm} (hJ : J X) : Gr (4 * n) X (m_first n X) := ⟨(j_first n X hJ).2.2.2.1, (j_first n X hJ).2.2.2.2⟩
theorem gr_lose {X : qm} {p : Nat} (hp : p < X.1 0 4) : Gr 0 X (m_lose X p) := by
  refine ⟨Nat.le_refl _, ?_⟩
  show X.1 0 2 + (X.1 0 3 + 1) + (X.1 0 4 - 1) + X.1 0 1 = X.1 0 2 + X.1 0 3 + X.1 0 4 + X.1 0 1
  omega
theorem gr_crash (X : qm) (k : Nat) : Gr 0 X (m_crash X k) := gr_pay (pay_same (fun i => by simp [m_crash]) (fun i => by simp [m_crash]))
theorem gr_deliver {X : qm} (hJ : J X) {p : Nat} (hp : p < X.1 0 4) : Gr 4 X (m_deliver X p) := ⟨(pay_deliver hJ hp).2.2.1, (pay_deliver hJ hp).2.2.2⟩
theorem t_gr_do {s : qt} {X : qm} (hw : t_wf s) (he : t_end s = true) (hJ : J X) (hc : t_can s X = true) : Gr 40 X (t_do s X) := by
  have f := t_end_fi hw he
  unfold t_can at hc
  unfold t_do
  by_cases h1 : s.2.1 = 98
  · rw [if_pos h1] at hc ⊢
    exact gr_le (gr_begin (of_decide_eq_true hc).2) (by omega)
  rw [if_neg h1] at hc ⊢
  have l := t_let_of (t_end_8 hw he h1).2.1
  by_cases h2 : s.2.1 = 100
  · rw [if_pos h2]; exact gr_le (gr_first _ hJ) (by omega)
  rw [if_neg h2] at hc ⊢
  by_cases h3 : s.2.1 = 108
  · rw [if_pos h3] at hc ⊢; exact gr_le (gr_lose (of_decide_eq_true hc)) (by omega)
  rw [if_neg h3] at hc ⊢
  by_cases h4 : s.2.1 = 99
  · rw [if_pos h4]; exact gr_le (gr_crash _ _) (by omega)
  rw [if_neg h4] at hc ⊢
  by_cases h5 : s.2.1 = 114
  · rw [if_pos h5]; exact gr_le (gr_pay (pay_recover hJ (f.2.1 (Or.inr h5)))) (by omega)
  rw [if_neg h5] at hc ⊢
  by_cases h6 : s.2.1 = 103
  · rw [if_pos h6] at hc ⊢
    have b := of_decide_eq_true hc
    exact gr_le (gr_pay (pay_decide (f.2.2.1 h6) (Or.inr rfl))) (by omega)
  rw [if_neg h6] at hc ⊢
  exact gr_le (gr_pay (pay_send (f.2.2.2 (by omega)).2 (f.2.2.2 (by omega)).1)) (by omega)
theorem t_gr_ex : ∀ (l : List qt) (X : qm) (k : Nat), (∀ s ∈ l, t_wf s ∧ t_end s = true) → J X → J (t_ex l X k).1 ∧ Gr (40 * l.length) X (t_ex l X k).1 := by
  intro l
  induction l with
  | nil => intro X k _ hJ; exact ⟨hJ, gr_le (gr_refl X) (Nat.zero_le _)⟩
  | cons s r ih =>
    intro X k h hJ
    rw [t_ex]
    have hs := h s List.mem_cons_self
    by_cases hc : t_can s X = true
    · rw [if_pos hc]
      have a := ih (t_do s X) (k + 1) (fun x hx => h x (List.mem_cons_of_mem _ hx)) (j_do hs.1 hs.2 hJ hc)
      exact ⟨a.1, gr_le (gr_trans (t_gr_do hs.1 hs.2 hJ hc) a.2) (by rw [List.length_cons]; omega)⟩
    · rw [if_neg hc]
      exact ⟨hJ, gr_le (gr_refl X) (Nat.zero_le _)⟩
theorem t_all {tx : Nat → Nat} : ∀ (m i : Nat) (s : qt), t_wf s → (t_go tx m s i).1 = i + m → t_end (t_go tx m s i).2 = true → ∀ x ∈ t_lst tx m s i, t_wf x ∧ t_end x = true := by
  intro m
  induction m with
  | zero =>
    intro i s hw _ he x hx
    rw [t_lst, List.mem_singleton] at hx
    rw [hx]
    exact ⟨hw, he⟩
  | succ m ih =>
    intro i s hw h1 h2 x hx
    cases hs : t_step s (tx i) with
    | none =>
      rw [t_go, hs] at h1
      dsimp only at h1
      omega
    | some s2 =>
      rw [t_go, hs] at h1 h2
      rw [t_lst, hs] at hx
      dsimp only at h1 h2 hx
      have a := ih (i + 1) s2 (t_wf_step hw hs) (by omega) h2
      by_cases h59 : tx i = 59
      · rw [if_pos h59] at hx
        rcases List.mem_cons.mp hx with rfl | hx
        · exact ⟨hw, t_end_59 hw.1 (by rw [← h59]; exact hs)⟩
        · exact a x hx
      · rw [if_neg h59] at hx
        exact a x hx
theorem t_gr_run {tx : Nat → Nat} {n : Nat} {X : qm} (hJ : J X) (hok : t_ok tx n = true) (hn : n ≤ 60) : J (t_run tx n X).1 ∧ Gr 2400 X (t_run tx n X).1 := by
  have hl := t_lst_len hok hn
  have h2 := hok
  unfold t_ok at h2
  rw [Bool.and_eq_true] at h2
  have he := of_decide_eq_true h2.1
  unfold t_err at he
  have a := t_gr_ex (t_lst tx n t_0 0) X 0 (t_all n 0 t_0 t_wf_0 (by omega) h2.2) hJ
  exact ⟨a.1, gr_le a.2 (by omega)⟩
theorem ga_mono {n m : Nat} {A : qA} (h : n ≤ m) (hG : GA n A) : GA m A := by
  obtain ⟨⟨hJ, hBd⟩, hC, hGS, hN, hGY, hL, hT⟩ := hG
  exact ⟨⟨hJ, bd_mono hBd h⟩, hC, fun i hi => ⟨(hGS i hi).1, bd_mono (hGS i hi).2 h⟩, hN, fun q => ⟨(hGY q).1, bd_mono (hGY q).2 h⟩, hL, hT⟩
theorem ga_mv {n m : Nat} {A : qA} {X : qm} (h : n ≤ m) (hG : GA n A) (hJX : J X) (hBX : Bd m X) : GA m (a_mv A X) := by
  have hG2 := ga_mono h hG
  obtain ⟨⟨hJ, hBd⟩, hC, hGS, hN, hGY, hL, hT⟩ := hG2
  refine ⟨⟨hJX, hBX⟩, ?_, fun i hi => ?_, hN, hGY, hL, hT⟩
  · show m_svC (aC A) ≤ 6
    unfold m_svC
    split <;> omega
  · have hi : i < m_svC (aC A) := hi
    show J (m_sv (aC A) (aS A) (aX A) i) ∧ Bd m (m_sv (aC A) (aS A) (aX A) i)
    unfold m_svC at hi
    unfold m_sv
    by_cases q : aC A = 6
    · rw [if_pos q] at hi ⊢
      try dsimp only
      by_cases q2 : i = 5
      · rw [if_pos q2]; exact ⟨hJ, hBd⟩
      · rw [if_neg q2]; exact hGS _ (by omega)
    · rw [if_neg q] at hi ⊢
      try dsimp only
      by_cases q2 : i = aC A
      · rw [if_pos q2]; exact ⟨hJ, hBd⟩
      · rw [if_neg q2]; exact hGS _ (by omega)
theorem x_rng {z : Int32} {a b : Nat} (ha : a < 2 ^ 31) (hb : b < 2 ^ 31) (h : ¬ z < nI a ∧ ¬ nI b < z) : ∃ k, a ≤ k ∧ k ≤ b ∧ z = nI k := by
  have h0 : ¬ z < 0 := fun q => h.1 (Int32.lt_of_lt_of_le q (nI_pos' ha))
  obtain ⟨k, hk, rfl⟩ := nI_of h0
  exact ⟨k, Nat.le_of_not_lt fun q => h.1 ((nI_ltI hk ha).mpr q), Nat.le_of_not_lt fun q => h.2 ((nI_ltI hb hk).mpr q), rfl⟩
theorem x_nn {x : Int32} (h : ¬ ¬ 0 ≤ x) : ∃ p, p < 2 ^ 31 ∧ x = nI p := by
  obtain ⟨k, hk, e⟩ := nI_of (x := x) (Int32.not_lt.mpr (Classical.not_not.mp h))
  exact ⟨k, hk, e⟩
theorem x_begin {n : Nat} {A : qA} (hG : GA n A) (x y z : Int32) : ∃ code v A2, code ≤ 3 ∧ S_begin A x y z code v A2 ∧ GA (n + 2400) A2 := by
  have hG0 := hG
  obtain ⟨⟨hJ, hBd⟩, hC, hGS, hN, hGY, hL, hT⟩ := hG0
  have hT8 := iV1 hJ.1
  have hW60 := iV2 hJ.1
  by_cases hq : i_in x 4 = false
  · exact ⟨_, 0, _, by decide, Or.inl ⟨hq, rfl, rfl⟩, ga_mono (Nat.le_add_right n 2400) hG⟩
  obtain ⟨f, hf, rfl⟩ := i_in_of (x := x) (n := 4) (by decide) (by simpa using hq)
  by_cases hy : i_to f y = false
  · exact ⟨_, 0, _, by decide, Or.inr (Or.inl ⟨f, hf, rfl, hy, rfl, rfl⟩), ga_mono (Nat.le_add_right n 2400) hG⟩
  obtain ⟨to, t1, t2, t3, rfl⟩ := i_to_of hf (by simpa using hy)
  by_cases hz : ¬ (¬ z < nI 1 ∧ ¬ nI 50 < z)
  · exact ⟨_, 0, _, by decide, Or.inr (Or.inr (Or.inl ⟨f, to, hf, rfl, t1, t2, t3, rfl, hz, rfl, rfl⟩)), ga_mono (Nat.le_add_right n 2400) hG⟩
  obtain ⟨sz, z1, z2, rfl⟩ := x_rng (by decide) (by decide) (Classical.not_not.mp hz)
  by_cases c9 : ((aX A).1 1 4 = 1 ∧ (aX A).1 0 0 < 8)
  · exact ⟨_, _, _, by decide, Or.inr (Or.inr (Or.inr (Or.inr (⟨f, to, sz, hf, rfl, t1, t2, t3, rfl, z1, z2, rfl, c9, rfl, rfl, rfl⟩)))), ga_mv (Nat.le_add_right n 2400) hG (j_begin hJ c9.2 hf t1 t2 t3 z1 z2) (bd_gr hBd (gr_le (gr_begin c9.2) (by omega)))⟩
  exact ⟨_, 0, _, by decide, Or.inr (Or.inr (Or.inr (Or.inl ⟨f, to, sz, hf, rfl, t1, t2, t3, rfl, z1, z2, rfl, c9, rfl, rfl⟩))), ga_mono (Nat.le_add_right n 2400) hG⟩
theorem x_giveUp {n : Nat} {A : qA} (hG : GA n A) (x : Int32) : ∃ code v A2, code ≤ 3 ∧ S_giveUp A x code v A2 ∧ GA (n + 2400) A2 := by
  have hG0 := hG
  obtain ⟨⟨hJ, hBd⟩, hC, hGS, hN, hGY, hL, hT⟩ := hG0
  have hT8 := iV1 hJ.1
  have hW60 := iV2 hJ.1
  by_cases hb0 : i_in x ((aX A).1 0 0) = false
  · exact ⟨_, 0, _, by decide, Or.inl ⟨hb0, rfl, rfl⟩, ga_mono (Nat.le_add_right n 2400) hG⟩
  obtain ⟨t, ht, rfl⟩ := i_in_of (x := x) (n := (aX A).1 0 0) (by omega) (by simpa using hb0)
  by_cases cc : ((aX A).1 1 4 = 1 ∧ (aX A).1 7 t = 0)
  · exact ⟨_, _, _, by decide, Or.inr (Or.inr (⟨t, ht, rfl, cc, rfl, rfl, rfl⟩)), ga_mv (Nat.le_add_right n 2400) hG (j_decide hJ ht cc.2 (Or.inr rfl)) (bd_gr hBd (gr_le (gr_pay (pay_decide (Nat.lt_of_lt_of_le ht hT8) (Or.inr rfl))) (by omega)))⟩
  exact ⟨_, 0, _, by decide, Or.inr (Or.inl ⟨t, ht, rfl, cc, rfl, rfl⟩), ga_mono (Nat.le_add_right n 2400) hG⟩
theorem x_ask {n : Nat} {A : qA} (hG : GA n A) (x y : Int32) : ∃ code v A2, code ≤ 3 ∧ S_ask A x y code v A2 ∧ GA (n + 2400) A2 := by
  have hG0 := hG
  obtain ⟨⟨hJ, hBd⟩, hC, hGS, hN, hGY, hL, hT⟩ := hG0
  have hT8 := iV1 hJ.1
  have hW60 := iV2 hJ.1
  by_cases hb0 : i_in x 4 = false
  · exact ⟨_, 0, _, by decide, Or.inl ⟨hb0, rfl, rfl⟩, ga_mono (Nat.le_add_right n 2400) hG⟩
  obtain ⟨s, hs, rfl⟩ := i_in_of (x := x) (n := 4) (by omega) (by simpa using hb0)
  by_cases hb1 : i_in y ((aX A).1 0 0) = false
  · exact ⟨_, 0, _, by decide, Or.inr (Or.inl ⟨s, hs, rfl, hb1, rfl, rfl⟩), ga_mono (Nat.le_add_right n 2400) hG⟩
  obtain ⟨t, ht, rfl⟩ := i_in_of (x := y) (n := (aX A).1 0 0) (by omega) (by simpa using hb1)
  by_cases cc : ((aX A).1 1 s = 1 ∧ (aX A).1 9 (8 * s + t) = 1)
  · exact ⟨_, _, _, by decide, Or.inr (Or.inr (Or.inr (⟨s, t, hs, rfl, ht, rfl, cc, rfl, rfl, rfl⟩))), ga_mv (Nat.le_add_right n 2400) hG (j_send hJ (by decide) ht hs (fun q => absurd q (by decide))) (bd_gr hBd (gr_le (gr_pay (pay_send (Nat.lt_of_lt_of_le ht hT8) hs)) (by omega)))⟩
  exact ⟨_, 0, _, by decide, Or.inr (Or.inr (Or.inl ⟨s, t, hs, rfl, ht, rfl, cc, rfl, rfl⟩)), ga_mono (Nat.le_add_right n 2400) hG⟩
theorem x_deliver {n : Nat} {A : qA} (hG : GA n A) (x : Int32) : ∃ code v A2, code ≤ 3 ∧ S_deliver A x code v A2 ∧ GA (n + 2400) A2 := by
  have hG0 := hG
  obtain ⟨⟨hJ, hBd⟩, hC, hGS, hN, hGY, hL, hT⟩ := hG0
  have hT8 := iV1 hJ.1
  have hW60 := iV2 hJ.1
  by_cases hb0 : i_in x ((aX A).1 0 4) = false
  · exact ⟨_, 0, _, by decide, Or.inl ⟨hb0, rfl, rfl⟩, ga_mono (Nat.le_add_right n 2400) hG⟩
  obtain ⟨p, hp, rfl⟩ := i_in_of (x := x) (n := (aX A).1 0 4) (by omega) (by simpa using hb0)
  exact ⟨_, _, _, by decide, Or.inr (⟨p, hp, rfl, rfl, rfl, rfl⟩), ga_mv (Nat.le_add_right n 2400) hG (j_deliver hJ hp) (bd_gr hBd (gr_le (gr_deliver hJ hp) (by omega)))⟩
theorem x_deliverAll {n : Nat} {A : qA} (hG : GA n A) : ∃ code v A2, code ≤ 3 ∧ S_deliverAll A code v A2 ∧ GA (n + 2400) A2 := by
  have hG0 := hG
  obtain ⟨⟨hJ, hBd⟩, hC, hGS, hN, hGY, hL, hT⟩ := hG0
  have hT8 := iV1 hJ.1
  have hW60 := iV2 hJ.1
  exact ⟨_, _, _, by decide, ⟨rfl, rfl, rfl⟩, ga_mv (Nat.le_add_right n 2400) hG ((j_first 600 _ hJ).1) (bd_gr hBd (gr_le (gr_first 600 hJ) (by omega)))⟩
theorem x_lose {n : Nat} {A : qA} (hG : GA n A) (x : Int32) : ∃ code v A2, code ≤ 3 ∧ S_lose A x code v A2 ∧ GA (n + 2400) A2 := by
  have hG0 := hG
  obtain ⟨⟨hJ, hBd⟩, hC, hGS, hN, hGY, hL, hT⟩ := hG0
  have hT8 := iV1 hJ.1
  have hW60 := iV2 hJ.1
  by_cases hb0 : i_in x ((aX A).1 0 4) = false
  · exact ⟨_, 0, _, by decide, Or.inl ⟨hb0, rfl, rfl⟩, ga_mono (Nat.le_add_right n 2400) hG⟩
  obtain ⟨p, hp, rfl⟩ := i_in_of (x := x) (n := (aX A).1 0 4) (by omega) (by simpa using hb0)
  exact ⟨_, _, _, by decide, Or.inr (⟨p, hp, rfl, rfl, rfl, rfl⟩), ga_mv (Nat.le_add_right n 2400) hG (j_lose hJ hp) (bd_gr hBd (gr_le (gr_lose hp) (by omega)))⟩
theorem x_crash {n : Nat} {A : qA} (hG : GA n A) (x : Int32) : ∃ code v A2, code ≤ 3 ∧ S_crash A x code v A2 ∧ GA (n + 2400) A2 := by
  have hG0 := hG
  obtain ⟨⟨hJ, hBd⟩, hC, hGS, hN, hGY, hL, hT⟩ := hG0
  have hT8 := iV1 hJ.1
  have hW60 := iV2 hJ.1
  by_cases hb0 : i_in x 5 = false
  · exact ⟨_, 0, _, by decide, Or.inl ⟨hb0, rfl, rfl⟩, ga_mono (Nat.le_add_right n 2400) hG⟩
  obtain ⟨k, hk, rfl⟩ := i_in_of (x := x) (n := 5) (by omega) (by simpa using hb0)
  by_cases cc : (aX A).1 1 k = 1
  · exact ⟨_, _, _, by decide, Or.inr (Or.inr (⟨k, hk, rfl, cc, rfl, rfl, rfl⟩)), ga_mv (Nat.le_add_right n 2400) hG (j_crash hJ k) (bd_gr hBd (gr_le (gr_crash _ k) (by omega)))⟩
  exact ⟨_, 0, _, by decide, Or.inr (Or.inl ⟨k, hk, rfl, cc, rfl, rfl⟩), ga_mono (Nat.le_add_right n 2400) hG⟩
theorem x_recover {n : Nat} {A : qA} (hG : GA n A) (x : Int32) : ∃ code v A2, code ≤ 3 ∧ S_recover A x code v A2 ∧ GA (n + 2400) A2 := by
  have hG0 := hG
  obtain ⟨⟨hJ, hBd⟩, hC, hGS, hN, hGY, hL, hT⟩ := hG0
  have hT8 := iV1 hJ.1
  have hW60 := iV2 hJ.1
  by_cases hb0 : i_in x 5 = false
  · exact ⟨_, 0, _, by decide, Or.inl ⟨hb0, rfl, rfl⟩, ga_mono (Nat.le_add_right n 2400) hG⟩
  obtain ⟨k, hk, rfl⟩ := i_in_of (x := x) (n := 5) (by omega) (by simpa using hb0)
  by_cases cc : (aX A).1 1 k = 1
  · exact ⟨_, 0, _, by decide, Or.inr (Or.inl ⟨k, hk, rfl, cc, rfl, rfl⟩), ga_mono (Nat.le_add_right n 2400) hG⟩
  exact ⟨_, _, _, by decide, Or.inr (Or.inr (⟨k, hk, rfl, cc, rfl, rfl, rfl⟩)), ga_mv (Nat.le_add_right n 2400) hG (j_recover hJ hk) (bd_gr hBd (gr_le (gr_pay (pay_recover hJ hk)) (by omega)))⟩
theorem x_append {n : Nat} {A : qA} (hG : GA n A) (x : Int32) : ∃ code v A2, code ≤ 3 ∧ S_append A x code v A2 ∧ GA (n + 2400) A2 := by
  have hG0 := hG
  obtain ⟨⟨hJ, hBd⟩, hC, hGS, hN, hGY, hL, hT⟩ := hG0
  have hT8 := iV1 hJ.1
  have hW60 := iV2 hJ.1
  by_cases hz : ¬ (¬ x < nI 33 ∧ ¬ nI 126 < x)
  · exact ⟨_, 0, _, by decide, Or.inl ⟨hz, rfl, rfl⟩, ga_mono (Nat.le_add_right n 2400) hG⟩
  obtain ⟨k, k1, k2, rfl⟩ := x_rng (by decide) (by decide) (Classical.not_not.mp hz)
  by_cases hl : aL A = 60
  · exact ⟨_, 0, _, by decide, Or.inr (Or.inl ⟨k, k1, k2, rfl, hl, rfl, rfl⟩), ga_mono (Nat.le_add_right n 2400) hG⟩
  exact ⟨_, _, _, by decide, Or.inr (Or.inr (⟨k, k1, k2, rfl, (by omega), rfl, rfl, rfl⟩)), (by
          have hG2 := ga_mono (Nat.le_add_right n 2400) hG
          obtain ⟨g1, g2, g3, g4, g5, g6, g7⟩ := hG2
          refine ⟨g1, g2, g3, g4, g5, by show aL A + 1 ≤ 60; omega, fun i hi => ?_⟩
          have hi : i < aL A + 1 := hi
          show 33 ≤ (if i = aL A then k else aT A i) ∧ (if i = aL A then k else aT A i) ≤ 126
          by_cases q : i = aL A
          · rw [if_pos q]; exact ⟨k1, k2⟩
          · rw [if_neg q]; exact g7 i (by omega))⟩
theorem x_clearBuffer {n : Nat} {A : qA} (hG : GA n A) : ∃ code v A2, code ≤ 3 ∧ S_clearBuffer A code v A2 ∧ GA (n + 2400) A2 := by
  have hG0 := hG
  obtain ⟨⟨hJ, hBd⟩, hC, hGS, hN, hGY, hL, hT⟩ := hG0
  have hT8 := iV1 hJ.1
  have hW60 := iV2 hJ.1
  exact ⟨_, _, _, by decide, ⟨rfl, rfl, rfl⟩, (by
          obtain ⟨g1, g2, g3, g4, g5, g6, g7⟩ := ga_mono (Nat.le_add_right n 2400) hG
          exact ⟨g1, g2, g3, g4, g5, Nat.zero_le _, fun i hi => absurd hi (Nat.not_lt_zero i)⟩)⟩
theorem x_firstError {n : Nat} {A : qA} (hG : GA n A) : ∃ code v A2, code ≤ 3 ∧ S_firstError A code v A2 ∧ GA (n + 2400) A2 := by
  have hG0 := hG
  obtain ⟨⟨hJ, hBd⟩, hC, hGS, hN, hGY, hL, hT⟩ := hG0
  have hT8 := iV1 hJ.1
  have hW60 := iV2 hJ.1
  exact ⟨_, _, _, by decide, ⟨rfl, rfl, rfl⟩, ga_mono (Nat.le_add_right n 2400) hG⟩
theorem x_runCourse {n : Nat} {A : qA} (hG : GA n A) : ∃ code v A2, code ≤ 3 ∧ S_runCourse A code v A2 ∧ GA (n + 2400) A2 := by
  have hG0 := hG
  obtain ⟨⟨hJ, hBd⟩, hC, hGS, hN, hGY, hL, hT⟩ := hG0
  have hT8 := iV1 hJ.1
  have hW60 := iV2 hJ.1
  by_cases hn0 : t_ok (aT A) (aL A) = false
  · exact ⟨_, 0, _, by decide, Or.inl ⟨hn0, rfl, rfl⟩, ga_mono (Nat.le_add_right n 2400) hG⟩
  have cc : t_ok (aT A) (aL A) = true := by simpa using hn0
  exact ⟨_, _, _, by decide, Or.inr (⟨cc, rfl, rfl, rfl⟩), (by
          obtain ⟨g1, g2, g3, g4, g5, g6, g7⟩ := ga_mv (Nat.le_add_right n 2400) hG (t_gr_run hJ cc hL).1 (bd_gr hBd (t_gr_run hJ cc hL).2)
          exact ⟨g1, g2, g3, g4, g5, Nat.zero_le _, fun i hi => absurd hi (Nat.not_lt_zero i)⟩)⟩
theorem x_keep {n : Nat} {A : qA} (hG : GA n A) : ∃ code v A2, code ≤ 3 ∧ S_keep A code v A2 ∧ GA (n + 2400) A2 := by
  have hG0 := hG
  obtain ⟨⟨hJ, hBd⟩, hC, hGS, hN, hGY, hL, hT⟩ := hG0
  have hT8 := iV1 hJ.1
  have hW60 := iV2 hJ.1
  exact ⟨_, _, _, by decide, ⟨rfl, rfl, rfl⟩, (by
          obtain ⟨g1, g2, g3, g4, g5, g6, g7⟩ := ga_mono (Nat.le_add_right n 2400) hG
          exact ⟨g1, g2, g3, Nat.le_refl _, fun _ => g1, g6, g7⟩)⟩
theorem x_goBack {n : Nat} {A : qA} (hG : GA n A) : ∃ code v A2, code ≤ 3 ∧ S_goBack A code v A2 ∧ GA (n + 2400) A2 := by
  have hG0 := hG
  obtain ⟨⟨hJ, hBd⟩, hC, hGS, hN, hGY, hL, hT⟩ := hG0
  have hT8 := iV1 hJ.1
  have hW60 := iV2 hJ.1
  by_cases hn0 : aN A = 0
  · exact ⟨_, 0, _, by decide, Or.inl ⟨hn0, rfl, rfl⟩, ga_mono (Nat.le_add_right n 2400) hG⟩
  have cc : aN A = 1 := by omega
  exact ⟨_, _, _, by decide, Or.inr (⟨cc, rfl, rfl, rfl⟩), ga_mv (Nat.le_add_right n 2400) hG (hGY cc).1 (bd_mono (hGY cc).2 (Nat.le_add_right n 2400))⟩
theorem x_undo {n : Nat} {A : qA} (hG : GA n A) : ∃ code v A2, code ≤ 3 ∧ S_undo A code v A2 ∧ GA (n + 2400) A2 := by
  have hG0 := hG
  obtain ⟨⟨hJ, hBd⟩, hC, hGS, hN, hGY, hL, hT⟩ := hG0
  have hT8 := iV1 hJ.1
  have hW60 := iV2 hJ.1
  by_cases hn0 : aC A = 0
  · exact ⟨_, 0, _, by decide, Or.inl ⟨hn0, rfl, rfl⟩, ga_mono (Nat.le_add_right n 2400) hG⟩
  have cc : 1 ≤ aC A := by omega
  exact ⟨_, _, _, by decide, Or.inr (⟨cc, rfl, rfl, rfl⟩), (by
          obtain ⟨g1, g2, g3, g4, g5, g6, g7⟩ := ga_mono (Nat.le_add_right n 2400) hG
          have hi : aC A - 1 < aC A := by omega
          exact ⟨g3 _ hi, by show aC A - 1 ≤ 6; omega, fun i hi => by have hi : i < aC A - 1 := hi; exact g3 i (by omega), g4, g5, g6, g7⟩)⟩
theorem x_transfers {n : Nat} {A : qA} (hG : GA n A) : ∃ code v A2, code ≤ 3 ∧ S_transfers A code v A2 ∧ GA (n + 2400) A2 := by
  have hG0 := hG
  obtain ⟨⟨hJ, hBd⟩, hC, hGS, hN, hGY, hL, hT⟩ := hG0
  have hT8 := iV1 hJ.1
  have hW60 := iV2 hJ.1
  exact ⟨_, _, _, by decide, ⟨rfl, rfl, rfl⟩, ga_mono (Nat.le_add_right n 2400) hG⟩
theorem x_partners {n : Nat} {A : qA} (hG : GA n A) (x : Int32) : ∃ code v A2, code ≤ 3 ∧ S_partners A x code v A2 ∧ GA (n + 2400) A2 := by
  have hG0 := hG
  obtain ⟨⟨hJ, hBd⟩, hC, hGS, hN, hGY, hL, hT⟩ := hG0
  have hT8 := iV1 hJ.1
  have hW60 := iV2 hJ.1
  by_cases hb0 : i_in x ((aX A).1 0 0) = false
  · exact ⟨_, 0, _, by decide, Or.inl ⟨hb0, rfl, rfl⟩, ga_mono (Nat.le_add_right n 2400) hG⟩
  obtain ⟨t, ht, rfl⟩ := i_in_of (x := x) (n := (aX A).1 0 0) (by omega) (by simpa using hb0)
  exact ⟨_, _, _, by decide, Or.inr (⟨t, ht, rfl, rfl, rfl, rfl⟩), ga_mono (Nat.le_add_right n 2400) hG⟩
theorem x_share {n : Nat} {A : qA} (hG : GA n A) (x y : Int32) : ∃ code v A2, code ≤ 3 ∧ S_share A x y code v A2 ∧ GA (n + 2400) A2 := by
  have hG0 := hG
  obtain ⟨⟨hJ, hBd⟩, hC, hGS, hN, hGY, hL, hT⟩ := hG0
  have hT8 := iV1 hJ.1
  have hW60 := iV2 hJ.1
  by_cases hb0 : i_in x ((aX A).1 0 0) = false
  · exact ⟨_, 0, _, by decide, Or.inl ⟨hb0, rfl, rfl⟩, ga_mono (Nat.le_add_right n 2400) hG⟩
  obtain ⟨t, ht, rfl⟩ := i_in_of (x := x) (n := (aX A).1 0 0) (by omega) (by simpa using hb0)
  by_cases hb1 : i_in y 4 = false
  · exact ⟨_, 0, _, by decide, Or.inr (Or.inl ⟨t, ht, rfl, hb1, rfl, rfl⟩), ga_mono (Nat.le_add_right n 2400) hG⟩
  obtain ⟨s, hs, rfl⟩ := i_in_of (x := y) (n := 4) (by omega) (by simpa using hb1)
  exact ⟨_, _, _, by decide, Or.inr (Or.inr (⟨t, s, ht, rfl, hs, rfl, rfl, rfl, rfl⟩)), ga_mono (Nat.le_add_right n 2400) hG⟩
theorem x_isUp {n : Nat} {A : qA} (hG : GA n A) (x : Int32) : ∃ code v A2, code ≤ 3 ∧ S_isUp A x code v A2 ∧ GA (n + 2400) A2 := by
  have hG0 := hG
  obtain ⟨⟨hJ, hBd⟩, hC, hGS, hN, hGY, hL, hT⟩ := hG0
  have hT8 := iV1 hJ.1
  have hW60 := iV2 hJ.1
  by_cases hb0 : i_in x 5 = false
  · exact ⟨_, 0, _, by decide, Or.inl ⟨hb0, rfl, rfl⟩, ga_mono (Nat.le_add_right n 2400) hG⟩
  obtain ⟨k, hk, rfl⟩ := i_in_of (x := x) (n := 5) (by omega) (by simpa using hb0)
  exact ⟨_, _, _, by decide, Or.inr (⟨k, hk, rfl, rfl, rfl, rfl⟩), ga_mono (Nat.le_add_right n 2400) hG⟩
theorem x_amount {n : Nat} {A : qA} (hG : GA n A) (x : Int32) : ∃ code v A2, code ≤ 3 ∧ S_amount A x code v A2 ∧ GA (n + 2400) A2 := by
  have hG0 := hG
  obtain ⟨⟨hJ, hBd⟩, hC, hGS, hN, hGY, hL, hT⟩ := hG0
  have hT8 := iV1 hJ.1
  have hW60 := iV2 hJ.1
  by_cases hb0 : i_in x 4 = false
  · exact ⟨_, 0, _, by decide, Or.inl ⟨hb0, rfl, rfl⟩, ga_mono (Nat.le_add_right n 2400) hG⟩
  obtain ⟨s, hs, rfl⟩ := i_in_of (x := x) (n := 4) (by omega) (by simpa using hb0)
  exact ⟨_, _, _, by decide, Or.inr (⟨s, hs, rfl, rfl, rfl, rfl⟩), ga_mono (Nat.le_add_right n 2400) hG⟩
theorem x_amountByLog {n : Nat} {A : qA} (hG : GA n A) (x : Int32) : ∃ code v A2, code ≤ 3 ∧ S_amountByLog A x code v A2 ∧ GA (n + 2400) A2 := by
  have hG0 := hG
  obtain ⟨⟨hJ, hBd⟩, hC, hGS, hN, hGY, hL, hT⟩ := hG0
  have hT8 := iV1 hJ.1
  have hW60 := iV2 hJ.1
  by_cases hb0 : i_in x 4 = false
  · exact ⟨_, 0, _, by decide, Or.inl ⟨hb0, rfl, rfl⟩, ga_mono (Nat.le_add_right n 2400) hG⟩
  obtain ⟨s, hs, rfl⟩ := i_in_of (x := x) (n := 4) (by omega) (by simpa using hb0)
  exact ⟨_, _, _, by decide, Or.inr (⟨s, hs, rfl, rfl, rfl, rfl⟩), ga_mono (Nat.le_add_right n 2400) hG⟩
theorem x_state {n : Nat} {A : qA} (hG : GA n A) (x y : Int32) : ∃ code v A2, code ≤ 3 ∧ S_state A x y code v A2 ∧ GA (n + 2400) A2 := by
  have hG0 := hG
  obtain ⟨⟨hJ, hBd⟩, hC, hGS, hN, hGY, hL, hT⟩ := hG0
  have hT8 := iV1 hJ.1
  have hW60 := iV2 hJ.1
  by_cases hb0 : i_in x 4 = false
  · exact ⟨_, 0, _, by decide, Or.inl ⟨hb0, rfl, rfl⟩, ga_mono (Nat.le_add_right n 2400) hG⟩
  obtain ⟨s, hs, rfl⟩ := i_in_of (x := x) (n := 4) (by omega) (by simpa using hb0)
  by_cases hb1 : i_in y ((aX A).1 0 0) = false
  · exact ⟨_, 0, _, by decide, Or.inr (Or.inl ⟨s, hs, rfl, hb1, rfl, rfl⟩), ga_mono (Nat.le_add_right n 2400) hG⟩
  obtain ⟨t, ht, rfl⟩ := i_in_of (x := y) (n := (aX A).1 0 0) (by omega) (by simpa using hb1)
  exact ⟨_, _, _, by decide, Or.inr (Or.inr (⟨s, t, hs, rfl, ht, rfl, rfl, rfl, rfl⟩)), ga_mono (Nat.le_add_right n 2400) hG⟩
theorem x_stateByLog {n : Nat} {A : qA} (hG : GA n A) (x y : Int32) : ∃ code v A2, code ≤ 3 ∧ S_stateByLog A x y code v A2 ∧ GA (n + 2400) A2 := by
  have hG0 := hG
  obtain ⟨⟨hJ, hBd⟩, hC, hGS, hN, hGY, hL, hT⟩ := hG0
  have hT8 := iV1 hJ.1
  have hW60 := iV2 hJ.1
  by_cases hb0 : i_in x 4 = false
  · exact ⟨_, 0, _, by decide, Or.inl ⟨hb0, rfl, rfl⟩, ga_mono (Nat.le_add_right n 2400) hG⟩
  obtain ⟨s, hs, rfl⟩ := i_in_of (x := x) (n := 4) (by omega) (by simpa using hb0)
  by_cases hb1 : i_in y ((aX A).1 0 0) = false
  · exact ⟨_, 0, _, by decide, Or.inr (Or.inl ⟨s, hs, rfl, hb1, rfl, rfl⟩), ga_mono (Nat.le_add_right n 2400) hG⟩
  obtain ⟨t, ht, rfl⟩ := i_in_of (x := y) (n := (aX A).1 0 0) (by omega) (by simpa using hb1)
  exact ⟨_, _, _, by decide, Or.inr (Or.inr (⟨s, t, hs, rfl, ht, rfl, rfl, rfl, rfl⟩)), ga_mono (Nat.le_add_right n 2400) hG⟩
theorem x_inDoubt {n : Nat} {A : qA} (hG : GA n A) (x : Int32) : ∃ code v A2, code ≤ 3 ∧ S_inDoubt A x code v A2 ∧ GA (n + 2400) A2 := by
  have hG0 := hG
  obtain ⟨⟨hJ, hBd⟩, hC, hGS, hN, hGY, hL, hT⟩ := hG0
  have hT8 := iV1 hJ.1
  have hW60 := iV2 hJ.1
  by_cases hb0 : i_in x 4 = false
  · exact ⟨_, 0, _, by decide, Or.inl ⟨hb0, rfl, rfl⟩, ga_mono (Nat.le_add_right n 2400) hG⟩
  obtain ⟨s, hs, rfl⟩ := i_in_of (x := x) (n := 4) (by omega) (by simpa using hb0)
  exact ⟨_, _, _, by decide, Or.inr (⟨s, hs, rfl, rfl, rfl, rfl⟩), ga_mono (Nat.le_add_right n 2400) hG⟩
theorem x_outcome {n : Nat} {A : qA} (hG : GA n A) (x : Int32) : ∃ code v A2, code ≤ 3 ∧ S_outcome A x code v A2 ∧ GA (n + 2400) A2 := by
  have hG0 := hG
  obtain ⟨⟨hJ, hBd⟩, hC, hGS, hN, hGY, hL, hT⟩ := hG0
  have hT8 := iV1 hJ.1
  have hW60 := iV2 hJ.1
  by_cases hb0 : i_in x ((aX A).1 0 0) = false
  · exact ⟨_, 0, _, by decide, Or.inl ⟨hb0, rfl, rfl⟩, ga_mono (Nat.le_add_right n 2400) hG⟩
  obtain ⟨t, ht, rfl⟩ := i_in_of (x := x) (n := (aX A).1 0 0) (by omega) (by simpa using hb0)
  exact ⟨_, _, _, by decide, Or.inr (⟨t, ht, rfl, rfl, rfl, rfl⟩), ga_mono (Nat.le_add_right n 2400) hG⟩
theorem x_outcomeByStores {n : Nat} {A : qA} (hG : GA n A) (x : Int32) : ∃ code v A2, code ≤ 3 ∧ S_outcomeByStores A x code v A2 ∧ GA (n + 2400) A2 := by
  have hG0 := hG
  obtain ⟨⟨hJ, hBd⟩, hC, hGS, hN, hGY, hL, hT⟩ := hG0
  have hT8 := iV1 hJ.1
  have hW60 := iV2 hJ.1
  by_cases hb0 : i_in x ((aX A).1 0 0) = false
  · exact ⟨_, 0, _, by decide, Or.inl ⟨hb0, rfl, rfl⟩, ga_mono (Nat.le_add_right n 2400) hG⟩
  obtain ⟨t, ht, rfl⟩ := i_in_of (x := x) (n := (aX A).1 0 0) (by omega) (by simpa using hb0)
  exact ⟨_, _, _, by decide, Or.inr (⟨t, ht, rfl, rfl, rfl, rfl⟩), ga_mono (Nat.le_add_right n 2400) hG⟩
theorem x_hasEnded {n : Nat} {A : qA} (hG : GA n A) (x : Int32) : ∃ code v A2, code ≤ 3 ∧ S_hasEnded A x code v A2 ∧ GA (n + 2400) A2 := by
  have hG0 := hG
  obtain ⟨⟨hJ, hBd⟩, hC, hGS, hN, hGY, hL, hT⟩ := hG0
  have hT8 := iV1 hJ.1
  have hW60 := iV2 hJ.1
  by_cases hb0 : i_in x ((aX A).1 0 0) = false
  · exact ⟨_, 0, _, by decide, Or.inl ⟨hb0, rfl, rfl⟩, ga_mono (Nat.le_add_right n 2400) hG⟩
  obtain ⟨t, ht, rfl⟩ := i_in_of (x := x) (n := (aX A).1 0 0) (by omega) (by simpa using hb0)
  exact ⟨_, _, _, by decide, Or.inr (⟨t, ht, rfl, rfl, rfl, rfl⟩), ga_mono (Nat.le_add_right n 2400) hG⟩
theorem x_saidYes {n : Nat} {A : qA} (hG : GA n A) (x : Int32) : ∃ code v A2, code ≤ 3 ∧ S_saidYes A x code v A2 ∧ GA (n + 2400) A2 := by
  have hG0 := hG
  obtain ⟨⟨hJ, hBd⟩, hC, hGS, hN, hGY, hL, hT⟩ := hG0
  have hT8 := iV1 hJ.1
  have hW60 := iV2 hJ.1
  by_cases hb0 : i_in x ((aX A).1 0 0) = false
  · exact ⟨_, 0, _, by decide, Or.inl ⟨hb0, rfl, rfl⟩, ga_mono (Nat.le_add_right n 2400) hG⟩
  obtain ⟨t, ht, rfl⟩ := i_in_of (x := x) (n := (aX A).1 0 0) (by omega) (by simpa using hb0)
  exact ⟨_, _, _, by decide, Or.inr (⟨t, ht, rfl, rfl, rfl, rfl⟩), ga_mono (Nat.le_add_right n 2400) hG⟩
theorem x_saidDone {n : Nat} {A : qA} (hG : GA n A) (x : Int32) : ∃ code v A2, code ≤ 3 ∧ S_saidDone A x code v A2 ∧ GA (n + 2400) A2 := by
  have hG0 := hG
  obtain ⟨⟨hJ, hBd⟩, hC, hGS, hN, hGY, hL, hT⟩ := hG0
  have hT8 := iV1 hJ.1
  have hW60 := iV2 hJ.1
  by_cases hb0 : i_in x ((aX A).1 0 0) = false
  · exact ⟨_, 0, _, by decide, Or.inl ⟨hb0, rfl, rfl⟩, ga_mono (Nat.le_add_right n 2400) hG⟩
  obtain ⟨t, ht, rfl⟩ := i_in_of (x := x) (n := (aX A).1 0 0) (by omega) (by simpa using hb0)
  exact ⟨_, _, _, by decide, Or.inr (⟨t, ht, rfl, rfl, rfl, rfl⟩), ga_mono (Nat.le_add_right n 2400) hG⟩
theorem x_total {n : Nat} {A : qA} (hG : GA n A) : ∃ code v A2, code ≤ 3 ∧ S_total A code v A2 ∧ GA (n + 2400) A2 := by
  have hG0 := hG
  obtain ⟨⟨hJ, hBd⟩, hC, hGS, hN, hGY, hL, hT⟩ := hG0
  have hT8 := iV1 hJ.1
  have hW60 := iV2 hJ.1
  exact ⟨_, _, _, by decide, ⟨rfl, rfl, rfl⟩, ga_mono (Nat.le_add_right n 2400) hG⟩
theorem x_onTheWay {n : Nat} {A : qA} (hG : GA n A) : ∃ code v A2, code ≤ 3 ∧ S_onTheWay A code v A2 ∧ GA (n + 2400) A2 := by
  have hG0 := hG
  obtain ⟨⟨hJ, hBd⟩, hC, hGS, hN, hGY, hL, hT⟩ := hG0
  have hT8 := iV1 hJ.1
  have hW60 := iV2 hJ.1
  exact ⟨_, _, _, by decide, ⟨rfl, rfl, rfl⟩, ga_mono (Nat.le_add_right n 2400) hG⟩
theorem x_records {n : Nat} {A : qA} (hG : GA n A) (x : Int32) : ∃ code v A2, code ≤ 3 ∧ S_records A x code v A2 ∧ GA (n + 2400) A2 := by
  have hG0 := hG
  obtain ⟨⟨hJ, hBd⟩, hC, hGS, hN, hGY, hL, hT⟩ := hG0
  have hT8 := iV1 hJ.1
  have hW60 := iV2 hJ.1
  by_cases hb0 : i_in x 5 = false
  · exact ⟨_, 0, _, by decide, Or.inl ⟨hb0, rfl, rfl⟩, ga_mono (Nat.le_add_right n 2400) hG⟩
  obtain ⟨k, hk, rfl⟩ := i_in_of (x := x) (n := 5) (by omega) (by simpa using hb0)
  exact ⟨_, _, _, by decide, Or.inr (⟨k, hk, rfl, rfl, rfl, rfl⟩), ga_mono (Nat.le_add_right n 2400) hG⟩
theorem x_recordKind {n : Nat} {A : qA} (hG : GA n A) (x y : Int32) : ∃ code v A2, code ≤ 3 ∧ S_recordKind A x y code v A2 ∧ GA (n + 2400) A2 := by
  have hG0 := hG
  obtain ⟨⟨hJ, hBd⟩, hC, hGS, hN, hGY, hL, hT⟩ := hG0
  have hT8 := iV1 hJ.1
  have hW60 := iV2 hJ.1
  by_cases hb0 : i_in x 5 = false
  · exact ⟨_, 0, _, by decide, Or.inl ⟨hb0, rfl, rfl⟩, ga_mono (Nat.le_add_right n 2400) hG⟩
  obtain ⟨k, hk, rfl⟩ := i_in_of (x := x) (n := 5) (by omega) (by simpa using hb0)
  by_cases hb1 : ¬ 0 ≤ y
  · exact ⟨_, 0, _, by decide, Or.inr (Or.inl ⟨k, hk, rfl, hb1, rfl, rfl⟩), ga_mono (Nat.le_add_right n 2400) hG⟩
  obtain ⟨p, hp, rfl⟩ := x_nn hb1
  exact ⟨_, _, _, by decide, Or.inr (Or.inr (⟨k, p, hk, rfl, hp, rfl, rfl, rfl, rfl⟩)), ga_mono (Nat.le_add_right n 2400) hG⟩
theorem x_recordTransfer {n : Nat} {A : qA} (hG : GA n A) (x y : Int32) : ∃ code v A2, code ≤ 3 ∧ S_recordTransfer A x y code v A2 ∧ GA (n + 2400) A2 := by
  have hG0 := hG
  obtain ⟨⟨hJ, hBd⟩, hC, hGS, hN, hGY, hL, hT⟩ := hG0
  have hT8 := iV1 hJ.1
  have hW60 := iV2 hJ.1
  by_cases hb0 : i_in x 5 = false
  · exact ⟨_, 0, _, by decide, Or.inl ⟨hb0, rfl, rfl⟩, ga_mono (Nat.le_add_right n 2400) hG⟩
  obtain ⟨k, hk, rfl⟩ := i_in_of (x := x) (n := 5) (by omega) (by simpa using hb0)
  by_cases hb1 : ¬ 0 ≤ y
  · exact ⟨_, 0, _, by decide, Or.inr (Or.inl ⟨k, hk, rfl, hb1, rfl, rfl⟩), ga_mono (Nat.le_add_right n 2400) hG⟩
  obtain ⟨p, hp, rfl⟩ := x_nn hb1
  exact ⟨_, _, _, by decide, Or.inr (Or.inr (⟨k, p, hk, rfl, hp, rfl, rfl, rfl, rfl⟩)), ga_mono (Nat.le_add_right n 2400) hG⟩
theorem x_waiting {n : Nat} {A : qA} (hG : GA n A) : ∃ code v A2, code ≤ 3 ∧ S_waiting A code v A2 ∧ GA (n + 2400) A2 := by
  have hG0 := hG
  obtain ⟨⟨hJ, hBd⟩, hC, hGS, hN, hGY, hL, hT⟩ := hG0
  have hT8 := iV1 hJ.1
  have hW60 := iV2 hJ.1
  exact ⟨_, _, _, by decide, ⟨rfl, rfl, rfl⟩, ga_mono (Nat.le_add_right n 2400) hG⟩
theorem x_kindOf {n : Nat} {A : qA} (hG : GA n A) (x : Int32) : ∃ code v A2, code ≤ 3 ∧ S_kindOf A x code v A2 ∧ GA (n + 2400) A2 := by
  have hG0 := hG
  obtain ⟨⟨hJ, hBd⟩, hC, hGS, hN, hGY, hL, hT⟩ := hG0
  have hT8 := iV1 hJ.1
  have hW60 := iV2 hJ.1
  by_cases hb0 : ¬ 0 ≤ x
  · exact ⟨_, 0, _, by decide, Or.inl ⟨hb0, rfl, rfl⟩, ga_mono (Nat.le_add_right n 2400) hG⟩
  obtain ⟨p, hp, rfl⟩ := x_nn hb0
  exact ⟨_, _, _, by decide, Or.inr (⟨p, hp, rfl, rfl, rfl, rfl⟩), ga_mono (Nat.le_add_right n 2400) hG⟩
theorem x_transferOf {n : Nat} {A : qA} (hG : GA n A) (x : Int32) : ∃ code v A2, code ≤ 3 ∧ S_transferOf A x code v A2 ∧ GA (n + 2400) A2 := by
  have hG0 := hG
  obtain ⟨⟨hJ, hBd⟩, hC, hGS, hN, hGY, hL, hT⟩ := hG0
  have hT8 := iV1 hJ.1
  have hW60 := iV2 hJ.1
  by_cases hb0 : ¬ 0 ≤ x
  · exact ⟨_, 0, _, by decide, Or.inl ⟨hb0, rfl, rfl⟩, ga_mono (Nat.le_add_right n 2400) hG⟩
  obtain ⟨p, hp, rfl⟩ := x_nn hb0
  exact ⟨_, _, _, by decide, Or.inr (⟨p, hp, rfl, rfl, rfl, rfl⟩), ga_mono (Nat.le_add_right n 2400) hG⟩
theorem x_storeOf {n : Nat} {A : qA} (hG : GA n A) (x : Int32) : ∃ code v A2, code ≤ 3 ∧ S_storeOf A x code v A2 ∧ GA (n + 2400) A2 := by
  have hG0 := hG
  obtain ⟨⟨hJ, hBd⟩, hC, hGS, hN, hGY, hL, hT⟩ := hG0
  have hT8 := iV1 hJ.1
  have hW60 := iV2 hJ.1
  by_cases hb0 : ¬ 0 ≤ x
  · exact ⟨_, 0, _, by decide, Or.inl ⟨hb0, rfl, rfl⟩, ga_mono (Nat.le_add_right n 2400) hG⟩
  obtain ⟨p, hp, rfl⟩ := x_nn hb0
  exact ⟨_, _, _, by decide, Or.inr (⟨p, hp, rfl, rfl, rfl, rfl⟩), ga_mono (Nat.le_add_right n 2400) hG⟩
theorem x_sent {n : Nat} {A : qA} (hG : GA n A) : ∃ code v A2, code ≤ 3 ∧ S_sent A code v A2 ∧ GA (n + 2400) A2 := by
  have hG0 := hG
  obtain ⟨⟨hJ, hBd⟩, hC, hGS, hN, hGY, hL, hT⟩ := hG0
  have hT8 := iV1 hJ.1
  have hW60 := iV2 hJ.1
  exact ⟨_, _, _, by decide, ⟨rfl, rfl, rfl⟩, ga_mono (Nat.le_add_right n 2400) hG⟩
theorem x_sentByAccount {n : Nat} {A : qA} (hG : GA n A) : ∃ code v A2, code ≤ 3 ∧ S_sentByAccount A code v A2 ∧ GA (n + 2400) A2 := by
  have hG0 := hG
  obtain ⟨⟨hJ, hBd⟩, hC, hGS, hN, hGY, hL, hT⟩ := hG0
  have hT8 := iV1 hJ.1
  have hW60 := iV2 hJ.1
  exact ⟨_, _, _, by decide, ⟨rfl, rfl, rfl⟩, ga_mono (Nat.le_add_right n 2400) hG⟩
theorem x_lost {n : Nat} {A : qA} (hG : GA n A) : ∃ code v A2, code ≤ 3 ∧ S_lost A code v A2 ∧ GA (n + 2400) A2 := by
  have hG0 := hG
  obtain ⟨⟨hJ, hBd⟩, hC, hGS, hN, hGY, hL, hT⟩ := hG0
  have hT8 := iV1 hJ.1
  have hW60 := iV2 hJ.1
  exact ⟨_, _, _, by decide, ⟨rfl, rfl, rfl⟩, ga_mono (Nat.le_add_right n 2400) hG⟩
theorem x_wouldSend {n : Nat} {A : qA} (hG : GA n A) (x : Int32) : ∃ code v A2, code ≤ 3 ∧ S_wouldSend A x code v A2 ∧ GA (n + 2400) A2 := by
  have hG0 := hG
  obtain ⟨⟨hJ, hBd⟩, hC, hGS, hN, hGY, hL, hT⟩ := hG0
  have hT8 := iV1 hJ.1
  have hW60 := iV2 hJ.1
  by_cases hb0 : i_in x ((aX A).1 0 4) = false
  · exact ⟨_, 0, _, by decide, Or.inl ⟨hb0, rfl, rfl⟩, ga_mono (Nat.le_add_right n 2400) hG⟩
  obtain ⟨p, hp, rfl⟩ := i_in_of (x := x) (n := (aX A).1 0 4) (by omega) (by simpa using hb0)
  exact ⟨_, _, _, by decide, Or.inr (⟨p, hp, rfl, rfl, rfl, rfl⟩), ga_mono (Nat.le_add_right n 2400) hG⟩
theorem x_messagesToSettle {n : Nat} {A : qA} (hG : GA n A) : ∃ code v A2, code ≤ 3 ∧ S_messagesToSettle A code v A2 ∧ GA (n + 2400) A2 := by
  have hG0 := hG
  obtain ⟨⟨hJ, hBd⟩, hC, hGS, hN, hGY, hL, hT⟩ := hG0
  have hT8 := iV1 hJ.1
  have hW60 := iV2 hJ.1
  exact ⟨_, _, _, by decide, ⟨rfl, rfl, rfl⟩, ga_mono (Nat.le_add_right n 2400) hG⟩
theorem x_outcomeIfSettled {n : Nat} {A : qA} (hG : GA n A) (x : Int32) : ∃ code v A2, code ≤ 3 ∧ S_outcomeIfSettled A x code v A2 ∧ GA (n + 2400) A2 := by
  have hG0 := hG
  obtain ⟨⟨hJ, hBd⟩, hC, hGS, hN, hGY, hL, hT⟩ := hG0
  have hT8 := iV1 hJ.1
  have hW60 := iV2 hJ.1
  by_cases hb0 : i_in x ((aX A).1 0 0) = false
  · exact ⟨_, 0, _, by decide, Or.inl ⟨hb0, rfl, rfl⟩, ga_mono (Nat.le_add_right n 2400) hG⟩
  obtain ⟨t, ht, rfl⟩ := i_in_of (x := x) (n := (aX A).1 0 0) (by omega) (by simpa using hb0)
  exact ⟨_, _, _, by decide, Or.inr (⟨t, ht, rfl, rfl, rfl, rfl⟩), ga_mono (Nat.le_add_right n 2400) hG⟩
theorem x_amountIfSettled {n : Nat} {A : qA} (hG : GA n A) (x : Int32) : ∃ code v A2, code ≤ 3 ∧ S_amountIfSettled A x code v A2 ∧ GA (n + 2400) A2 := by
  have hG0 := hG
  obtain ⟨⟨hJ, hBd⟩, hC, hGS, hN, hGY, hL, hT⟩ := hG0
  have hT8 := iV1 hJ.1
  have hW60 := iV2 hJ.1
  by_cases hb0 : i_in x 4 = false
  · exact ⟨_, 0, _, by decide, Or.inl ⟨hb0, rfl, rfl⟩, ga_mono (Nat.le_add_right n 2400) hG⟩
  obtain ⟨s, hs, rfl⟩ := i_in_of (x := x) (n := 4) (by omega) (by simpa using hb0)
  exact ⟨_, _, _, by decide, Or.inr (⟨s, hs, rfl, rfl, rfl, rfl⟩), ga_mono (Nat.le_add_right n 2400) hG⟩
theorem x_greatestSize {n : Nat} {A : qA} (hG : GA n A) (x y : Int32) : ∃ code v A2, code ≤ 3 ∧ S_greatestSize A x y code v A2 ∧ GA (n + 2400) A2 := by
  have hG0 := hG
  obtain ⟨⟨hJ, hBd⟩, hC, hGS, hN, hGY, hL, hT⟩ := hG0
  have hT8 := iV1 hJ.1
  have hW60 := iV2 hJ.1
  by_cases hq : i_in x 4 = false
  · exact ⟨_, 0, _, by decide, Or.inl ⟨hq, rfl, rfl⟩, ga_mono (Nat.le_add_right n 2400) hG⟩
  obtain ⟨f, hf, rfl⟩ := i_in_of (x := x) (n := 4) (by decide) (by simpa using hq)
  by_cases hy : i_to f y = false
  · exact ⟨_, 0, _, by decide, Or.inr (Or.inl ⟨f, hf, rfl, hy, rfl, rfl⟩), ga_mono (Nat.le_add_right n 2400) hG⟩
  obtain ⟨to, t1, t2, t3, rfl⟩ := i_to_of hf (by simpa using hy)
  exact ⟨_, _, _, by decide, Or.inr (Or.inr (⟨f, to, hf, rfl, t1, t2, t3, rfl, rfl, rfl, rfl⟩)), ga_mono (Nat.le_add_right n 2400) hG⟩
