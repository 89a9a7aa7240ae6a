/-! AMOUNTS AND LOGS: what always holds of them, and each step keeps it -/
def q_sum (f : Nat → Int) : Nat → Int
  | 0 => 0
  | n + 1 => q_sum f n + f n
theorem q_sum_congr {f g : Nat → Int} : ∀ n, (∀ k, k < n → g k = f k) → q_sum g n = q_sum f n := by
  intro n
  induction n with
  | zero => intro _; rfl
  | succ n ih => intro h; rw [q_sum, q_sum, h n (by omega), ih (fun k hk => h k (by omega))]
theorem q_sum_one {f g : Nat → Int} {t : Nat} : ∀ n, t < n → (∀ k, k ≠ t → g k = f k) → q_sum g n + f t = q_sum f n + g t := by
  intro n
  induction n with
  | zero => intro h _; omega
  | succ n ih =>
    intro h hg
    rw [q_sum, q_sum]
    by_cases q : t = n
    · subst q
      rw [q_sum_congr (f := f) (g := g) t (fun k hk => hg k (by omega))]
      omega
    · have := ih (by omega) hg
      have := hg n (fun c => q c.symm)
      omega
theorem q_sum_0 {f : Nat → Int} {m : Nat} : ∀ n, m ≤ n → (∀ k, m ≤ k → k < n → f k = 0) → q_sum f n = q_sum f m := by
  intro n
  induction n with
  | zero => intro h _; rw [show m = 0 by omega]
  | succ n ih =>
    intro h hf
    by_cases q : m = n + 1
    · rw [q]
    · rw [q_sum, ih (by omega) (fun k h1 h2 => hf k h1 (by omega)), hf n (by omega) (by omega)]; omega
theorem q_sum_np {f : Nat → Int} {t : Nat} : ∀ n, (∀ k, f k ≤ 0) → q_sum f n ≤ 0 ∧ (t < n → q_sum f n ≤ f t) := by
  intro n
  induction n with
  | zero => intro _; exact ⟨Int.le_refl _, fun h => by omega⟩
  | succ n ih =>
    intro h
    have a := ih h
    have b := h n
    refine ⟨by rw [q_sum]; omega, fun ht => ?_⟩
    rw [q_sum]
    by_cases q : t = n
    · subst q; omega
    · have := a.2 (by omega); omega
theorem q_sum_nn {f : Nat → Int} {t : Nat} : ∀ n, (∀ k, 0 ≤ f k) → 0 ≤ q_sum f n ∧ (t < n → f t ≤ q_sum f n) := by
  intro n
  induction n with
  | zero => intro _; exact ⟨Int.le_refl _, fun h => by omega⟩
  | succ n ih =>
    intro h
    have a := ih h
    have b := h n
    refine ⟨by rw [q_sum]; omega, fun ht => ?_⟩
    rw [q_sum]
    by_cases q : t = n
    · subst q; omega
    · have := a.2 (by omega); omega
def z_sh (X : qm) (t s : Nat) : Int := (m_share X t s).toInt
def z_lo (X : qm) (s : Nat) : Int := q_sum (fun t => if X.1 9 (8 * s + t) = 1 ∧ z_sh X t s < 0 then z_sh X t s else 0) 8
def z_hi (X : qm) (s : Nat) : Int := q_sum (fun t => if X.1 9 (8 * s + t) = 1 ∧ 0 < z_sh X t s then z_sh X t s else 0) 8
def z_am (X : qm) (s : Nat) : Int := q_sum (fun t => if X.1 9 (8 * s + t) = 2 then z_sh X t s else 0) 8
def Am (X : qm) : Prop := ∀ s, s < 4 → ((X.2 s).toInt = 100 + z_am X s ∧ 0 ≤ (X.2 s).toInt + z_lo X s ∧ (X.2 s).toInt + z_hi X s ≤ 999) ∧ (m_logAm X s (X.1 10 s) = X.2 s ∧ ∀ t, t < X.1 0 0 → m_logSt X s t (X.1 10 s) = X.1 9 (8 * s + t))
theorem z_lo_np (X : qm) (s : Nat) : z_lo X s ≤ 0 := (q_sum_np (t := 0) 8 (fun k => by split; omega; exact Int.le_refl _)).1
theorem z_hi_nn (X : qm) (s : Nat) : 0 ≤ z_hi X s := (q_sum_nn (t := 0) 8 (fun k => by split; omega; exact Int.le_refl _)).1
theorem am_rng {X : qm} (hA : Am X) {s : Nat} (hs : s < 4) : 0 ≤ (X.2 s).toInt ∧ (X.2 s).toInt ≤ 999 := by
  have a := (hA s hs).1
  have b := z_lo_np X s
  have c := z_hi_nn X s
  omega
/-! shares -/
set_option maxRecDepth 20000 in
theorem z_shn : ∀ f, f < 4 → ∀ to, to < 16 → ∀ sz, sz < 51 → ∀ s, s < 4 → -200 ≤ (m_sh f to sz s).toInt ∧ (m_sh f to sz s).toInt ≤ 50 := by decide +kernel
theorem z_sh_b {X : qm} (hJ : J X) {t s : Nat} (ht : t < 8) (hs : s < 4) : -200 ≤ z_sh X t s ∧ z_sh X t s ≤ 50 := by
  have a := iV4 hJ.1 t ht
  exact z_shn _ a.1 _ a.2.1 _ (by have := a.2.2.1; omega) _ hs
theorem z_add {a b : Int32} (h1 : -2147483648 ≤ a.toInt + b.toInt) (h2 : a.toInt + b.toInt ≤ 2147483647) : (a + b).toInt = a.toInt + b.toInt := by
  rw [Int32.toInt_add, Int.bmod_eq_of_le] <;> omega
/-- what is asked of a store that says yes -/
theorem z_take {X : qm} (hJ : J X) (hA : Am X) {s : Nat} (hs : s < 4) {sh : Int32} (h1 : -200 ≤ sh.toInt) (h2 : sh.toInt ≤ 50) : ∀ n, n ≤ 8 →
    (m_takeSum X s sh n).toInt = (X.2 s).toInt + sh.toInt + q_sum (fun t => if X.1 9 (8 * s + t) = 1 ∧ ((sh.toInt < 0 ∧ z_sh X t s < 0) ∨ (0 ≤ sh.toInt ∧ 0 < z_sh X t s)) then z_sh X t s else 0) n ∧
    -200 * ((n : Int) + 1) ≤ (m_takeSum X s sh n).toInt ∧ (m_takeSum X s sh n).toInt ≤ 999 + 50 * ((n : Int) + 1) := by
  have r := am_rng hA hs
  intro n
  induction n with
  | zero =>
    intro _
    have e : (m_takeSum X s sh 0).toInt = (X.2 s).toInt + sh.toInt := z_add (by omega) (by omega)
    rw [e, q_sum]
    exact ⟨by omega, by omega, by omega⟩
  | succ n ih =>
    intro hn
    obtain ⟨a, b, c⟩ := ih (by omega)
    have hb := z_sh_b hJ (t := n) (s := s) (by omega) hs
    have hz : (0 : Int32).toInt = 0 := by decide
    have hc : (((¬ 0 ≤ sh ∧ ¬ 0 ≤ m_share X n s) ∨ (0 ≤ sh ∧ ¬ m_share X n s ≤ 0)) ∧ X.1 9 (8 * s + n) = 1) ↔ (X.1 9 (8 * s + n) = 1 ∧ ((sh.toInt < 0 ∧ z_sh X n s < 0) ∨ (0 ≤ sh.toInt ∧ 0 < z_sh X n s))) := by
      rw [Int32.le_iff_toInt_le, Int32.le_iff_toInt_le, Int32.le_iff_toInt_le, hz]
      unfold z_sh
      omega
    rw [m_takeSum, q_sum]
    by_cases q : X.1 9 (8 * s + n) = 1 ∧ ((sh.toInt < 0 ∧ z_sh X n s < 0) ∨ (0 ≤ sh.toInt ∧ 0 < z_sh X n s))
    · rw [if_pos (hc.mpr q), if_pos q]
      have e : (m_takeSum X s sh n + m_share X n s).toInt = (m_takeSum X s sh n).toInt + z_sh X n s := z_add (by show _ ≤ _ + z_sh X n s; omega) (by show _ + z_sh X n s ≤ _; omega)
      rw [e]
      exact ⟨by omega, by omega, by omega⟩
    · rw [if_neg (fun c => q (hc.mp c)), if_neg q]
      exact ⟨by omega, by omega, by omega⟩
theorem z_would {X : qm} (hJ : J X) (hA : Am X) {s t : Nat} (hs : s < 4) (ht : t < 8) (h : m_would X s (m_share X t s) = true) :
    (z_sh X t s < 0 → 0 ≤ (X.2 s).toInt + z_sh X t s + z_lo X s) ∧ (0 ≤ z_sh X t s → (X.2 s).toInt + z_sh X t s + z_hi X s ≤ 999) := by
  have i1 := iV1 hJ.1
  have hb := z_sh_b hJ ht hs
  have k := z_take hJ hA hs (sh := m_share X t s) hb.1 hb.2 (X.1 0 0) i1
  unfold m_would at h
  have h := of_decide_eq_true h
  have hz : (0 : Int32).toInt = 0 := by decide
  have h9 : (nI 999).toInt = 999 := by decide
  rw [Int32.lt_iff_toInt_lt, Int32.lt_iff_toInt_lt, hz, h9] at h
  have e : ∀ f : Nat → Int, (∀ k, X.1 0 0 ≤ k → k < 8 → f k = 0) → q_sum f 8 = q_sum f (X.1 0 0) := fun f hf => q_sum_0 8 i1 hf
  have st0 : ∀ k, X.1 0 0 ≤ k → k < 8 → X.1 9 (8 * s + k) = 0 := fun k h1 h2 => (iV6 hJ.1 s k hs h2).2 h1
  refine ⟨fun hn => ?_, fun hp => ?_⟩
  · unfold z_lo
    rw [e _ (fun k h1 h2 => if_neg (by rw [st0 k h1 h2]; omega))]
    have c : q_sum (fun t2 => if X.1 9 (8 * s + t2) = 1 ∧ (((m_share X t s).toInt < 0 ∧ z_sh X t2 s < 0) ∨ (0 ≤ (m_share X t s).toInt ∧ 0 < z_sh X t2 s)) then z_sh X t2 s else 0) (X.1 0 0) = q_sum (fun t2 => if X.1 9 (8 * s + t2) = 1 ∧ z_sh X t2 s < 0 then z_sh X t2 s else 0) (X.1 0 0) := by
      refine q_sum_congr _ (fun k _ => ?_)
      have hn : (m_share X t s).toInt < 0 := hn
      by_cases q : X.1 9 (8 * s + k) = 1 ∧ z_sh X k s < 0
      · rw [if_pos q, if_pos ⟨q.1, Or.inl ⟨hn, q.2⟩⟩]
      · rw [if_neg q, if_neg (fun c => q ⟨c.1, c.2.elim (fun d => d.2) (fun d => by omega)⟩)]
    rw [c] at k
    have : (m_share X t s).toInt = z_sh X t s := rfl
    omega
  · unfold z_hi
    rw [e _ (fun k h1 h2 => if_neg (by rw [st0 k h1 h2]; omega))]
    have c : q_sum (fun t2 => if X.1 9 (8 * s + t2) = 1 ∧ (((m_share X t s).toInt < 0 ∧ z_sh X t2 s < 0) ∨ (0 ≤ (m_share X t s).toInt ∧ 0 < z_sh X t2 s)) then z_sh X t2 s else 0) (X.1 0 0) = q_sum (fun t2 => if X.1 9 (8 * s + t2) = 1 ∧ 0 < z_sh X t2 s then z_sh X t2 s else 0) (X.1 0 0) := by
      refine q_sum_congr _ (fun k _ => ?_)
      have hp : 0 ≤ (m_share X t s).toInt := hp
      by_cases q : X.1 9 (8 * s + k) = 1 ∧ 0 < z_sh X k s
      · rw [if_pos q, if_pos ⟨q.1, Or.inr ⟨hp, q.2⟩⟩]
      · rw [if_neg q, if_neg (fun c => q ⟨c.1, c.2.elim (fun d => by omega) (fun d => d.2)⟩)]
    rw [c] at k
    have : (m_share X t s).toInt = z_sh X t s := rfl
    omega
/-! logs -/
theorem m_logAm_congr {X Y : qm} (s : Nat) : ∀ n, (∀ k, k < n → Y.1 11 (32 * s + k) = X.1 11 (32 * s + k) ∧ m_share Y (X.1 11 (32 * s + k) % 8) s = m_share X (X.1 11 (32 * s + k) % 8) s) → m_logAm Y s n = m_logAm X s n := by
  intro n
  induction n with
  | zero => intro _; rfl
  | succ n ih => intro h; rw [m_logAm, m_logAm, (h n (by omega)).1, (h n (by omega)).2, ih (fun k hk => h k (by omega))]
theorem m_logSt_congr {X Y : qm} (s t : Nat) : ∀ n, (∀ k, k < n → Y.1 11 (32 * s + k) = X.1 11 (32 * s + k)) → m_logSt Y s t n = m_logSt X s t n := by
  intro n
  induction n with
  | zero => intro _; rfl
  | succ n ih => intro h; rw [m_logSt, m_logSt, h n (by omega), ih (fun k hk => h k (by omega))]
theorem m_logSt_none {X : qm} (s t : Nat) : ∀ n, (∀ k, k < n → X.1 11 (32 * s + k) % 8 ≠ t) → m_logSt X s t n = 0 := by
  intro n
  induction n with
  | zero => intro _; rfl
  | succ n ih => intro h; rw [m_logSt, if_neg (h n (by omega)), ih (fun k hk => h k (by omega))]
/-- what doesn't speak of a store's states, logs, amounts and the transfers -/
theorem am_same {X Y : qm} (hL : ∀ s, s < 4 → X.1 10 s ≤ 16) (hA : Am X) (h0 : Y.1 0 0 = X.1 0 0) (h2 : ∀ i, Y.1 2 i = X.1 2 i) (h3 : ∀ i, Y.1 3 i = X.1 3 i) (h4 : ∀ i, Y.1 4 i = X.1 4 i) (h9 : ∀ i, Y.1 9 i = X.1 9 i) (h10 : ∀ s, s < 4 → Y.1 10 s = X.1 10 s)
    (h11 : ∀ s k, s < 4 → k < 16 → Y.1 11 (32 * s + k) = X.1 11 (32 * s + k)) (hm : Y.2 = X.2) : Am Y := by
  have hsh : ∀ t s, m_share Y t s = m_share X t s := fun t s => by unfold m_share; rw [h2, h3, h4]
  have hz : ∀ t s, z_sh Y t s = z_sh X t s := fun t s => by unfold z_sh; rw [hsh]
  intro s hs
  obtain ⟨⟨a1, a2, a3⟩, a4, a5⟩ := hA s hs
  have hl := hL s hs
  unfold z_am z_lo z_hi at *
  rw [hm, h0, h10 s hs, m_logAm_congr (X := X) (Y := Y) s _ (fun k hk => ⟨h11 s k hs (by omega), hsh _ _⟩)]
  simp only [h9, hz]
  exact ⟨⟨a1, a2, a3⟩, a4, fun t ht => by rw [m_logSt_congr (X := X) (Y := Y) s t _ (fun k hk => h11 s k hs (by omega))]; exact a5 t ht⟩
theorem am_send {X : qm} (hL : ∀ s, s < 4 → X.1 10 s ≤ 16) (hA : Am X) (kd t s : Nat) : Am (m_send X kd t s) := by
  refine am_same hL hA (m_send_f _ _ _ (Or.inr (Or.inl rfl)) (by decide)) ?_ ?_ ?_ ?_ ?_ ?_ (m_send_2 _ _ _) <;> intros <;> exact m_send_f _ _ _ (Or.inl (by decide)) (by decide)
theorem am_sendN {X : qm} (hL : ∀ s, s < 4 → X.1 10 s ≤ 16) (hA : Am X) (kd t m n : Nat) : Am (m_sendN X kd t m n) := by
  refine am_same hL hA (m_sendN_f _ _ _ _ (Or.inr (Or.inl rfl)) (by decide)) ?_ ?_ ?_ ?_ ?_ ?_ (m_sendN_2 _ _ _ _) <;> intros <;> exact m_sendN_f _ _ _ _ (Or.inl (by decide)) (by decide)
theorem am_takeOut {X : qm} (hL : ∀ s, s < 4 → X.1 10 s ≤ 16) (hA : Am X) (p : Nat) : Am (m_takeOut X p) := am_same hL hA rfl (fun _ => rfl) (fun _ => rfl) (fun _ => rfl) (fun _ => rfl) (fun _ _ => rfl) (fun _ _ _ _ => rfl) rfl
theorem am_counter {X : qm} (hL : ∀ s, s < 4 → X.1 10 s ≤ 16) (hA : Am X) {j v : Nat} (hj : j = 1 ∨ j = 2 ∨ j = 3) : Am (xs X 0 j v) := by
  rcases hj with rfl | rfl | rfl <;> exact am_same hL hA rfl (fun _ => rfl) (fun _ => rfl) (fun _ => rfl) (fun _ => rfl) (fun _ _ => rfl) (fun _ _ _ _ => rfl) rfl
theorem am_lose {X : qm} (hJ : J X) (hA : Am X) (p : Nat) : Am (m_lose X p) := am_takeOut (X := xs X 0 3 (X.1 0 3 + 1)) (iV7 hJ.1) (am_counter (iV7 hJ.1) hA (Or.inr (Or.inr rfl))) p
theorem am_yes {X : qm} (hL : ∀ s, s < 4 → X.1 10 s ≤ 16) (hA : Am X) (t v : Nat) : Am (xs X 5 t v) := am_same hL hA rfl (fun _ => rfl) (fun _ => rfl) (fun _ => rfl) (fun _ => rfl) (fun _ _ => rfl) (fun _ _ _ _ => rfl) rfl
theorem am_done {X : qm} (hL : ∀ s, s < 4 → X.1 10 s ≤ 16) (hA : Am X) (t v : Nat) : Am (xs X 6 t v) := am_same hL hA rfl (fun _ => rfl) (fun _ => rfl) (fun _ => rfl) (fun _ => rfl) (fun _ _ => rfl) (fun _ _ _ _ => rfl) rfl
theorem am_up {X : qm} (hL : ∀ s, s < 4 → X.1 10 s ≤ 16) (hA : Am X) (k v : Nat) : Am (xs X 1 k v) := am_same hL hA rfl (fun _ => rfl) (fun _ => rfl) (fun _ => rfl) (fun _ => rfl) (fun _ _ => rfl) (fun _ _ _ _ => rfl) rfl
theorem am_crash {X : qm} (hL : ∀ s, s < 4 → X.1 10 s ≤ 16) (hA : Am X) (k : Nat) : Am (m_crash X k) := am_same hL hA rfl (fun _ => rfl) (fun _ => rfl) (fun _ => rfl) (fun _ => rfl) (fun _ _ => rfl) (fun _ _ _ _ => rfl) rfl
theorem e10_s (X : qm) (kd t : Nat) {s : Nat} (hs : s < 4) : (m_write X 4 kd t).1 10 s = X.1 10 s := by
  have : s ≠ 4 := by omega
  simp [m_write, xs, this]
theorem am_decide {X : qm} (hJ : J X) (hA : Am X) {t oc : Nat} (ht : t < X.1 0 0) (h0 : X.1 7 t = 0) (hoc : oc = 1 ∨ oc = 2) : Am (m_decide X t oc) := by
  have hl := j_len7 hJ ht h0
  unfold m_decide
  exact am_sendN (iV7 (j_decCore hJ ht h0 hoc).1) (am_same (iV7 hJ.1) hA rfl (fun _ => rfl) (fun _ => rfl) (fun _ => rfl) (fun _ => rfl) (fun s hs => e10_s (xs X 7 t oc) _ _ hs) (fun s k hs hk => e11_s (xs X 7 t oc) hs (by show X.1 10 4 < 32; omega) _ _ _ (by omega)) rfl) _ _ _ _
theorem am_end {X : qm} (hJ : J X) (hA : Am X) {t : Nat} (ht : t < X.1 0 0) (h0 : X.1 8 t = 0) : Am (xs (m_write X 4 3 t) 8 t 1) := by
  have hl := j_len8 hJ ht h0
  exact am_same (iV7 hJ.1) hA rfl (fun _ => rfl) (fun _ => rfl) (fun _ => rfl) (fun _ => rfl) (fun s hs => e10_s X _ _ hs) (fun s k hs hk => e11_s X hs (by omega) _ _ _ (by omega)) rfl
/-! a store is in another state -/
theorem z_kd : ∀ st, st < 4 → st ≠ 0 → m_stAfter (m_kd st) = st ∧ (m_kd st = 1 ↔ st = 2) := by decide
theorem am_become {X : qm} (hJ : J X) (hA : Am X) {s t st : Nat} (hs : s < 4) (ht : t < X.1 0 0) (hc : (X.1 9 (8 * s + t) = 0 ∧ ((st = 1 ∧ m_would X s (m_share X t s) = true) ∨ st = 3)) ∨ (X.1 9 (8 * s + t) = 1 ∧ (st = 2 ∨ st = 3))) : Am (m_become X s t st) := by
  have i1 := iV1 hJ.1
  have h8 : t < 8 := by omega
  have hw : st = 1 → (z_sh X t s < 0 → 0 ≤ (X.2 s).toInt + z_sh X t s + z_lo X s) ∧ (0 ≤ z_sh X t s → (X.2 s).toInt + z_sh X t s + z_hi X s ≤ 999) := by
    intro e
    rcases hc with ⟨_, ⟨_, h⟩ | h⟩ | ⟨_, h⟩
    · exact z_would hJ hA hs h8 h
    · omega
    · omega
  have hst : (X.1 9 (8 * s + t) = 0 ∧ (st = 1 ∨ st = 3)) ∨ (X.1 9 (8 * s + t) = 1 ∧ (st = 2 ∨ st = 3)) := by
    rcases hc with ⟨a, ⟨b, _⟩ | b⟩ | ⟨a, b⟩
    · exact Or.inl ⟨a, Or.inl b⟩
    · exact Or.inl ⟨a, Or.inr b⟩
    · exact Or.inr ⟨a, b⟩
  have hb := z_sh_b hJ h8 hs
  have e9 := m_become_9 X s t st
  have e10 : ∀ s2, (m_become X s t st).1 10 s2 = if s2 = s then X.1 10 s + 1 else X.1 10 s2 := fun s2 => by
    unfold m_become; split <;> simp [m_write, xs, xa]
  have e11 : ∀ s2 k, k < 32 → X.1 10 s < 32 → (m_become X s t st).1 11 (32 * s2 + k) = if s2 = s ∧ k = X.1 10 s then 8 * m_kd st + t else X.1 11 (32 * s2 + k) := fun s2 k hk hl => by
    have h0 : (m_become X s t st).1 11 (32 * s2 + k) = if 32 * s2 + k = 32 * s + X.1 10 s then 8 * m_kd st + t else X.1 11 (32 * s2 + k) := by
      unfold m_become; split <;> simp [m_write, xs, xa]
    rw [h0]
    by_cases q : s2 = s ∧ k = X.1 10 s
    · rw [if_pos q, if_pos (by omega)]
    · rw [if_neg q, if_neg (by omega)]
  have em : ∀ s2, (m_become X s t st).2 s2 = if s2 = s ∧ st = 2 then X.2 s + m_share X t s else X.2 s2 := fun s2 => by
    unfold m_become
    split
    · next h =>
      show (if s2 = s then X.2 s + m_share X t s else X.2 s2) = _
      by_cases q : s2 = s
      · rw [if_pos q, if_pos ⟨q, h⟩]
      · rw [if_neg q, if_neg (fun c => q c.1)]
    · next h => rw [if_neg (fun c => h c.2)]; rfl
  have e0 : (m_become X s t st).1 0 0 = X.1 0 0 := m_become_f _ _ _ (by decide) (by decide) (by decide)
  have hsh : ∀ t2 s2, m_share (m_become X s t st) t2 s2 = m_share X t2 s2 := fun t2 s2 => by
    unfold m_share
    rw [m_become_f _ _ _ (by decide) (by decide) (by decide), m_become_f _ _ _ (by decide) (by decide) (by decide), m_become_f _ _ _ (by decide) (by decide) (by decide)]
  have hz : ∀ t2 s2, z_sh (m_become X s t st) t2 s2 = z_sh X t2 s2 := fun t2 s2 => by unfold z_sh; rw [hsh]
  have hl := j_cS_lt hJ hs h8 (by omega)
  generalize m_become X s t st = Y at e9 e10 e11 em e0 hsh hz ⊢
  intro s2 hs2
  obtain ⟨⟨a1, a2, a3⟩, a4, a5⟩ := hA s2 hs2
  have hl2 := iV7 hJ.1 s2 hs2
  have r := am_rng hA hs2
  by_cases q : s2 = s
  · subst q
    have gA := q_sum_one (f := fun k => if X.1 9 (8 * s2 + k) = 2 then z_sh X k s2 else 0) (g := fun k => if Y.1 9 (8 * s2 + k) = 2 then z_sh Y k s2 else 0) (t := t) 8 h8 (fun k hk => by (try dsimp only); rw [e9, if_neg (show ¬ 8 * s2 + k = 8 * s2 + t by omega), hz])
    have gL := q_sum_one (f := fun k => if X.1 9 (8 * s2 + k) = 1 ∧ z_sh X k s2 < 0 then z_sh X k s2 else 0) (g := fun k => if Y.1 9 (8 * s2 + k) = 1 ∧ z_sh Y k s2 < 0 then z_sh Y k s2 else 0) (t := t) 8 h8 (fun k hk => by (try dsimp only); rw [e9, if_neg (show ¬ 8 * s2 + k = 8 * s2 + t by omega), hz])
    have gH := q_sum_one (f := fun k => if X.1 9 (8 * s2 + k) = 1 ∧ 0 < z_sh X k s2 then z_sh X k s2 else 0) (g := fun k => if Y.1 9 (8 * s2 + k) = 1 ∧ 0 < z_sh Y k s2 then z_sh Y k s2 else 0) (t := t) 8 h8 (fun k hk => by (try dsimp only); rw [e9, if_neg (show ¬ 8 * s2 + k = 8 * s2 + t by omega), hz])
    try dsimp only at gA gL gH
    rw [e9, if_pos rfl, hz] at gA gL gH
    have lN := (q_sum_np (f := fun k => if X.1 9 (8 * s2 + k) = 1 ∧ z_sh X k s2 < 0 then z_sh X k s2 else 0) (t := t) 8 (fun k => by (try dsimp only); split; omega; exact Int.le_refl _)).2 h8
    have hP := (q_sum_nn (f := fun k => if X.1 9 (8 * s2 + k) = 1 ∧ 0 < z_sh X k s2 then z_sh X k s2 else 0) (t := t) 8 (fun k => by (try dsimp only); split; omega; exact Int.le_refl _)).2 h8
    try dsimp only at lN hP
    have c1 : ∀ a : Nat, (a = 1 ∧ z_sh X t s2 < 0 ∧ (if a = 1 ∧ z_sh X t s2 < 0 then z_sh X t s2 else 0) = z_sh X t s2) ∨ (¬ (a = 1 ∧ z_sh X t s2 < 0) ∧ (if a = 1 ∧ z_sh X t s2 < 0 then z_sh X t s2 else 0) = 0) := fun a => by
      by_cases q : a = 1 ∧ z_sh X t s2 < 0
      · exact Or.inl ⟨q.1, q.2, if_pos q⟩
      · exact Or.inr ⟨q, if_neg q⟩
    have c2 : ∀ a : Nat, (a = 1 ∧ 0 < z_sh X t s2 ∧ (if a = 1 ∧ 0 < z_sh X t s2 then z_sh X t s2 else 0) = z_sh X t s2) ∨ (¬ (a = 1 ∧ 0 < z_sh X t s2) ∧ (if a = 1 ∧ 0 < z_sh X t s2 then z_sh X t s2 else 0) = 0) := fun a => by
      by_cases q : a = 1 ∧ 0 < z_sh X t s2
      · exact Or.inl ⟨q.1, q.2, if_pos q⟩
      · exact Or.inr ⟨q, if_neg q⟩
    have c3 : ∀ a : Nat, (a = 2 ∧ (if a = 2 then z_sh X t s2 else 0) = z_sh X t s2) ∨ (a ≠ 2 ∧ (if a = 2 then z_sh X t s2 else 0) = 0) := fun a => by
      by_cases q : a = 2
      · exact Or.inl ⟨q, if_pos q⟩
      · exact Or.inr ⟨q, if_neg q⟩
    have c1a := c1 st; have c1b := c1 (X.1 9 (8 * s2 + t)); have c2a := c2 st; have c2b := c2 (X.1 9 (8 * s2 + t)); have c3a := c3 st; have c3b := c3 (X.1 9 (8 * s2 + t))
    have e11s : Y.1 11 (32 * s2 + X.1 10 s2) = 8 * m_kd st + t := by rw [e11 _ _ (by omega) (by omega), if_pos ⟨rfl, rfl⟩]
    refine ⟨?_, ?_, ?_⟩
    · have eY : (Y.2 s2).toInt = (X.2 s2).toInt + (if st = 2 then z_sh X t s2 else 0) := by
        rw [em]
        by_cases q2 : st = 2
        · rw [if_pos ⟨rfl, q2⟩, if_pos q2]
          exact z_add (by show _ ≤ _ + z_sh X t s2; omega) (by show _ + z_sh X t s2 ≤ _; omega)
        · rw [if_neg (fun c => q2 c.2), if_neg q2]; omega
      rw [eY]
      unfold z_am z_lo z_hi at *
      generalize (if st = 2 then z_sh X t s2 else 0) = u1 at *
      generalize (if X.1 9 (8 * s2 + t) = 2 then z_sh X t s2 else 0) = u2 at *
      generalize (if st = 1 ∧ z_sh X t s2 < 0 then z_sh X t s2 else 0) = u3 at *
      generalize (if X.1 9 (8 * s2 + t) = 1 ∧ z_sh X t s2 < 0 then z_sh X t s2 else 0) = u4 at *
      generalize (if st = 1 ∧ 0 < z_sh X t s2 then z_sh X t s2 else 0) = u5 at *
      generalize (if X.1 9 (8 * s2 + t) = 1 ∧ 0 < z_sh X t s2 then z_sh X t s2 else 0) = u6 at *
      clear c1 c2 c3 hc a5 a4 e9 e10 e11 em hsh hz
      rcases hst with ⟨g1, g2 | g2⟩ | ⟨g1, g2 | g2⟩
      · have hw := hw g2
        refine ⟨by omega, by omega, by omega⟩
      · refine ⟨by omega, by omega, by omega⟩
      · refine ⟨by omega, by omega, by omega⟩
      · refine ⟨by omega, by omega, by omega⟩
    · rw [e10, if_pos rfl, m_logAm, e11s, show (8 * m_kd st + t) / 8 = m_kd st by omega, show (8 * m_kd st + t) % 8 = t by omega, hsh,
        m_logAm_congr (X := X) (Y := Y) s2 _ (fun k hk => ⟨by rw [e11 _ _ (by omega) (by omega), if_neg (by omega)], hsh _ _⟩), a4, em]
      have z := z_kd st (by omega) (by omega)
      by_cases q2 : st = 2
      · rw [if_pos (z.2.mpr q2), if_pos ⟨rfl, q2⟩]
      · rw [if_neg (fun c => q2 (z.2.mp c)), if_neg (fun c => q2 c.2)]
    · intro t2 ht2
      rw [e0] at ht2
      have z := z_kd st (by omega) (by omega)
      rw [e10, if_pos rfl, m_logSt, e11s, show (8 * m_kd st + t) / 8 = m_kd st by omega, show (8 * m_kd st + t) % 8 = t by omega,
        m_logSt_congr (X := X) (Y := Y) s2 t2 _ (fun k hk => by rw [e11 _ _ (by omega) (by omega), if_neg (by omega)]), a5 t2 ht2, e9]
      by_cases q2 : t = t2
      · rw [if_pos q2, if_pos (by omega)]; exact z.1
      · rw [if_neg q2, if_neg (by omega)]
  · have zA : z_am Y s2 = z_am X s2 := q_sum_congr 8 (fun k hk => by (try dsimp only); rw [e9, if_neg (show ¬ 8 * s2 + k = 8 * s + t by omega), hz])
    have zL : z_lo Y s2 = z_lo X s2 := q_sum_congr 8 (fun k hk => by (try dsimp only); rw [e9, if_neg (show ¬ 8 * s2 + k = 8 * s + t by omega), hz])
    have zH : z_hi Y s2 = z_hi X s2 := q_sum_congr 8 (fun k hk => by (try dsimp only); rw [e9, if_neg (show ¬ 8 * s2 + k = 8 * s + t by omega), hz])
    rw [zA, zL, zH, em, if_neg (fun c => q c.1), e10, if_neg q, e0, m_logAm_congr (X := X) (Y := Y) s2 _ (fun k hk => ⟨by rw [e11 _ _ (by omega) (by omega), if_neg (fun c => q c.1)], hsh _ _⟩)]
    refine ⟨⟨a1, a2, a3⟩, a4, fun t2 ht2 => ?_⟩
    rw [m_logSt_congr (X := X) (Y := Y) s2 t2 _ (fun k hk => by rw [e11 _ _ (by omega) (by omega), if_neg (fun c => q c.1)]), e9, if_neg (show ¬ 8 * s2 + t2 = 8 * s + t by omega)]
    exact a5 t2 ht2
/-! each step -/
theorem am_ask {X : qm} (hJ : J X) (hA : Am X) {t s : Nat} (ht : t < X.1 0 0) (hs : s < 4) : Am (m_ask X t s) := by
  unfold m_ask
  split
  · next h =>
    split
    · next hw => exact am_send (iV7 (j_become hJ hs ht (Or.inl ⟨h, Or.inl rfl⟩)).1) (am_become hJ hA hs ht (Or.inl ⟨h, Or.inl ⟨rfl, hw⟩⟩)) _ _ _
    · exact am_send (iV7 (j_become hJ hs ht (Or.inl ⟨h, Or.inr rfl⟩)).1) (am_become hJ hA hs ht (Or.inl ⟨h, Or.inr rfl⟩)) _ _ _
  · exact am_send (iV7 hJ.1) hA _ _ _
theorem am_mk {X : qm} (hJ : J X) (hA : Am X) {t s : Nat} (ht : t < X.1 0 0) (hs : s < 4) : Am (m_mk X t s) := by
  unfold m_mk
  split
  · next h => exact am_send (iV7 (j_become hJ hs ht (Or.inr ⟨h, Or.inl rfl⟩)).1) (am_become hJ hA hs ht (Or.inr ⟨h, Or.inl rfl⟩)) _ _ _
  · split
    · exact am_send (iV7 hJ.1) hA _ _ _
    · exact hA
theorem am_dr {X : qm} (hJ : J X) (hA : Am X) {t s : Nat} (ht : t < X.1 0 0) (hs : s < 4) : Am (m_dr X t s) := by
  unfold m_dr
  split
  · next h =>
    rcases (show X.1 9 (8 * s + t) = 0 ∨ X.1 9 (8 * s + t) = 1 by omega) with a | a
    · exact am_send (iV7 (j_become hJ hs ht (Or.inl ⟨a, Or.inr rfl⟩)).1) (am_become hJ hA hs ht (Or.inl ⟨a, Or.inr rfl⟩)) _ _ _
    · exact am_send (iV7 (j_become hJ hs ht (Or.inr ⟨a, Or.inr rfl⟩)).1) (am_become hJ hA hs ht (Or.inr ⟨a, Or.inr rfl⟩)) _ _ _
  · split
    · exact am_send (iV7 hJ.1) hA _ _ _
    · exact hA
theorem am_hYes {X : qm} (hJ : J X) (hA : Am X) {t s : Nat} (ht : t < X.1 0 0) (hs : s < 4) : Am (m_hYes X t s) := by
  unfold m_hYes
  split
  · next h =>
    have hy := am_yes (iV7 hJ.1) hA t (X.1 5 t ||| 2 ^ s)
    split
    · exact am_decide (j_yes hJ ht (j_or hJ ht hs).1) hy ht h (Or.inl rfl)
    · exact hy
  · exact hA
theorem am_hNo {X : qm} (hJ : J X) (hA : Am X) {t : Nat} (ht : t < X.1 0 0) : Am (m_hNo X t) := by
  unfold m_hNo
  split
  · next h => exact am_decide hJ hA ht h (Or.inr rfl)
  · exact hA
theorem am_hDone {X : qm} (hJ : J X) (hA : Am X) {t s : Nat} (ht : t < X.1 0 0) (hs : s < 4) : Am (m_hDone X t s) := by
  have hd := am_done (iV7 hJ.1) hA t (X.1 6 t ||| 2 ^ s)
  unfold m_hDone
  split
  · next h => exact am_end (j_done hJ ht (j_or hJ ht hs).2) hd ht h.2
  · exact hd
theorem am_hWhat {X : qm} (hJ : J X) (hA : Am X) (t s : Nat) : Am (m_hWhat X t s) := by
  unfold m_hWhat
  split
  · exact hA
  · exact am_send (iV7 hJ.1) hA _ _ _
theorem am_takesUp {X : qm} (hJ : J X) (hA : Am X) {t : Nat} (ht : t < X.1 0 0) : Am (m_takesUp X t) := by
  unfold m_takesUp
  split
  · next h => exact am_decide hJ hA ht h (Or.inr rfl)
  · split
    · exact am_sendN (iV7 hJ.1) hA _ _ _ _
    · exact hA
theorem am_hears {X : qm} (hJ : J X) (hA : Am X) {k t s : Nat} (ht : t < X.1 0 0) (hs : s < 4) : Am (m_hears X k t s) := by
  unfold m_hears
  split; exact am_ask hJ hA ht hs
  split; exact am_hYes hJ hA ht hs
  split; exact am_hNo hJ hA ht
  split; exact am_mk hJ hA ht hs
  split; exact am_dr hJ hA ht hs
  split; exact am_hDone hJ hA ht hs
  exact am_hWhat hJ hA t s
theorem am_deliver {X : qm} (hJ : J X) (hA : Am X) {p : Nat} (hp : p < X.1 0 4) : Am (m_deliver X p) := by
  have jt := j_takeOut hJ hp
  unfold m_deliver
  split
  · exact am_hears (j_counter jt (Or.inr (Or.inl rfl))) (am_counter (iV7 jt.1) (am_takeOut (iV7 hJ.1) hA p) (Or.inr (Or.inl rfl))) (iV10 hJ.1 p hp).2 (by omega)
  · exact am_counter (iV7 jt.1) (am_takeOut (iV7 hJ.1) hA p) (Or.inr (Or.inr rfl))
theorem am_upStep {X : qm} (hJ : J X) (hA : Am X) {k t : Nat} (ht : t < X.1 0 0) : Am (m_upStep X k t) := by
  unfold m_upStep
  split
  · exact am_takesUp hJ hA ht
  · split
    · exact am_send (iV7 hJ.1) hA _ _ _
    · exact hA
theorem am_recover {X : qm} (hJ : J X) (hA : Am X) {k : Nat} (hk : k < 5) : Am (m_recover X k) := by
  have H : ∀ n, n ≤ X.1 0 0 → Am (m_ups (xs X 1 k 1) k n) := by
    intro n
    induction n with
    | zero => intro _; exact am_up (iV7 hJ.1) hA k 1
    | succ n ih =>
      intro hn
      rw [m_ups]
      exact am_upStep (j_ups (j_up hJ k) hk n (by show n ≤ X.1 0 0; omega)) (ih (by omega)) (by rw [m_ups_0]; show n < X.1 0 0; omega)
  exact H _ (Nat.le_refl _)
theorem am_first : ∀ (n : Nat) (X : qm), J X → Am X → Am (m_first n X) := by
  intro n
  induction n with
  | zero => intro X _ h; exact h
  | succ n ih =>
    intro X hJ hA
    rw [m_first]
    split
    · next h => exact ih _ (j_deliver hJ h) (am_deliver hJ hA h)
    · exact hA
theorem am_begin {X : qm} (hJ : J X) (hA : Am X) {f to sz : Nat} (hT : X.1 0 0 < 8) : Am (m_begin X f to sz) := by
  have hl4 := iV8 hJ.1
  have hc : Am (m_write (xs (xs (xs (xs X 0 0 (X.1 0 0 + 1)) 2 (X.1 0 0) f) 3 (X.1 0 0) to) 4 (X.1 0 0) sz) 4 0 (X.1 0 0)) ∧ ∀ s, s < 4 → (m_write (xs (xs (xs (xs X 0 0 (X.1 0 0 + 1)) 2 (X.1 0 0) f) 3 (X.1 0 0) to) 4 (X.1 0 0) sz) 4 0 (X.1 0 0)).1 10 s ≤ 16 := by
    generalize hY : m_write (xs (xs (xs (xs X 0 0 (X.1 0 0 + 1)) 2 (X.1 0 0) f) 3 (X.1 0 0) to) 4 (X.1 0 0) sz) 4 0 (X.1 0 0) = Y
    have e0 : Y.1 0 0 = X.1 0 0 + 1 := by subst hY; simp [m_write, xs]
    have e2 : ∀ i, i ≠ X.1 0 0 → Y.1 2 i = X.1 2 i := fun i hi => by subst hY; simp [m_write, xs, hi]
    have e3 : ∀ i, i ≠ X.1 0 0 → Y.1 3 i = X.1 3 i := fun i hi => by subst hY; simp [m_write, xs, hi]
    have e4 : ∀ i, i ≠ X.1 0 0 → Y.1 4 i = X.1 4 i := fun i hi => by subst hY; simp [m_write, xs, hi]
    have e9 : ∀ i, Y.1 9 i = X.1 9 i := fun i => by subst hY; rfl
    have em : Y.2 = X.2 := by subst hY; rfl
    have e10 : ∀ s, s < 4 → Y.1 10 s = X.1 10 s := fun s hs => by
      have : s ≠ 4 := by omega
      subst hY; simp [m_write, xs, this]
    have e11 : ∀ s k, s < 4 → k < 32 → Y.1 11 (32 * s + k) = X.1 11 (32 * s + k) := fun s k hs hk => by
      subst hY
      have : ¬ (32 * s + k = 32 * 4 + X.1 10 4) := by omega
      simp [m_write, xs]; omega
    clear hY
    have hsh : ∀ t s, t ≠ X.1 0 0 → m_share Y t s = m_share X t s := fun t s h => by unfold m_share; rw [e2 _ h, e3 _ h, e4 _ h]
    have hz : ∀ t s, t ≠ X.1 0 0 → z_sh Y t s = z_sh X t s := fun t s h => by unfold z_sh; rw [hsh t s h]
    refine ⟨fun s hs => ?_, fun s hs => by rw [e10 s hs]; exact iV7 hJ.1 s hs⟩
    obtain ⟨⟨a1, a2, a3⟩, a4, a5⟩ := hA s hs
    have hl := iV7 hJ.1 s hs
    have st0 : X.1 9 (8 * s + X.1 0 0) = 0 := (iV6 hJ.1 s _ hs hT).2 (Nat.le_refl _)
    have zA : z_am Y s = z_am X s := q_sum_congr 8 (fun k hk => by
      (try dsimp only)
      by_cases q : k = X.1 0 0
      · rw [e9, q, st0, if_neg (by decide), if_neg (by decide)]
      · rw [e9, hz k s q])
    have zL : z_lo Y s = z_lo X s := q_sum_congr 8 (fun k hk => by
      (try dsimp only)
      by_cases q : k = X.1 0 0
      · rw [e9, q, st0, if_neg (fun c => absurd c.1 (by decide)), if_neg (fun c => absurd c.1 (by decide))]
      · rw [e9, hz k s q])
    have zH : z_hi Y s = z_hi X s := q_sum_congr 8 (fun k hk => by
      (try dsimp only)
      by_cases q : k = X.1 0 0
      · rw [e9, q, st0, if_neg (fun c => absurd c.1 (by decide)), if_neg (fun c => absurd c.1 (by decide))]
      · rw [e9, hz k s q])
    rw [zA, zL, zH, em, e10 s hs, m_logAm_congr (X := X) (Y := Y) s _ (fun k hk => ⟨e11 s k hs (by omega), hsh _ _ (by have := (iV9 hJ.1 s k (by omega) hk).2; omega)⟩)]
    refine ⟨⟨a1, a2, a3⟩, a4, fun t ht => ?_⟩
    rw [e0] at ht
    rw [m_logSt_congr (X := X) (Y := Y) s t _ (fun k hk => e11 s k hs (by omega)), e9]
    by_cases q : t = X.1 0 0
    · rw [q, st0]; exact m_logSt_none s _ _ (fun k hk => by have := (iV9 hJ.1 s k (by omega) hk).2; omega)
    · exact a5 t (by omega)
  unfold m_begin
  exact am_sendN hc.2 hc.1 _ _ _ _
theorem am_new : Am m_new := by
  intro s hs
  have z : ∀ i, m_new.1 9 i = 0 := fun i => by simp [m_new]
  have zA : z_am m_new s = 0 := q_sum_0 (m := 0) 8 (by decide) (fun k _ _ => by (try dsimp only); rw [z]; rfl)
  have zL : z_lo m_new s = 0 := q_sum_0 (m := 0) 8 (by decide) (fun k _ _ => by (try dsimp only); rw [z]; exact if_neg (fun c => absurd c.1 (by decide)))
  have zH : z_hi m_new s = 0 := q_sum_0 (m := 0) 8 (by decide) (fun k _ _ => by (try dsimp only); rw [z]; exact if_neg (fun c => absurd c.1 (by decide)))
  have z2 : m_new.2 s = nI 100 := rfl
  have z10 : m_new.1 10 s = 0 := by simp [m_new]
  have h100 : (nI 100).toInt = 100 := by decide
  rw [zA, zL, zH, z2, z10, h100]
  exact ⟨by decide, rfl, fun t ht => absurd ht (Nat.not_lt_zero t)⟩
