/-! WHAT THE LAW ASKS OF A STATE -/
/-! sent messages: the account -/
def Bd (n : Nat) (X : qm) : Prop := X.1 0 1 ≤ n ∧ X.1 0 2 + X.1 0 3 + X.1 0 4 = X.1 0 1
def Gr (k : Nat) (X Y : qm) : Prop := Y.1 0 1 ≤ X.1 0 1 + k ∧ Y.1 0 2 + Y.1 0 3 + Y.1 0 4 + X.1 0 1 = X.1 0 2 + X.1 0 3 + X.1 0 4 + Y.1 0 1
theorem gr_pay {X Y : qm} {c k : Nat} (h : Pay X Y c k) : Gr k X Y := h.2
theorem gr_le {X Y : qm} {k m : Nat} (h : Gr k X Y) (hk : k ≤ m) : Gr m X Y := ⟨by have := h.1; omega, h.2⟩
theorem bd_gr {X Y : qm} {n k : Nat} (hB : Bd n X) (h : Gr k X Y) : Bd (n + k) Y := by
  obtain ⟨a, b⟩ := hB
  obtain ⟨c, d⟩ := h
  exact ⟨by omega, by omega⟩
theorem gr_begin {X : qm} {f to sz : Nat} (hT : X.1 0 0 < 8) : Gr 4 X (m_begin X f to sz) := by
  have a := pay_sendN (X := m_write (xs (xs (xs (xs X 0 0 (X.1 0 0 + 1)) 2 (X.1 0 0) f) 3 (X.1 0 0) to) 4 (X.1 0 0) sz) 4 0 (X.1 0 0)) (k := 0) (t := X.1 0 0) (m := to ||| 2 ^ f) hT 4 (Nat.le_refl _)
  exact ⟨a.2.1, a.2.2⟩
theorem gr_first (n : Nat) {X : qm} (hJ : J X) : Gr (4 * n) X (m_first n X) := ⟨(j_first n X hJ).2.2.2.1, (j_first n X hJ).2.2.2.2⟩
theorem gr_lose {X : qm} {p : Nat} (hp : p < X.1 0 4) : Gr 0 X (m_lose X p) := by
  refine ⟨Nat.le_refl _, ?_⟩
  show X.1 0 2 + (X.1 0 3 + 1) + (X.1 0 4 - 1) + X.1 0 1 = X.1 0 2 + X.1 0 3 + X.1 0 4 + X.1 0 1
  omega
theorem gr_crash (X : qm) (k : Nat) : Gr 0 X (m_crash X k) := gr_pay (pay_same (fun i => by simp [m_crash]) (fun i => by simp [m_crash]))
theorem gr_deliver {X : qm} (hJ : J X) {p : Nat} (hp : p < X.1 0 4) : Gr 4 X (m_deliver X p) := ⟨(pay_deliver hJ hp).2.2.1, (pay_deliver hJ hp).2.2.2⟩
/-- a good state -/
def GZ (n : Nat) (X : qm) : Prop := J X ∧ Bd n X ∧ Ag X ∧ Am X
theorem gz_new : GZ 0 m_new := ⟨j_new, ⟨Nat.le_refl _, rfl⟩, ag_new, am_new⟩
theorem gz_mono {n m : Nat} {X : qm} (h : GZ n X) (hm : n ≤ m) : GZ m X := ⟨h.1, ⟨Nat.le_trans h.2.1.1 hm, h.2.1.2⟩, h.2.2⟩
theorem gz_mv {n k : Nat} {X Y : qm} (h : GZ n X) (hk : k ≤ 2400) (hG : Gr k X Y) (hJ : J Y) (hA : Ag Y) (hM : Am Y) : GZ (n + 2400) Y := ⟨hJ, bd_gr h.2.1 (gr_le hG hk), hA, hM⟩
theorem gz_begin {n : Nat} {X : qm} (h : GZ n X) {f to sz : Nat} (hT : X.1 0 0 < 8) (hf : f < 4) (ht1 : 1 ≤ to) (ht : to < 16) (hb : to / 2 ^ f % 2 = 0) (hz1 : 1 ≤ sz) (hz : sz ≤ 50) : GZ (n + 2400) (m_begin X f to sz) :=
  gz_mv h (by decide) (gr_begin hT) (j_begin h.1 hT hf ht1 ht hb hz1 hz) (ag_begin h.1 h.2.2.1 hT) (am_begin h.1 h.2.2.2 hT)
theorem gz_giveUp {n : Nat} {X : qm} (h : GZ n X) {t : Nat} (ht : t < X.1 0 0) (h0 : X.1 7 t = 0) : GZ (n + 2400) (m_decide X t 2) :=
  gz_mv h (by decide) (gr_pay (pay_decide (by have := iV1 h.1.1; omega) (Or.inr rfl))) (j_decide h.1 ht h0 (Or.inr rfl)) (ag_decide h.1 h.2.2.1 ht h0 (Or.inr rfl) (fun c => absurd c (by decide))) (am_decide h.1 h.2.2.2 ht h0 (Or.inr rfl))
theorem gz_ask {n : Nat} {X : qm} (h : GZ n X) {t s : Nat} (ht : t < X.1 0 0) (hs : s < 4) (h1 : X.1 9 (8 * s + t) = 1) : GZ (n + 2400) (m_send X 6 t s) := by
  have h8 : t < 8 := by have := iV1 h.1.1; omega
  refine gz_mv h (by decide) (gr_pay (pay_send h8 hs)) (j_send h.1 (by decide) ht hs (fun c => absurd c (by decide))) (ag_send h.2.2.1 h8 hs ?_) (am_send (iV7 h.1.1) h.2.2.2 _ _ _)
  rw [(h.2.2.1.1 t s ht hs).1 (by rw [h1]; decide)]
  unfold z_m; omega
theorem gz_lose {n : Nat} {X : qm} (h : GZ n X) {p : Nat} (hp : p < X.1 0 4) : GZ (n + 2400) (m_lose X p) := gz_mv h (by decide) (gr_lose hp) (j_lose h.1 hp) (ag_lose h.2.2.1 hp) (am_lose h.1 h.2.2.2 p)
theorem gz_crash {n : Nat} {X : qm} (h : GZ n X) (k : Nat) : GZ (n + 2400) (m_crash X k) := gz_mv h (by decide) (gr_crash X k) (j_crash h.1 k) (ag_crash h.2.2.1 k) (am_crash (iV7 h.1.1) h.2.2.2 k)
theorem gz_recover {n : Nat} {X : qm} (h : GZ n X) {k : Nat} (hk : k < 5) : GZ (n + 2400) (m_recover X k) := gz_mv h (by decide) (gr_pay (pay_recover h.1 hk)) (j_recover h.1 hk) (ag_recover h.1 h.2.2.1 hk) (am_recover h.1 h.2.2.2 hk)
theorem gz_deliver {n : Nat} {X : qm} (h : GZ n X) {p : Nat} (hp : p < X.1 0 4) : GZ (n + 2400) (m_deliver X p) := gz_mv h (by decide) (gr_deliver h.1 hp) (j_deliver h.1 hp) (ag_deliver h.1 h.2.2.1 hp) (am_deliver h.1 h.2.2.2 hp)
theorem gz_run {n : Nat} {X : qm} (h : GZ n X) : GZ (n + 2400) (m_run X) := gz_mv h (Nat.le_refl _) (gr_first 600 h.1) (j_first 600 X h.1).1 (ag_first 600 X h.1 h.2.2.1) (am_first 600 X h.1 h.2.2.2)
/-! amounts together -/
theorem z_totn {X : qm} (hA : Am X) : ∀ n, n ≤ 4 → (m_tot X n).toInt = q_sum (fun s => (X.2 s).toInt) n ∧ 0 ≤ (m_tot X n).toInt ∧ (m_tot X n).toInt ≤ 999 * (n : Int) := by
  intro n
  induction n with
  | zero =>
    intro _
    have z : (m_tot X 0).toInt = 0 := (show (nI 0).toInt = 0 by decide)
    exact ⟨rfl, by rw [z]; decide, by rw [z]; decide⟩
  | succ n ih =>
    intro hn
    obtain ⟨a, b, c⟩ := ih (by omega)
    have r := am_rng hA (s := n) (by omega)
    have e : (m_tot X (n + 1)).toInt = (m_tot X n).toInt + (X.2 n).toInt := z_add (by omega) (by omega)
    rw [e, q_sum]
    exact ⟨by omega, by omega, by omega⟩
theorem z_nm {X : qm} (hJ : J X) {t : Nat} (ht : t < 8) : ∀ n, n ≤ 4 → (m_notMade X t n).toInt = q_sum (fun s => if X.1 9 (8 * s + t) = 2 then 0 else z_sh X t s) n ∧ -200 * (n : Int) ≤ (m_notMade X t n).toInt ∧ (m_notMade X t n).toInt ≤ 50 * (n : Int) := by
  intro n
  induction n with
  | zero =>
    intro _
    have z : (m_notMade X t 0).toInt = 0 := (show (nI 0).toInt = 0 by decide)
    exact ⟨rfl, by rw [z]; decide, by rw [z]; decide⟩
  | succ n ih =>
    intro hn
    obtain ⟨a, b, c⟩ := ih (by omega)
    have r := z_sh_b hJ ht (s := n) (by omega)
    rw [m_notMade, q_sum]
    by_cases q : X.1 9 (8 * n + t) = 2
    · rw [if_pos q, if_pos q]; exact ⟨by omega, by omega, by omega⟩
    · rw [if_neg q, if_neg q]
      have e : (m_notMade X t n + m_share X t n).toInt = (m_notMade X t n).toInt + z_sh X t n := z_add (by show _ ≤ _ + z_sh X t n; omega) (by show _ + z_sh X t n ≤ _; omega)
      rw [e]
      exact ⟨by omega, by omega, by omega⟩
theorem z_away {X : qm} (hJ : J X) : ∀ n, n ≤ 8 → (m_away X n).toInt = q_sum (fun t => if X.1 7 t = 1 then q_sum (fun s => if X.1 9 (8 * s + t) = 2 then 0 else z_sh X t s) 4 else 0) n ∧ -800 * (n : Int) ≤ (m_away X n).toInt ∧ (m_away X n).toInt ≤ 200 * (n : Int) := by
  intro n
  induction n with
  | zero =>
    intro _
    have z : (m_away X 0).toInt = 0 := (show (nI 0).toInt = 0 by decide)
    exact ⟨rfl, by rw [z]; decide, by rw [z]; decide⟩
  | succ n ih =>
    intro hn
    obtain ⟨a, b, c⟩ := ih (by omega)
    obtain ⟨d, e, f⟩ := z_nm hJ (t := n) (by omega) 4 (Nat.le_refl _)
    rw [m_away, q_sum]
    by_cases q : X.1 7 n = 1
    · rw [if_pos q, if_pos q]
      have g : (m_away X n + m_notMade X n 4).toInt = (m_away X n).toInt + (m_notMade X n 4).toInt := z_add (by omega) (by omega)
      rw [g, ← d]
      exact ⟨by omega, by omega, by omega⟩
    · rw [if_neg q, if_neg q]; exact ⟨by omega, by omega, by omega⟩
set_option maxRecDepth 20000 in
theorem z_shs : ∀ f, f < 4 → ∀ to, to < 16 → to / 2 ^ f % 2 = 0 → ∀ sz, sz < 51 → (m_sh f to sz 0).toInt + (m_sh f to sz 1).toInt + (m_sh f to sz 2).toInt + (m_sh f to sz 3).toInt = 0 ∧ nI 0 + m_sh f to sz 0 + m_sh f to sz 1 + m_sh f to sz 2 + m_sh f to sz 3 = nI 0 := by decide +kernel
def z_tk (f to sz s : Nat) : Bool := !(decide (to / 2 ^ f % 2 = 0 ∧ 1 ≤ to ∧ 1 ≤ sz)) || (decide (m_sh f to sz s = 0) == decide ((to ||| 2 ^ f) / 2 ^ s % 2 = 0))
set_option maxRecDepth 20000 in
theorem z_tkb : ∀ f, f < 4 → ∀ to, to < 16 → ∀ sz, sz < 51 → ∀ s, s < 4 → z_tk f to sz s = true := by decide +kernel
theorem z_tks {f to sz s : Nat} (hf : f < 4) (ht : to < 16) (hz : sz < 51) (hs : s < 4) (h : to / 2 ^ f % 2 = 0 ∧ 1 ≤ to ∧ 1 ≤ sz) : m_sh f to sz s = 0 ↔ (to ||| 2 ^ f) / 2 ^ s % 2 = 0 := by
  have a := z_tkb f hf to ht sz hz s hs
  unfold z_tk at a
  rw [decide_eq_true h] at a
  simpa using a
theorem z_T {X : qm} (hJ : J X) {t : Nat} (ht : t < X.1 0 0) : t < 8 ∧ X.1 2 t < 4 ∧ X.1 3 t < 16 ∧ X.1 3 t / 2 ^ X.1 2 t % 2 = 0 ∧ 1 ≤ X.1 3 t ∧ X.1 4 t < 51 ∧ 1 ≤ X.1 4 t := by
  have i1 := iV1 hJ.1
  have a := iV4 hJ.1 t (by omega)
  have b := hJ.2.2.2.2.2.2 t ht
  exact ⟨by omega, a.1, a.2.1, b.1, b.2.1, by have := a.2.2.1; omega, b.2.2⟩
theorem z_sh0 {X : qm} (hJ : J X) {t : Nat} (ht : t < X.1 0 0) : z_sh X t 0 + z_sh X t 1 + z_sh X t 2 + z_sh X t 3 = 0 := by
  obtain ⟨h8, a, b, c, d, e, f⟩ := z_T hJ ht
  exact (z_shs _ a _ b c _ e).1
def l_sh (X : qm) (t : Nat) : Nat → Int32
  | 0 => nI 0
  | n + 1 => l_sh X t n + m_share X t n
theorem z_shI {X : qm} (hJ : J X) {t : Nat} (ht : t < X.1 0 0) : l_sh X t 4 = nI 0 := by
  obtain ⟨h8, a, b, c, d, e, f⟩ := z_T hJ ht
  exact (z_shs _ a _ b c _ e).2
theorem z_takes {X : qm} (hJ : J X) {t s : Nat} (ht : t < X.1 0 0) (hs : s < 4) : m_share X t s = 0 ↔ z_pt X t s = 0 := by
  obtain ⟨h8, a, b, c, d, e, f⟩ := z_T hJ ht
  exact z_tks a b e hs ⟨c, d, f⟩
theorem z_two (a : Nat) (x : Int) : (if a = 2 then x else 0) + (if a = 2 then 0 else x) = x := by
  by_cases q : a = 2
  · rw [if_pos q, if_pos q]; omega
  · rw [if_neg q, if_neg q]; omega
theorem z_zero {X : qm} (hJ : J X) (hG : Ag X) : ∀ n, n ≤ X.1 0 0 →
    q_sum (fun t => if X.1 9 (8 * 0 + t) = 2 then z_sh X t 0 else 0) n + q_sum (fun t => if X.1 9 (8 * 1 + t) = 2 then z_sh X t 1 else 0) n + q_sum (fun t => if X.1 9 (8 * 2 + t) = 2 then z_sh X t 2 else 0) n + q_sum (fun t => if X.1 9 (8 * 3 + t) = 2 then z_sh X t 3 else 0) n +
      q_sum (fun t => if X.1 7 t = 1 then q_sum (fun s => if X.1 9 (8 * s + t) = 2 then 0 else z_sh X t s) 4 else 0) n = 0 := by
  intro n
  induction n with
  | zero => intro _; rfl
  | succ n ih =>
    intro hn
    have a := ih (by omega)
    have z := z_sh0 hJ (t := n) (by omega)
    rw [q_sum, q_sum, q_sum, q_sum]
    rw [show ∀ f : Nat → Int, q_sum f (n + 1) = q_sum f n + f n from fun _ => rfl]
    by_cases q : X.1 7 n = 1
    · rw [if_pos q]
      have c0 := z_two (X.1 9 (8 * 0 + n)) (z_sh X n 0)
      have c1 := z_two (X.1 9 (8 * 1 + n)) (z_sh X n 1)
      have c2 := z_two (X.1 9 (8 * 2 + n)) (z_sh X n 2)
      have c3 := z_two (X.1 9 (8 * 3 + n)) (z_sh X n 3)
      have e : q_sum (fun s => if X.1 9 (8 * s + n) = 2 then 0 else z_sh X n s) 4 = 0 + (if X.1 9 (8 * 0 + n) = 2 then 0 else z_sh X n 0) + (if X.1 9 (8 * 1 + n) = 2 then 0 else z_sh X n 1) + (if X.1 9 (8 * 2 + n) = 2 then 0 else z_sh X n 2) + (if X.1 9 (8 * 3 + n) = 2 then 0 else z_sh X n 3) := rfl
      rw [e]
      generalize (if X.1 9 (8 * 0 + n) = 2 then z_sh X n 0 else 0) = u0 at *
      generalize (if X.1 9 (8 * 1 + n) = 2 then z_sh X n 1 else 0) = u1 at *
      generalize (if X.1 9 (8 * 2 + n) = 2 then z_sh X n 2 else 0) = u2 at *
      generalize (if X.1 9 (8 * 3 + n) = 2 then z_sh X n 3 else 0) = u3 at *
      generalize (if X.1 9 (8 * 0 + n) = 2 then 0 else z_sh X n 0) = v0 at *
      generalize (if X.1 9 (8 * 1 + n) = 2 then 0 else z_sh X n 1) = v1 at *
      generalize (if X.1 9 (8 * 2 + n) = 2 then 0 else z_sh X n 2) = v2 at *
      generalize (if X.1 9 (8 * 3 + n) = 2 then 0 else z_sh X n 3) = v3 at *
      omega
    · rw [if_neg q]
      have c : ∀ s, s < 4 → ¬ X.1 9 (8 * s + n) = 2 := fun s hs h => q ((hG.1 n s (by omega) hs).2.1 h)
      rw [if_neg (c 0 (by decide)), if_neg (c 1 (by decide)), if_neg (c 2 (by decide)), if_neg (c 3 (by decide))]
      omega
theorem z_400 {n : Nat} {X : qm} (h : GZ n X) : m_tot X 4 + m_away X (X.1 0 0) = nI 400 := by
  obtain ⟨hJ, hB, hG, hA⟩ := h
  have i1 := iV1 hJ.1
  have a := z_totn hA 4 (Nat.le_refl _)
  have b := z_away hJ (X.1 0 0) i1
  have c := z_zero hJ hG (X.1 0 0) (Nat.le_refl _)
  have e : ∀ s, s < 4 → z_am X s = q_sum (fun t => if X.1 9 (8 * s + t) = 2 then z_sh X t s else 0) (X.1 0 0) := fun s hs => q_sum_0 8 i1 (fun k h1 h2 => if_neg (by rw [(iV6 hJ.1 s k hs h2).2 h1]; decide))
  have e0 := (hA 0 (by decide)).1.1
  have e1 := (hA 1 (by decide)).1.1
  have e2 := (hA 2 (by decide)).1.1
  have e3 := (hA 3 (by decide)).1.1
  rw [e 0 (by decide)] at e0
  rw [e 1 (by decide)] at e1
  rw [e 2 (by decide)] at e2
  rw [e 3 (by decide)] at e3
  have f : q_sum (fun s => (X.2 s).toInt) 4 = 0 + (X.2 0).toInt + (X.2 1).toInt + (X.2 2).toInt + (X.2 3).toInt := rfl
  have g : (m_tot X 4 + m_away X (X.1 0 0)).toInt = (m_tot X 4).toInt + (m_away X (X.1 0 0)).toInt := z_add (by omega) (by omega)
  refine Int32.toInt_inj.mp ?_
  rw [g, show (nI 400).toInt = 400 by decide]
  omega
/-! what the stores have done -/
theorem z_seen1 {X : qm} {t : Nat} : ∀ n, (∀ s, s < n → X.1 9 (8 * s + t) ≠ 3) → m_seen X t n ≤ 1 := by
  intro n
  induction n with
  | zero => intro _; exact Nat.zero_le _
  | succ n ih =>
    intro h
    have a := ih (fun s hs => h s (by omega))
    rw [m_seen]
    split
    · rcases (show m_seen X t n = 0 ∨ m_seen X t n = 1 by omega) with q | q <;> rw [q] <;> decide
    · rw [if_neg (h n (by omega))]; exact a
theorem z_seen2 {X : qm} {t : Nat} : ∀ n, (∀ s, s < n → X.1 9 (8 * s + t) ≠ 2) → m_seen X t n = 0 ∨ m_seen X t n = 2 := by
  intro n
  induction n with
  | zero => intro _; exact Or.inl rfl
  | succ n ih =>
    intro h
    have a := ih (fun s hs => h s (by omega))
    rw [m_seen, if_neg (h n (by omega))]
    split
    · rcases a with q | q <;> rw [q] <;> decide
    · exact a
theorem z_seen {X : qm} (hG : Ag X) {t : Nat} (ht : t < X.1 0 0) : m_seen X t 4 ≠ 3 ∧ (m_seen X t 4 = 1 → X.1 7 t = 1) := by
  by_cases q : X.1 7 t = 1
  · have a := z_seen1 (X := X) (t := t) 4 (fun s hs h => by
      have b := hG.1 t s ht hs
      unfold z_X z_q at b
      omega)
    exact ⟨by omega, fun _ => q⟩
  · have a := z_seen2 (X := X) (t := t) 4 (fun s hs h => q ((hG.1 t s ht hs).2.1 h))
    exact ⟨by omega, fun c => by omega⟩
theorem z_andn : ∀ y, y < 16 → ∀ p, p < 16 → (∀ s, s < 4 → y / 2 ^ s % 2 = 1 → p / 2 ^ s % 2 = 1) → nI y &&& (nI p ^^^ (-1)) = nI 0 := by decide +kernel
theorem z_ptb : ∀ p, p < 16 → ∀ s, s < 4 → (nI p >>> (nI s &&& 31)) &&& nI 1 = nI (p / 2 ^ s % 2) := by decide +kernel
theorem z_yes {X : qm} (hJ : J X) (hG : Ag X) {t : Nat} (ht : t < X.1 0 0) : nI (X.1 5 t) &&& (nI (m_part X t) ^^^ (-1)) = nI 0 ∧ nI (X.1 6 t) &&& (nI (m_part X t) ^^^ (-1)) = nI 0 := by
  have h8 := (z_T hJ ht).1
  have a := iV4 hJ.1 t h8
  exact ⟨z_andn _ a.2.2.2.1 _ (m_part_lt hJ.1 h8) (fun s hs h => ((hG.1 t s ht hs).2.2.1 h).1), z_andn _ a.2.2.2.2.1 _ (m_part_lt hJ.1 h8) (fun s hs h => ((hG.1 t s ht hs).2.2.2.1 h).1)⟩
/-! the share that was lost, the mean size -/
theorem z_quot {l s : Nat} (hl : 0 < l) (hls : l ≤ s) (hs : s < 2 ^ 31) : (FP.ddiv (FP.i2d (nI l)) (FP.i2d (nI s))).toNat ≤ 4607182418800017408 := by
  have hq : FP.Core.b64.qmin = -1074 := by decide
  have htl : FP.Core.b64.tails = 2 ^ 52 := by decide
  have h1 := r_quot (l := l) (s := s) (by omega) (by omega) hs
  generalize hx : FP.ddiv (FP.i2d (nI l)) (FP.i2d (nI s)) = x at h1 ⊢
  have hnn : FP.Core.val64 x ≠ .nan := by rw [h1]; exact FP.Core.roundRatio_ne_nan _ _ _ _ _
  have hsg := FP.Core.sgn_bits hnn
  rw [h1, FP.Core.sgn_roundRatio] at hsg
  have h63 : x.toNat < 2 ^ 63 := by
    rcases Nat.lt_or_ge x.toNat (2 ^ 63) with h | h
    · exact h
    · rw [decide_eq_true h] at hsg; cases hsg
  have hu : ∀ K, 1 ≤ K → FP.Core.unitsOf FP.Core.b64 (K * 4503599627370496) = 2 ^ 52 * 2 ^ (K - 1) := fun K hK => by
    have := FP.Core.unitsOf_start (f := FP.Core.b64) hK
    rw [htl] at this
    exact this
  have hin : FP.Core.inUnits l 0 (-1074) = l * 2 ^ 1074 := by unfold FP.Core.inUnits; rfl
  have a1 : FP.Core.mag FP.Core.b64 x.toNat ≤ 1023 * 4503599627370496 := by
    refine FP.Core.mag_le FP.Core.good_b64 (e0 := -1074) (show FP.Core.decode FP.Core.b64 x.toNat = _ from h1) (by omega) (by rw [hq]; decide) (by decide) ?_
    rw [hin, hu _ (by decide), hq, show ((-1074 : Int) - -1074).toNat = 0 by decide, Nat.pow_zero, Nat.mul_one, ← Nat.pow_add, show 52 + (1023 - 1) = 1074 by decide, Nat.mul_comm]
    exact Nat.mul_le_mul_left _ hls
  rw [FP.Core.mag_toNat64, Nat.mod_eq_of_lt h63] at a1
  omega
theorem z_ls {n : Nat} {X : qm} (hB : Bd n X) (hn : n < 2 ^ 31) : X.1 0 3 ≤ X.1 0 1 ∧ X.1 0 1 < 2 ^ 31 ∧ (m_ls X).toNat ≤ 4607182418800017408 := by
  obtain ⟨a, b⟩ := hB
  refine ⟨by omega, by omega, ?_⟩
  unfold m_ls
  by_cases q : X.1 0 1 = 0
  · rw [if_pos q]; decide
  · rw [if_neg q]
    by_cases q2 : X.1 0 3 = 0
    · rw [q2, g_zero (by omega) (by omega)]; decide
    · exact z_quot (by omega) (by omega) (by omega)
theorem z_ls0 {n : Nat} {X : qm} (hB : Bd n X) (hn : n < 2 ^ 31) : ¬ Op.cmpValue (FP.dcmp (m_ls X) FP.dconst0) .l < 0 ∧ Op.cmpValue (FP.dcmp (m_ls X) FP.dconst1) .g ≤ 0 := by
  have a := (z_ls hB hn).2.2
  have e0 : FP.dconst0.toNat = 0 := by decide
  have e1 : FP.dconst1.toNat = 4607182418800017408 := by decide
  rw [dcmp_nat (a := m_ls X) (b := FP.dconst0) (by omega) (by omega), dcmp_nat (a := m_ls X) (b := FP.dconst1) (by omega) (by omega), e0, e1]
  constructor
  · rcases Nat.eq_zero_or_pos (m_ls X).toNat with h | h
    · rw [cn_eq h]; decide
    · rw [cn_gt h]; decide
  · rcases Nat.lt_or_ge (m_ls X).toNat 4607182418800017408 with h | h
    · rw [cn_lt h]; decide
    · rw [cn_eq (show (m_ls X).toNat = 4607182418800017408 by omega)]; decide
def z_fok (x : UInt32) : Bool := decide (¬ Op.cmpValue (FP.fcmp x FP.fconst1) .l < 0) && decide (Op.cmpValue (FP.fcmp x 1112014848) .g ≤ 0)
theorem z_fall : ∀ T, T < 9 → ∀ s, s < 401 → (T == 0 || (decide (s < T) || (decide (50 * T < s) || z_fok (fM s T)))) = true := by decide +kernel
theorem z_mean {X : qm} (hJ : J X) (h : ¬ X.1 0 0 = 0) : ¬ Op.cmpValue (FP.fcmp (m_mean X) FP.fconst1) .l < 0 ∧ Op.cmpValue (FP.fcmp (m_mean X) 1112014848) .g ≤ 0 := by
  have b := m_sz_b hJ _ (Nat.le_refl _)
  have h8 := iV1 hJ.1
  have a := z_fall (X.1 0 0) (by omega) (m_sz X (X.1 0 0)) (by omega)
  unfold m_mean
  rw [if_neg h]
  rw [Bool.or_eq_true, Bool.or_eq_true, Bool.or_eq_true] at a
  rcases a with a | a | a | a
  · exact absurd (beq_iff_eq.mp a) h
  · exact absurd (of_decide_eq_true a) (by omega)
  · exact absurd (of_decide_eq_true a) (by omega)
  · unfold z_fok at a
    simp only [Bool.and_eq_true, decide_eq_true_eq] at a
    exact a
theorem z_mean0 {X : qm} (h : X.1 0 0 = 0) : Op.cmpValue (FP.fcmp (m_mean X) FP.fconst0) .l = 0 := by
  unfold m_mean
  rw [if_pos h]
  decide +kernel
