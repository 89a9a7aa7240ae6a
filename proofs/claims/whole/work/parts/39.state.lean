/-! THE WHOLE STATE: what class and model's program tell alike. A: the state, how many saved and which, whether there is a snapshot and which, how long the text and its codes -/
abbrev qA : Type := qm × ((Nat × (Nat → qm)) × ((Nat × qm) × (Nat × (Nat → Nat))))
abbrev aX (A : qA) : qm := A.1
abbrev aC (A : qA) : Nat := A.2.1.1
abbrev aS (A : qA) : Nat → qm := A.2.1.2
abbrev aN (A : qA) : Nat := A.2.2.1.1
abbrev aY (A : qA) : qm := A.2.2.1.2
abbrev aL (A : qA) : Nat := A.2.2.2.1
abbrev aT (A : qA) : Nat → Nat := A.2.2.2.2
def a_mv (A : qA) (X : qm) : qA := (X, ((m_svC (aC A), m_sv (aC A) (aS A) (aX A)), A.2.2))
def a_put (A : qA) (k : Nat) : qA := (aX A, (A.2.1, (A.2.2.1, (aL A + 1, fun i => if i = aL A then k else aT A i))))
def a_len0 (A : qA) : qA := (aX A, (A.2.1, (A.2.2.1, (0, aT A))))
def a_keep (A : qA) : qA := (aX A, (A.2.1, ((1, aX A), A.2.2.2)))
def a_undo (A : qA) : qA := (aS A (aC A - 1), ((aC A - 1, aS A), A.2.2))
/-- how many messages were sent at most, and that the account is right -/
def Bd (n : Nat) (X : qm) : Prop := X.1 0 1 ≤ n ∧ X.1 0 2 + X.1 0 3 + X.1 0 4 = X.1 0 1
def GA (n : Nat) (A : qA) : Prop := (J (aX A) ∧ Bd n (aX A)) ∧ aC A ≤ 6 ∧ (∀ i, i < aC A → J (aS A i) ∧ Bd n (aS A i)) ∧ aN A ≤ 1 ∧ (aN A = 1 → J (aY A) ∧ Bd n (aY A)) ∧ aL A ≤ 60 ∧ (∀ i, i < aL A → 33 ≤ aT A i ∧ aT A i ≤ 126)
def RBt (A : qA) (F : List qE) (t : Int32) : Prop := ∃ (sf asd sts snp txt rdd : Nat → Int32) (pt iw rm : Int32), F = oR t sf asd sts snp txt rdd (nI (aC A)) (nI (aN A)) (nI (aL A)) pt iw rm ∧ RelR sf (aX A) ∧ RelS sts (aC A) (aS A) ∧ (aN A = 1 → RelR snp (aY A)) ∧ (∀ i, i < aL A → txt i = nI (aT A i))
def RB (A : qA) (F : List qE) : Prop := ∃ t, RBt A F t
def RA (A : qA) (f : List qE) (w : Fin 16 → qw) : Prop := ∃ (pi : Nat → Option qK) (buf rd : Nat → Int32), f = oC pi buf (nI (aC A)) (nI (aN A)) (nI (aL A)) rd ∧ RelC (w 1) (aX A) ∧ RelL pi w (aC A) (aS A) ∧ (aN A = 1 → RelC (w 2) (aY A)) ∧ (∀ i, i < aL A → buf i = nI (aT A i))
theorem i_in_le {p n : Nat} (hp : p < 2 ^ 31) (hn : n < 2 ^ 31) : i_in (nI p) n = decide (p < n) := by
  by_cases q : p < n
  · rw [i_in_nI q hn, decide_eq_true q]
  · rw [decide_eq_false q]
    unfold i_in
    rw [decide_eq_false_iff_not]
    exact fun c => q ((nI_ltI hp hn).mp c.2)
def S_begin (A : qA) (x y z : Int32) (code : Nat) (v : Int32) (A2 : qA) : Prop :=
  (i_in x 4 = false ∧ code = 1 ∧ A = A2) ∨
  (∃ f : Nat, f < 4 ∧ x = nI f ∧ i_to f y = false ∧ code = 2 ∧ A = A2) ∨
  (∃ f to : Nat, f < 4 ∧ x = nI f ∧ 1 ≤ to ∧ to < 16 ∧ to / 2 ^ f % 2 = 0 ∧ y = nI to ∧ ¬ (¬ z < nI 1 ∧ ¬ nI 50 < z) ∧ code = 2 ∧ A = A2) ∨
  (∃ f to sz : Nat, f < 4 ∧ x = nI f ∧ 1 ≤ to ∧ to < 16 ∧ to / 2 ^ f % 2 = 0 ∧ y = nI to ∧ 1 ≤ sz ∧ sz ≤ 50 ∧ z = nI sz ∧ ¬ ((aX A).1 1 4 = 1 ∧ (aX A).1 0 0 < 8) ∧ code = 3 ∧ A = A2) ∨
  (∃ f to sz : Nat, f < 4 ∧ x = nI f ∧ 1 ≤ to ∧ to < 16 ∧ to / 2 ^ f % 2 = 0 ∧ y = nI to ∧ 1 ≤ sz ∧ sz ≤ 50 ∧ z = nI sz ∧ ((aX A).1 1 4 = 1 ∧ (aX A).1 0 0 < 8) ∧ code = 0 ∧ v = nI ((aX A).1 0 0) ∧ A2 = a_mv A (m_begin (aX A) f to sz))
def S_giveUp (A : qA) (x : Int32) (code : Nat) (v : Int32) (A2 : qA) : Prop :=
  (i_in x ((aX A).1 0 0) = false ∧ code = 1 ∧ A = A2) ∨
  (∃ t : Nat, t < (aX A).1 0 0 ∧ x = nI t ∧ ¬ ((aX A).1 1 4 = 1 ∧ (aX A).1 7 t = 0) ∧ code = 2 ∧ A = A2) ∨
  (∃ t : Nat, t < (aX A).1 0 0 ∧ x = nI t ∧ ((aX A).1 1 4 = 1 ∧ (aX A).1 7 t = 0) ∧ code = 0 ∧ v = nI ((m_decide (aX A) t 2).1 0 4) ∧ A2 = a_mv A (m_decide (aX A) t 2))
def S_ask (A : qA) (x y : Int32) (code : Nat) (v : Int32) (A2 : qA) : Prop :=
  (i_in x 4 = false ∧ code = 1 ∧ A = A2) ∨
  (∃ s : Nat, s < 4 ∧ x = nI s ∧ i_in y ((aX A).1 0 0) = false ∧ code = 1 ∧ A = A2) ∨
  (∃ s t : Nat, s < 4 ∧ x = nI s ∧ t < (aX A).1 0 0 ∧ y = nI t ∧ ¬ ((aX A).1 1 s = 1 ∧ (aX A).1 9 (8 * s + t) = 1) ∧ code = 2 ∧ A = A2) ∨
  (∃ s t : Nat, s < 4 ∧ x = nI s ∧ t < (aX A).1 0 0 ∧ y = nI t ∧ ((aX A).1 1 s = 1 ∧ (aX A).1 9 (8 * s + t) = 1) ∧ code = 0 ∧ v = nI ((m_send (aX A) 6 t s).1 0 4) ∧ A2 = a_mv A (m_send (aX A) 6 t s))
def S_deliver (A : qA) (x : Int32) (code : Nat) (v : Int32) (A2 : qA) : Prop :=
  (i_in x ((aX A).1 0 4) = false ∧ code = 1 ∧ A = A2) ∨
  (∃ p : Nat, p < (aX A).1 0 4 ∧ x = nI p ∧ code = 0 ∧ v = q_b (m_isUp (aX A) p) ∧ A2 = a_mv A (m_deliver (aX A) p))
def S_deliverAll (A : qA) (code : Nat) (v : Int32) (A2 : qA) : Prop :=
  (code = 0 ∧ v = nI (m_runN (aX A)) ∧ A2 = a_mv A (m_run (aX A)))
def S_lose (A : qA) (x : Int32) (code : Nat) (v : Int32) (A2 : qA) : Prop :=
  (i_in x ((aX A).1 0 4) = false ∧ code = 1 ∧ A = A2) ∨
  (∃ p : Nat, p < (aX A).1 0 4 ∧ x = nI p ∧ code = 0 ∧ v = nI ((aX A).1 12 p / 32) ∧ A2 = a_mv A (m_lose (aX A) p))
def S_crash (A : qA) (x : Int32) (code : Nat) (v : Int32) (A2 : qA) : Prop :=
  (i_in x 5 = false ∧ code = 1 ∧ A = A2) ∨
  (∃ k : Nat, k < 5 ∧ x = nI k ∧ ¬ (aX A).1 1 k = 1 ∧ code = 2 ∧ A = A2) ∨
  (∃ k : Nat, k < 5 ∧ x = nI k ∧ (aX A).1 1 k = 1 ∧ code = 0 ∧ v = nI (m_bits5 (m_mask5 (m_crash (aX A) k))) ∧ A2 = a_mv A (m_crash (aX A) k))
def S_recover (A : qA) (x : Int32) (code : Nat) (v : Int32) (A2 : qA) : Prop :=
  (i_in x 5 = false ∧ code = 1 ∧ A = A2) ∨
  (∃ k : Nat, k < 5 ∧ x = nI k ∧ (aX A).1 1 k = 1 ∧ code = 2 ∧ A = A2) ∨
  (∃ k : Nat, k < 5 ∧ x = nI k ∧ ¬ (aX A).1 1 k = 1 ∧ code = 0 ∧ v = nI ((m_recover (aX A) k).1 0 4) ∧ A2 = a_mv A (m_recover (aX A) k))
set_option maxRecDepth 20000 in
set_option maxHeartbeats 4000000 in
theorem p_deliverAll (h : qB) {n : Nat} {A : qA} (hG : GA n A) {F : List qE} (hB : RB A F) {code : Nat} {v : Int32} {A2 : qA} (hS : S_deliverAll A code v A2) : CtI mX3_deliverAll 12 [qR 11 0] (q_put h 11 F) (fun r h2 => ∃ F', RBt A2 F' (nI code) ∧ (code = 0 → r = v) ∧ h2 = q_put h 11 F') := by
  obtain ⟨th, sf, asd, sts, snp, txt, rdd, pt, iw, rm, rfl, hR, hS2, hY, hT⟩ := hB
  have hJ := hG.1.1
  have hW := wk_J hJ
  have hT61 : (aX A).1 0 0 < 61 := Nat.lt_of_le_of_lt hW.1 (by decide)
  have hW61 : (aX A).1 0 4 < 61 := Nat.lt_of_le_of_lt hW.2.1 (by decide)
  have hT31 : (aX A).1 0 0 < 2 ^ 31 := Nat.lt_of_lt_of_le hT61 (by decide)
  have hW31 : (aX A).1 0 4 < 2 ^ 31 := Nat.lt_of_lt_of_le hW61 (by decide)
  obtain ⟨rfl, rfl, rfl⟩ := hS
  refine ct_of (by decide +kernel) rfl rfl (Nat.le_of_ble_eq_true rfl) ?_
  show Ev mX3_deliverAll 12 0 [some (qR 11 0)] [] 132 (q_put h 11 (oR th sf asd sts snp txt rdd (nI (aC A)) (nI (aN A)) (nI (aL A)) pt iw rm)) 0 0 _ _
  refine e_aload0 dX3_deliverAll_0 ?_
  refine e_iconst (z := 0) dX3_deliverAll_1 ?_
  refine e_putfieldF flX3_28 dX3_deliverAll_2 rfl (Nat.le_of_ble_eq_true rfl) (fun _ => rfl) (fun _ => rfl) ?_
  refine e_aload0 dX3_deliverAll_5 ?_
  refine e_vVF (M' := mX3_recordsState) fX3_recordsState lkX3_116 (r_recordsState h (nI 0) sf asd sts snp txt rdd (nI (aN A)) (nI (aL A)) pt iw rm (aX A) hR hJ (aC A) hG.2.1 (aS A) hS2) rfl rfl dX3_deliverAll_6 rfl rfl (by decide) (Nat.le_of_ble_eq_true rfl) rfl ?_
  rintro _ ⟨s2, hS3, rfl⟩
  refine e_aload0 dX3_deliverAll_9 ?_
  refine e_vIF (M' := mX3_deliversAll) fX3_deliversAll lkX3_139 (r_deliversAll h (nI 0) sf asd s2 snp txt rdd (nI (m_svC (aC A))) (nI (aN A)) (nI (aL A)) pt iw rm (aX A) hR hJ) rfl rfl dX3_deliverAll_10 rfl rfl (by decide) (Nat.le_of_ble_eq_true rfl) rfl ?_
  rintro _ _ ⟨rfl, sf3, hR3, rfl⟩
  refine e_iret dX3_deliverAll_13 rfl ?_
  exact ⟨_, rfl, rfl, _, ⟨sf3, asd, s2, snp, txt, rdd, pt, iw, rm, rfl, hR3, hS3, hY, hT⟩, fun _ => rfl, rfl⟩
set_option maxRecDepth 20000 in
set_option maxHeartbeats 4000000 in
theorem p_deliver (h : qB) {n : Nat} {A : qA} (hG : GA n A) {F : List qE} (hB : RB A F) {x : Int32} {code : Nat} {v : Int32} {A2 : qA} (hS : S_deliver A x code v A2) : CtI mX3_deliver 12 [qR 11 0, qI x] (q_put h 11 F) (fun r h2 => ∃ F', RBt A2 F' (nI code) ∧ (code = 0 → r = v) ∧ h2 = q_put h 11 F') := by
  obtain ⟨th, sf, asd, sts, snp, txt, rdd, pt, iw, rm, rfl, hR, hS2, hY, hT⟩ := hB
  have hJ := hG.1.1
  have hW := wk_J hJ
  have hT61 : (aX A).1 0 0 < 61 := Nat.lt_of_le_of_lt hW.1 (by decide)
  have hW61 : (aX A).1 0 4 < 61 := Nat.lt_of_le_of_lt hW.2.1 (by decide)
  have hT31 : (aX A).1 0 0 < 2 ^ 31 := Nat.lt_of_lt_of_le hT61 (by decide)
  have hW31 : (aX A).1 0 4 < 2 ^ 31 := Nat.lt_of_lt_of_le hW61 (by decide)
  rcases hS with ⟨c0, rfl, rfl⟩ | ⟨p, c0, rfl, rfl, rfl, rfl⟩
  · refine ct_of (by decide +kernel) rfl rfl (Nat.le_of_ble_eq_true rfl) ?_
    show Ev mX3_deliver 12 0 [some (qR 11 0), some (qI (x))] [] 132 (q_put h 11 (oR th sf asd sts snp txt rdd (nI (aC A)) (nI (aN A)) (nI (aL A)) pt iw rm)) 0 0 _ _
    refine e_aload0 dX3_deliver_0 ?_
    refine e_iconst (z := 0) dX3_deliver_1 ?_
    refine e_putfieldF flX3_28 dX3_deliver_2 rfl (Nat.le_of_ble_eq_true rfl) (fun _ => rfl) (fun _ => rfl) ?_
    refine e_aload0 dX3_deliver_5 ?_
    refine e_iload1 dX3_deliver_6 ?_
    refine e_vIF (M' := mX3_isMessage) fX3_isMessage lkX3_132 (r_isMessage h (nI 0) sf asd sts snp txt rdd (nI (aC A)) (nI (aN A)) (nI (aL A)) pt iw rm (aX A) hR hW61 (x)) rfl rfl dX3_deliver_7 rfl rfl (by decide) (Nat.le_of_ble_eq_true rfl) rfl ?_
    rintro _ _ ⟨rfl, rfl⟩
    rw [c0]
    refine e_if_neN 27 dX3_deliver_10 (by decide) (by first | omega | decide) (fun q => absurd rfl q) (fun hc10 => ?_)
    refine e_aload0 dX3_deliver_13 ?_
    refine e_iconst (z := 1) dX3_deliver_14 ?_
    refine e_vIF (M' := mX3_fails) fX3_fails lkX3_106 (r_fails h (nI 0) sf asd sts snp txt rdd (nI (aC A)) (nI (aN A)) (nI (aL A)) pt iw rm (x := nI 1)) rfl rfl dX3_deliver_15 rfl rfl (by decide) (Nat.le_of_ble_eq_true rfl) rfl ?_
    rintro _ _ ⟨rfl, rfl⟩
    refine e_if_le 25 dX3_deliver_18 (by decide) (fun _ => ?_) (fun q => absurd (by decide) q)
    refine e_iconst (z := 0) dX3_deliver_25 ?_
    refine e_zret dX3_deliver_26 rfl (by first | rfl | exact q_nar _) ?_
    exact ⟨_, rfl, rfl, _, ⟨sf, asd, sts, snp, txt, rdd, pt, iw, rm, rfl, hR, hS2, hY, hT⟩, fun q => absurd q (by decide), rfl⟩
  · refine ct_of (by decide +kernel) rfl rfl (Nat.le_of_ble_eq_true rfl) ?_
    show Ev mX3_deliver 12 0 [some (qR 11 0), some (qI (nI p))] [] 132 (q_put h 11 (oR th sf asd sts snp txt rdd (nI (aC A)) (nI (aN A)) (nI (aL A)) pt iw rm)) 0 0 _ _
    refine e_aload0 dX3_deliver_0 ?_
    refine e_iconst (z := 0) dX3_deliver_1 ?_
    refine e_putfieldF flX3_28 dX3_deliver_2 rfl (Nat.le_of_ble_eq_true rfl) (fun _ => rfl) (fun _ => rfl) ?_
    refine e_aload0 dX3_deliver_5 ?_
    refine e_iload1 dX3_deliver_6 ?_
    refine e_vIF (M' := mX3_isMessage) fX3_isMessage lkX3_132 (r_isMessage h (nI 0) sf asd sts snp txt rdd (nI (aC A)) (nI (aN A)) (nI (aL A)) pt iw rm (aX A) hR hW61 (nI p)) rfl rfl dX3_deliver_7 rfl rfl (by decide) (Nat.le_of_ble_eq_true rfl) rfl ?_
    rintro _ _ ⟨rfl, rfl⟩
    rw [i_in_nI c0 hW31]
    refine e_if_neN 27 dX3_deliver_10 (by decide) (by first | omega | decide) (fun hc10 => ?_) (fun q => absurd q (by decide))
    refine e_aload0 dX3_deliver_27 ?_
    refine e_vVF (M' := mX3_recordsState) fX3_recordsState lkX3_116 (r_recordsState h (nI 0) sf asd sts snp txt rdd (nI (aN A)) (nI (aL A)) pt iw rm (aX A) hR hJ (aC A) hG.2.1 (aS A) hS2) rfl rfl dX3_deliver_28 rfl rfl (by decide) (Nat.le_of_ble_eq_true rfl) rfl ?_
    rintro _ ⟨s2, hS3, rfl⟩
    refine e_aload0 dX3_deliver_31 ?_
    refine e_iload1 dX3_deliver_32 ?_
    refine e_vIF (M' := mX3_delivers) fX3_delivers lkX3_100 (r_delivers h (nI 0) sf asd s2 snp txt rdd (nI (m_svC (aC A))) (nI (aN A)) (nI (aL A)) pt iw rm (aX A) hR hJ (p := p) c0) rfl rfl dX3_deliver_33 rfl rfl (by decide) (Nat.le_of_ble_eq_true rfl) rfl ?_
    rintro _ _ ⟨rfl, sf3, hR3, rfl⟩
    refine e_zret dX3_deliver_36 rfl (by first | rfl | exact q_nar _) ?_
    exact ⟨_, rfl, rfl, _, ⟨sf3, asd, s2, snp, txt, rdd, pt, iw, rm, rfl, hR3, hS3, hY, hT⟩, fun _ => rfl, rfl⟩
set_option maxRecDepth 20000 in
set_option maxHeartbeats 4000000 in
theorem p_lose (h : qB) {n : Nat} {A : qA} (hG : GA n A) {F : List qE} (hB : RB A F) {x : Int32} {code : Nat} {v : Int32} {A2 : qA} (hS : S_lose A x code v A2) : CtI mX3_lose 12 [qR 11 0, qI x] (q_put h 11 F) (fun r h2 => ∃ F', RBt A2 F' (nI code) ∧ (code = 0 → r = v) ∧ h2 = q_put h 11 F') := by
  obtain ⟨th, sf, asd, sts, snp, txt, rdd, pt, iw, rm, rfl, hR, hS2, hY, hT⟩ := hB
  have hJ := hG.1.1
  have hW := wk_J hJ
  have hT61 : (aX A).1 0 0 < 61 := Nat.lt_of_le_of_lt hW.1 (by decide)
  have hW61 : (aX A).1 0 4 < 61 := Nat.lt_of_le_of_lt hW.2.1 (by decide)
  have hT31 : (aX A).1 0 0 < 2 ^ 31 := Nat.lt_of_lt_of_le hT61 (by decide)
  have hW31 : (aX A).1 0 4 < 2 ^ 31 := Nat.lt_of_lt_of_le hW61 (by decide)
  rcases hS with ⟨c0, rfl, rfl⟩ | ⟨p, c0, rfl, rfl, rfl, rfl⟩
  · refine ct_of (by decide +kernel) rfl rfl (Nat.le_of_ble_eq_true rfl) ?_
    show Ev mX3_lose 12 0 [some (qR 11 0), some (qI (x))] [] 132 (q_put h 11 (oR th sf asd sts snp txt rdd (nI (aC A)) (nI (aN A)) (nI (aL A)) pt iw rm)) 0 0 _ _
    refine e_aload0 dX3_lose_0 ?_
    refine e_iconst (z := 0) dX3_lose_1 ?_
    refine e_putfieldF flX3_28 dX3_lose_2 rfl (Nat.le_of_ble_eq_true rfl) (fun _ => rfl) (fun _ => rfl) ?_
    refine e_aload0 dX3_lose_5 ?_
    refine e_iload1 dX3_lose_6 ?_
    refine e_vIF (M' := mX3_isMessage) fX3_isMessage lkX3_132 (r_isMessage h (nI 0) sf asd sts snp txt rdd (nI (aC A)) (nI (aN A)) (nI (aL A)) pt iw rm (aX A) hR hW61 (x)) rfl rfl dX3_lose_7 rfl rfl (by decide) (Nat.le_of_ble_eq_true rfl) rfl ?_
    rintro _ _ ⟨rfl, rfl⟩
    rw [c0]
    refine e_if_neN 19 dX3_lose_10 (by decide) (by first | omega | decide) (fun q => absurd rfl q) (fun hc10 => ?_)
    refine e_aload0 dX3_lose_13 ?_
    refine e_iconst (z := 1) dX3_lose_14 ?_
    refine e_vIF (M' := mX3_fails) fX3_fails lkX3_106 (r_fails h (nI 0) sf asd sts snp txt rdd (nI (aC A)) (nI (aN A)) (nI (aL A)) pt iw rm (x := nI 1)) rfl rfl dX3_lose_15 rfl rfl (by decide) (Nat.le_of_ble_eq_true rfl) rfl ?_
    rintro _ _ ⟨rfl, rfl⟩
    refine e_iret dX3_lose_18 rfl ?_
    exact ⟨_, rfl, rfl, _, ⟨sf, asd, sts, snp, txt, rdd, pt, iw, rm, rfl, hR, hS2, hY, hT⟩, fun q => absurd q (by decide), rfl⟩
  · refine ct_of (by decide +kernel) rfl rfl (Nat.le_of_ble_eq_true rfl) ?_
    show Ev mX3_lose 12 0 [some (qR 11 0), some (qI (nI p))] [] 132 (q_put h 11 (oR th sf asd sts snp txt rdd (nI (aC A)) (nI (aN A)) (nI (aL A)) pt iw rm)) 0 0 _ _
    refine e_aload0 dX3_lose_0 ?_
    refine e_iconst (z := 0) dX3_lose_1 ?_
    refine e_putfieldF flX3_28 dX3_lose_2 rfl (Nat.le_of_ble_eq_true rfl) (fun _ => rfl) (fun _ => rfl) ?_
    refine e_aload0 dX3_lose_5 ?_
    refine e_iload1 dX3_lose_6 ?_
    refine e_vIF (M' := mX3_isMessage) fX3_isMessage lkX3_132 (r_isMessage h (nI 0) sf asd sts snp txt rdd (nI (aC A)) (nI (aN A)) (nI (aL A)) pt iw rm (aX A) hR hW61 (nI p)) rfl rfl dX3_lose_7 rfl rfl (by decide) (Nat.le_of_ble_eq_true rfl) rfl ?_
    rintro _ _ ⟨rfl, rfl⟩
    rw [i_in_nI c0 hW31]
    refine e_if_neN 19 dX3_lose_10 (by decide) (by first | omega | decide) (fun hc10 => ?_) (fun q => absurd q (by decide))
    refine e_aload0 dX3_lose_19 ?_
    refine e_vVF (M' := mX3_recordsState) fX3_recordsState lkX3_116 (r_recordsState h (nI 0) sf asd sts snp txt rdd (nI (aN A)) (nI (aL A)) pt iw rm (aX A) hR hJ (aC A) hG.2.1 (aS A) hS2) rfl rfl dX3_lose_20 rfl rfl (by decide) (Nat.le_of_ble_eq_true rfl) rfl ?_
    rintro _ ⟨s2, hS3, rfl⟩
    refine e_aload0 dX3_lose_23 ?_
    refine e_iload1 dX3_lose_24 ?_
    refine e_vIF (M' := mX3_loses) fX3_loses lkX3_143 (r_loses h (nI 0) sf asd s2 snp txt rdd (nI (m_svC (aC A))) (nI (aN A)) (nI (aL A)) pt iw rm (aX A) hR hJ (p := p) c0) rfl rfl dX3_lose_25 rfl rfl (by decide) (Nat.le_of_ble_eq_true rfl) rfl ?_
    rintro _ _ ⟨rfl, sf3, hR3, rfl⟩
    refine e_iret dX3_lose_28 rfl ?_
    exact ⟨_, rfl, rfl, _, ⟨sf3, asd, s2, snp, txt, rdd, pt, iw, rm, rfl, hR3, hS3, hY, hT⟩, fun _ => rfl, rfl⟩
set_option maxRecDepth 20000 in
set_option maxHeartbeats 4000000 in
theorem p_begin (h : qB) {n : Nat} {A : qA} (hG : GA n A) {F : List qE} (hB : RB A F) {x y z : Int32} {code : Nat} {v : Int32} {A2 : qA} (hS : S_begin A x y z code v A2) : CtI mX3_begin 12 [qR 11 0, qI x, qI y, qI z] (q_put h 11 F) (fun r h2 => ∃ F', RBt A2 F' (nI code) ∧ (code = 0 → r = v) ∧ h2 = q_put h 11 F') := by
  obtain ⟨th, sf, asd, sts, snp, txt, rdd, pt, iw, rm, rfl, hR, hS2, hY, hT⟩ := hB
  have hJ := hG.1.1
  have hW := wk_J hJ
  have hT61 : (aX A).1 0 0 < 61 := Nat.lt_of_le_of_lt hW.1 (by decide)
  have hW61 : (aX A).1 0 4 < 61 := Nat.lt_of_le_of_lt hW.2.1 (by decide)
  have hT31 : (aX A).1 0 0 < 2 ^ 31 := Nat.lt_of_lt_of_le hT61 (by decide)
  have hW31 : (aX A).1 0 4 < 2 ^ 31 := Nat.lt_of_lt_of_le hW61 (by decide)
  rcases hS with ⟨c0, rfl, rfl⟩ | ⟨f, c0, rfl, c2, rfl, rfl⟩ | ⟨f, to, c0, rfl, c2, c3, c4, rfl, c6, rfl, rfl⟩ | ⟨f, to, sz, c0, rfl, c2, c3, c4, rfl, c6, c7, rfl, c9, rfl, rfl⟩ | ⟨f, to, sz, c0, rfl, c2, c3, c4, rfl, c6, c7, rfl, c9, rfl, rfl, rfl⟩
  · refine ct_of (by decide +kernel) rfl rfl (Nat.le_of_ble_eq_true rfl) ?_
    show Ev mX3_begin 12 0 [some (qR 11 0), some (qI (x)), some (qI (y)), some (qI (z))] [] 132 (q_put h 11 (oR th sf asd sts snp txt rdd (nI (aC A)) (nI (aN A)) (nI (aL A)) pt iw rm)) 0 0 _ _
    refine e_aload0 dX3_begin_0 ?_
    refine e_iconst (z := 0) dX3_begin_1 ?_
    refine e_putfieldF flX3_28 dX3_begin_2 rfl (Nat.le_of_ble_eq_true rfl) (fun _ => rfl) (fun _ => rfl) ?_
    refine e_iload1 dX3_begin_5 ?_
    refine e_sI (M' := mX3_isStore) fX3_isStore lkX3_103 (r_isStore _ (x)) rfl rfl dX3_begin_6 (by decide) (Nat.le_of_ble_eq_true rfl) rfl ?_
    rintro _ _ ⟨rfl, rfl⟩
    rw [c0]
    refine e_if_neN 18 dX3_begin_9 (by decide) (by first | omega | decide) (fun q => absurd rfl q) (fun hc9 => ?_)
    refine e_aload0 dX3_begin_12 ?_
    refine e_iconst (z := 1) dX3_begin_13 ?_
    refine e_vIF (M' := mX3_fails) fX3_fails lkX3_106 (r_fails h (nI 0) sf asd sts snp txt rdd (nI (aC A)) (nI (aN A)) (nI (aL A)) pt iw rm (x := nI 1)) rfl rfl dX3_begin_14 rfl rfl (by decide) (Nat.le_of_ble_eq_true rfl) rfl ?_
    rintro _ _ ⟨rfl, rfl⟩
    refine e_iret dX3_begin_17 rfl ?_
    exact ⟨_, rfl, rfl, _, ⟨sf, asd, sts, snp, txt, rdd, pt, iw, rm, rfl, hR, hS2, hY, hT⟩, fun q => absurd q (by decide), rfl⟩
  · refine ct_of (by decide +kernel) rfl rfl (Nat.le_of_ble_eq_true rfl) ?_
    show Ev mX3_begin 12 0 [some (qR 11 0), some (qI (nI f)), some (qI (y)), some (qI (z))] [] 132 (q_put h 11 (oR th sf asd sts snp txt rdd (nI (aC A)) (nI (aN A)) (nI (aL A)) pt iw rm)) 0 0 _ _
    refine e_aload0 dX3_begin_0 ?_
    refine e_iconst (z := 0) dX3_begin_1 ?_
    refine e_putfieldF flX3_28 dX3_begin_2 rfl (Nat.le_of_ble_eq_true rfl) (fun _ => rfl) (fun _ => rfl) ?_
    refine e_iload1 dX3_begin_5 ?_
    refine e_sI (M' := mX3_isStore) fX3_isStore lkX3_103 (r_isStore _ (nI f)) rfl rfl dX3_begin_6 (by decide) (Nat.le_of_ble_eq_true rfl) rfl ?_
    rintro _ _ ⟨rfl, rfl⟩
    rw [i_in_nI c0 (by decide)]
    refine e_if_neN 18 dX3_begin_9 (by decide) (by first | omega | decide) (fun hc9 => ?_) (fun q => absurd q (by decide))
    refine e_iload1 dX3_begin_18 ?_
    refine e_iload2 dX3_begin_19 ?_
    refine e_sI (M' := mX3_areStores) fX3_areStores lkX3_109 (r_areStores _ c0 y) rfl rfl dX3_begin_20 (by decide) (Nat.le_of_ble_eq_true rfl) rfl ?_
    rintro _ _ ⟨rfl, rfl⟩
    rw [c2]
    refine e_if_eqN 36 dX3_begin_23 (by decide) (by first | omega | decide) (fun hc23 => ?_) (fun q => absurd rfl q)
    refine e_aload0 dX3_begin_36 ?_
    refine e_iconst (z := 2) dX3_begin_37 ?_
    refine e_vIF (M' := mX3_fails) fX3_fails lkX3_106 (r_fails h (nI 0) sf asd sts snp txt rdd (nI (aC A)) (nI (aN A)) (nI (aL A)) pt iw rm (x := nI 2)) rfl rfl dX3_begin_38 rfl rfl (by decide) (Nat.le_of_ble_eq_true rfl) rfl ?_
    rintro _ _ ⟨rfl, rfl⟩
    refine e_iret dX3_begin_41 rfl ?_
    exact ⟨_, rfl, rfl, _, ⟨sf, asd, sts, snp, txt, rdd, pt, iw, rm, rfl, hR, hS2, hY, hT⟩, fun q => absurd q (by decide), rfl⟩
  · refine ct_of (by decide +kernel) rfl rfl (Nat.le_of_ble_eq_true rfl) ?_
    show Ev mX3_begin 12 0 [some (qR 11 0), some (qI (nI f)), some (qI (nI to)), some (qI (z))] [] 132 (q_put h 11 (oR th sf asd sts snp txt rdd (nI (aC A)) (nI (aN A)) (nI (aL A)) pt iw rm)) 0 0 _ _
    refine e_aload0 dX3_begin_0 ?_
    refine e_iconst (z := 0) dX3_begin_1 ?_
    refine e_putfieldF flX3_28 dX3_begin_2 rfl (Nat.le_of_ble_eq_true rfl) (fun _ => rfl) (fun _ => rfl) ?_
    refine e_iload1 dX3_begin_5 ?_
    refine e_sI (M' := mX3_isStore) fX3_isStore lkX3_103 (r_isStore _ (nI f)) rfl rfl dX3_begin_6 (by decide) (Nat.le_of_ble_eq_true rfl) rfl ?_
    rintro _ _ ⟨rfl, rfl⟩
    rw [i_in_nI c0 (by decide)]
    refine e_if_neN 18 dX3_begin_9 (by decide) (by first | omega | decide) (fun hc9 => ?_) (fun q => absurd q (by decide))
    refine e_iload1 dX3_begin_18 ?_
    refine e_iload2 dX3_begin_19 ?_
    refine e_sI (M' := mX3_areStores) fX3_areStores lkX3_109 (r_areStores _ c0 (nI to)) rfl rfl dX3_begin_20 (by decide) (Nat.le_of_ble_eq_true rfl) rfl ?_
    rintro _ _ ⟨rfl, rfl⟩
    rw [i_to_nI c0 c2 c3 c4]
    refine e_if_eqN 36 dX3_begin_23 (by decide) (by first | omega | decide) (fun q => absurd q (by decide)) (fun hc23 => ?_)
    refine e_iload3 dX3_begin_26 ?_
    refine e_iconst (z := 1) dX3_begin_27 ?_
    refine e_bipush (v := nI 50) dX3_begin_28 (by decide) ?_
    refine e_sI (M' := mX3_in) fX3_in lkX3_32 (r_in _ _ _ _) rfl rfl dX3_begin_30 (by decide) (Nat.le_of_ble_eq_true rfl) rfl ?_
    rintro _ _ ⟨rfl, rfl⟩
    rw [decide_eq_false c6]
    refine e_if_neN 42 dX3_begin_33 (by decide) (by first | omega | decide) (fun q => absurd rfl q) (fun hc33 => ?_)
    refine e_aload0 dX3_begin_36 ?_
    refine e_iconst (z := 2) dX3_begin_37 ?_
    refine e_vIF (M' := mX3_fails) fX3_fails lkX3_106 (r_fails h (nI 0) sf asd sts snp txt rdd (nI (aC A)) (nI (aN A)) (nI (aL A)) pt iw rm (x := nI 2)) rfl rfl dX3_begin_38 rfl rfl (by decide) (Nat.le_of_ble_eq_true rfl) rfl ?_
    rintro _ _ ⟨rfl, rfl⟩
    refine e_iret dX3_begin_41 rfl ?_
    exact ⟨_, rfl, rfl, _, ⟨sf, asd, sts, snp, txt, rdd, pt, iw, rm, rfl, hR, hS2, hY, hT⟩, fun q => absurd q (by decide), rfl⟩
  · refine ct_of (by decide +kernel) rfl rfl (Nat.le_of_ble_eq_true rfl) ?_
    show Ev mX3_begin 12 0 [some (qR 11 0), some (qI (nI f)), some (qI (nI to)), some (qI (nI sz))] [] 132 (q_put h 11 (oR th sf asd sts snp txt rdd (nI (aC A)) (nI (aN A)) (nI (aL A)) pt iw rm)) 0 0 _ _
    refine e_aload0 dX3_begin_0 ?_
    refine e_iconst (z := 0) dX3_begin_1 ?_
    refine e_putfieldF flX3_28 dX3_begin_2 rfl (Nat.le_of_ble_eq_true rfl) (fun _ => rfl) (fun _ => rfl) ?_
    refine e_iload1 dX3_begin_5 ?_
    refine e_sI (M' := mX3_isStore) fX3_isStore lkX3_103 (r_isStore _ (nI f)) rfl rfl dX3_begin_6 (by decide) (Nat.le_of_ble_eq_true rfl) rfl ?_
    rintro _ _ ⟨rfl, rfl⟩
    rw [i_in_nI c0 (by decide)]
    refine e_if_neN 18 dX3_begin_9 (by decide) (by first | omega | decide) (fun hc9 => ?_) (fun q => absurd q (by decide))
    refine e_iload1 dX3_begin_18 ?_
    refine e_iload2 dX3_begin_19 ?_
    refine e_sI (M' := mX3_areStores) fX3_areStores lkX3_109 (r_areStores _ c0 (nI to)) rfl rfl dX3_begin_20 (by decide) (Nat.le_of_ble_eq_true rfl) rfl ?_
    rintro _ _ ⟨rfl, rfl⟩
    rw [i_to_nI c0 c2 c3 c4]
    refine e_if_eqN 36 dX3_begin_23 (by decide) (by first | omega | decide) (fun q => absurd q (by decide)) (fun hc23 => ?_)
    refine e_iload3 dX3_begin_26 ?_
    refine e_iconst (z := 1) dX3_begin_27 ?_
    refine e_bipush (v := nI 50) dX3_begin_28 (by decide) ?_
    refine e_sI (M' := mX3_in) fX3_in lkX3_32 (r_in _ _ _ _) rfl rfl dX3_begin_30 (by decide) (Nat.le_of_ble_eq_true rfl) rfl ?_
    rintro _ _ ⟨rfl, rfl⟩
    rw [show decide (¬ nI sz < nI 1 ∧ ¬ nI 50 < nI sz) = true from decide_eq_true ⟨fun q => absurd ((nI_ltI (by omega) (by decide)).mp q) (by omega), fun q => absurd ((nI_ltI (by decide) (by omega)).mp q) (by omega)⟩]
    refine e_if_neN 42 dX3_begin_33 (by decide) (by first | omega | decide) (fun hc33 => ?_) (fun q => absurd q (by decide))
    refine e_aload0 dX3_begin_42 ?_
    refine e_vIF (M' := mX3_canBegin) fX3_canBegin lkX3_112 (r_canBegin h (nI 0) sf asd sts snp txt rdd (nI (aC A)) (nI (aN A)) (nI (aL A)) pt iw rm (aX A) hR hJ) rfl rfl dX3_begin_43 rfl rfl (by decide) (Nat.le_of_ble_eq_true rfl) rfl ?_
    rintro _ _ ⟨rfl, rfl⟩
    rw [decide_eq_false c9]
    refine e_if_neN 55 dX3_begin_46 (by decide) (by first | omega | decide) (fun q => absurd rfl q) (fun hc46 => ?_)
    refine e_aload0 dX3_begin_49 ?_
    refine e_iconst (z := 3) dX3_begin_50 ?_
    refine e_vIF (M' := mX3_fails) fX3_fails lkX3_106 (r_fails h (nI 0) sf asd sts snp txt rdd (nI (aC A)) (nI (aN A)) (nI (aL A)) pt iw rm (x := nI 3)) rfl rfl dX3_begin_51 rfl rfl (by decide) (Nat.le_of_ble_eq_true rfl) rfl ?_
    rintro _ _ ⟨rfl, rfl⟩
    refine e_iret dX3_begin_54 rfl ?_
    exact ⟨_, rfl, rfl, _, ⟨sf, asd, sts, snp, txt, rdd, pt, iw, rm, rfl, hR, hS2, hY, hT⟩, fun q => absurd q (by decide), rfl⟩
  · refine ct_of (by decide +kernel) rfl rfl (Nat.le_of_ble_eq_true rfl) ?_
    show Ev mX3_begin 12 0 [some (qR 11 0), some (qI (nI f)), some (qI (nI to)), some (qI (nI sz))] [] 132 (q_put h 11 (oR th sf asd sts snp txt rdd (nI (aC A)) (nI (aN A)) (nI (aL A)) pt iw rm)) 0 0 _ _
    refine e_aload0 dX3_begin_0 ?_
    refine e_iconst (z := 0) dX3_begin_1 ?_
    refine e_putfieldF flX3_28 dX3_begin_2 rfl (Nat.le_of_ble_eq_true rfl) (fun _ => rfl) (fun _ => rfl) ?_
    refine e_iload1 dX3_begin_5 ?_
    refine e_sI (M' := mX3_isStore) fX3_isStore lkX3_103 (r_isStore _ (nI f)) rfl rfl dX3_begin_6 (by decide) (Nat.le_of_ble_eq_true rfl) rfl ?_
    rintro _ _ ⟨rfl, rfl⟩
    rw [i_in_nI c0 (by decide)]
    refine e_if_neN 18 dX3_begin_9 (by decide) (by first | omega | decide) (fun hc9 => ?_) (fun q => absurd q (by decide))
    refine e_iload1 dX3_begin_18 ?_
    refine e_iload2 dX3_begin_19 ?_
    refine e_sI (M' := mX3_areStores) fX3_areStores lkX3_109 (r_areStores _ c0 (nI to)) rfl rfl dX3_begin_20 (by decide) (Nat.le_of_ble_eq_true rfl) rfl ?_
    rintro _ _ ⟨rfl, rfl⟩
    rw [i_to_nI c0 c2 c3 c4]
    refine e_if_eqN 36 dX3_begin_23 (by decide) (by first | omega | decide) (fun q => absurd q (by decide)) (fun hc23 => ?_)
    refine e_iload3 dX3_begin_26 ?_
    refine e_iconst (z := 1) dX3_begin_27 ?_
    refine e_bipush (v := nI 50) dX3_begin_28 (by decide) ?_
    refine e_sI (M' := mX3_in) fX3_in lkX3_32 (r_in _ _ _ _) rfl rfl dX3_begin_30 (by decide) (Nat.le_of_ble_eq_true rfl) rfl ?_
    rintro _ _ ⟨rfl, rfl⟩
    rw [show decide (¬ nI sz < nI 1 ∧ ¬ nI 50 < nI sz) = true from decide_eq_true ⟨fun q => absurd ((nI_ltI (by omega) (by decide)).mp q) (by omega), fun q => absurd ((nI_ltI (by decide) (by omega)).mp q) (by omega)⟩]
    refine e_if_neN 42 dX3_begin_33 (by decide) (by first | omega | decide) (fun hc33 => ?_) (fun q => absurd q (by decide))
    refine e_aload0 dX3_begin_42 ?_
    refine e_vIF (M' := mX3_canBegin) fX3_canBegin lkX3_112 (r_canBegin h (nI 0) sf asd sts snp txt rdd (nI (aC A)) (nI (aN A)) (nI (aL A)) pt iw rm (aX A) hR hJ) rfl rfl dX3_begin_43 rfl rfl (by decide) (Nat.le_of_ble_eq_true rfl) rfl ?_
    rintro _ _ ⟨rfl, rfl⟩
    rw [decide_eq_true c9]
    refine e_if_neN 55 dX3_begin_46 (by decide) (by first | omega | decide) (fun hc46 => ?_) (fun q => absurd q (by decide))
    refine e_aload0 dX3_begin_55 ?_
    refine e_vVF (M' := mX3_recordsState) fX3_recordsState lkX3_116 (r_recordsState h (nI 0) sf asd sts snp txt rdd (nI (aN A)) (nI (aL A)) pt iw rm (aX A) hR hJ (aC A) hG.2.1 (aS A) hS2) rfl rfl dX3_begin_56 rfl rfl (by decide) (Nat.le_of_ble_eq_true rfl) rfl ?_
    rintro _ ⟨s2, hS3, rfl⟩
    refine e_aload0 dX3_begin_59 ?_
    refine e_iload1 dX3_begin_60 ?_
    refine e_iload2 dX3_begin_61 ?_
    refine e_iload3 dX3_begin_62 ?_
    refine e_vIF (M' := mX3_begins) fX3_begins lkX3_119 (r_begins h (nI 0) sf asd s2 snp txt rdd (nI (m_svC (aC A))) (nI (aN A)) (nI (aL A)) pt iw rm (aX A) hR hJ (f := f) (to := to) (sz := sz) c9.2 c0 c3) rfl rfl dX3_begin_63 rfl rfl (by decide) (Nat.le_of_ble_eq_true rfl) rfl ?_
    rintro _ _ ⟨rfl, sf3, hR3, rfl⟩
    refine e_iret dX3_begin_66 rfl ?_
    exact ⟨_, rfl, rfl, _, ⟨sf3, asd, s2, snp, txt, rdd, pt, iw, rm, rfl, hR3, hS3, hY, hT⟩, fun _ => rfl, rfl⟩
