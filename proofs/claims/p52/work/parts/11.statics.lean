/-! STATIC METHODS OF THE CLASS, LOOKS OF ITS WORLD -/
theorem e_nm {M : qM} {d pc : Nat} {L : List (Option qV)} {st : List qV} {n : Nat} {h : qB} {kc ks : Nat} {P : qP} {X : qX} {x : Int32} (k : ∀ y, y = x → Ev M d pc L (qI y :: st) n h kc ks P X) : Ev M d pc L (qI x :: st) n h kc ks P X := k x rfl
theorem e_ldcIW {M : qM} {d pc idx : Nat} {L : List (Option qV)} {st : List qV} {n : Nat} {h : qB} {kc ks : Nat} {P : qP} {X : qX} {v : Int32} (hc : Cond.constant M.1.cls idx v ∈ lwA) (dg : decode M.2.1 pc = .ok (.ldc_w idx, 3)) (k : Ev M d (pc + 3) L (qI v :: st) n h kc ks P X) : Ev M d pc L st n h kc ks P X := by
  intro G p l e R s m args below meth c H locs ls C hl hP hz hS cells slots hu hcc hs
  exact lv_ldcw C.1 C.2.1 C.2.2.2.1 (C.2.2.2.2.1 _ hc) dg (k G p l e R s m args below meth c H locs ls C hl hP hz hS cells slots hu hcc hs)
theorem e_ldcI {M : qM} {d pc idx : Nat} {L : List (Option qV)} {st : List qV} {n : Nat} {h : qB} {kc ks : Nat} {P : qP} {X : qX} {v : Int32} (hc : Cond.constant M.1.cls idx v ∈ lwA) (dg : decode M.2.1 pc = .ok (.ldc idx, 2)) (k : Ev M d (pc + 2) L (qI v :: st) n h kc ks P X) : Ev M d pc L st n h kc ks P X := by
  intro G p l e R s m args below meth c H locs ls C hl hP hz hS cells slots hu hcc hs
  exact lv_ldc C.1 C.2.1 C.2.2.2.1 (C.2.2.2.2.1 _ hc) dg (k G p l e R s m args below meth c H locs ls C hl hP hz hS cells slots hu hcc hs)
def t_1 (m : Nat) : Nat := m - (m / 2 &&& 1431655765)
def t_2 (m : Nat) : Nat := (t_1 m &&& 858993459) + (t_1 m / 4 &&& 858993459)
def t_3 (m : Nat) : Nat := (t_2 m + t_2 m / 16) &&& 252645135
def t_4 (m : Nat) : Nat := t_3 m + t_3 m / 256
def t_5 (m : Nat) : Nat := t_4 m + t_4 m / 65536
def m_bits5 (m : Nat) : Nat := m_bits (m % 16) + m / 16
theorem t_b1 : ∀ m, m < 32 → nI m - (((nI m).toUInt32 >>> ((nI 1).toUInt32 &&& Int32.toUInt32 31)).toInt32 &&& 1431655765) = nI (t_1 m) := by decide +kernel
theorem t_b2 : ∀ m, m < 32 → (nI (t_1 m) &&& 858993459) + (((nI (t_1 m)).toUInt32 >>> ((nI 2).toUInt32 &&& Int32.toUInt32 31)).toInt32 &&& 858993459) = nI (t_2 m) := by decide +kernel
theorem t_b3 : ∀ m, m < 32 → (nI (t_2 m) + ((nI (t_2 m)).toUInt32 >>> ((nI 4).toUInt32 &&& Int32.toUInt32 31)).toInt32) &&& 252645135 = nI (t_3 m) := by decide +kernel
theorem t_b4 : ∀ m, m < 32 → nI (t_3 m) + ((nI (t_3 m)).toUInt32 >>> ((nI 8).toUInt32 &&& Int32.toUInt32 31)).toInt32 = nI (t_4 m) := by decide +kernel
theorem t_b5 : ∀ m, m < 32 → nI (t_4 m) + ((nI (t_4 m)).toUInt32 >>> ((nI 16).toUInt32 &&& Int32.toUInt32 31)).toInt32 = nI (t_5 m) := by decide +kernel
theorem t_b6 : ∀ m, m < 32 → nI (t_5 m) &&& nI 63 = nI (m_bits5 m) := by decide +kernel
set_option maxRecDepth 20000 in
set_option maxHeartbeats 4000000 in
theorem w_bitCount (h : qB) {m : Nat} (hm : m < 32) : CtI mJ6_bitCount_0f7a4 0 [qI (nI m)] (h) (fun r h2 => r = nI (m_bits5 m) ∧ h2 = h) := by
  refine ct_of (by decide +kernel) rfl rfl (Nat.le_of_ble_eq_true rfl) ?_
  show Ev mJ6_bitCount_0f7a4 0 0 [some (qI (nI m))] [] 124 (h) 0 0 _ _
  refine e_iload0 dJ6_bitCount_0f7a4_0 ?_
  refine e_iload0 dJ6_bitCount_0f7a4_1 ?_
  refine e_iconst (z := 1) dJ6_bitCount_0f7a4_2 ?_
  refine e_iushr dJ6_bitCount_0f7a4_3 ?_
  refine e_ldcIW ckJ6_265 dJ6_bitCount_0f7a4_4 ?_
  refine e_iand dJ6_bitCount_0f7a4_7 ?_
  refine e_isub dJ6_bitCount_0f7a4_8 ?_
  rw [t_b1 m hm]
  refine e_istore0 dJ6_bitCount_0f7a4_9 rfl (by decide) ?_
  refine e_iload0 dJ6_bitCount_0f7a4_10 ?_
  refine e_ldcIW ckJ6_266 dJ6_bitCount_0f7a4_11 ?_
  refine e_iand dJ6_bitCount_0f7a4_14 ?_
  refine e_iload0 dJ6_bitCount_0f7a4_15 ?_
  refine e_iconst (z := 2) dJ6_bitCount_0f7a4_16 ?_
  refine e_iushr dJ6_bitCount_0f7a4_17 ?_
  refine e_ldcIW ckJ6_266 dJ6_bitCount_0f7a4_18 ?_
  refine e_iand dJ6_bitCount_0f7a4_21 ?_
  refine e_iadd dJ6_bitCount_0f7a4_22 ?_
  rw [t_b2 m hm]
  refine e_istore0 dJ6_bitCount_0f7a4_23 rfl (by decide) ?_
  refine e_iload0 dJ6_bitCount_0f7a4_24 ?_
  refine e_iload0 dJ6_bitCount_0f7a4_25 ?_
  refine e_iconst (z := 4) dJ6_bitCount_0f7a4_26 ?_
  refine e_iushr dJ6_bitCount_0f7a4_27 ?_
  refine e_iadd dJ6_bitCount_0f7a4_28 ?_
  refine e_ldcIW ckJ6_267 dJ6_bitCount_0f7a4_29 ?_
  refine e_iand dJ6_bitCount_0f7a4_32 ?_
  rw [t_b3 m hm]
  refine e_istore0 dJ6_bitCount_0f7a4_33 rfl (by decide) ?_
  refine e_iload0 dJ6_bitCount_0f7a4_34 ?_
  refine e_iload0 dJ6_bitCount_0f7a4_35 ?_
  refine e_bipush (v := nI 8) dJ6_bitCount_0f7a4_36 (by decide) ?_
  refine e_iushr dJ6_bitCount_0f7a4_38 ?_
  refine e_iadd dJ6_bitCount_0f7a4_39 ?_
  rw [t_b4 m hm]
  refine e_istore0 dJ6_bitCount_0f7a4_40 rfl (by decide) ?_
  refine e_iload0 dJ6_bitCount_0f7a4_41 ?_
  refine e_iload0 dJ6_bitCount_0f7a4_42 ?_
  refine e_bipush (v := nI 16) dJ6_bitCount_0f7a4_43 (by decide) ?_
  refine e_iushr dJ6_bitCount_0f7a4_45 ?_
  refine e_iadd dJ6_bitCount_0f7a4_46 ?_
  rw [t_b5 m hm]
  refine e_istore0 dJ6_bitCount_0f7a4_47 rfl (by decide) ?_
  refine e_iload0 dJ6_bitCount_0f7a4_48 ?_
  refine e_bipush (v := nI 63) dJ6_bitCount_0f7a4_49 (by decide) ?_
  refine e_iand dJ6_bitCount_0f7a4_51 ?_
  refine e_iret dJ6_bitCount_0f7a4_52 rfl ?_
  exact ⟨_, rfl, rfl, t_b6 m hm, rfl⟩
set_option maxRecDepth 20000 in
set_option maxHeartbeats 4000000 in
theorem w_kindIn (h : qB) {r0 : Nat} (hm : r0 < 224) : CtI mX2_kindIn 0 [qI (nI r0)] (h) (fun r h2 => r = nI (r0 / 32) ∧ h2 = h) := by
  refine ct_of (by decide +kernel) rfl rfl (Nat.le_of_ble_eq_true rfl) ?_
  show Ev mX2_kindIn 0 0 [some (qI (nI r0))] [] 124 (h) 0 0 _ _
  refine e_iload0 dX2_kindIn_0 ?_
  refine e_iconst (z := 5) dX2_kindIn_1 ?_
  refine e_ishr dX2_kindIn_2 ?_
  refine e_iret dX2_kindIn_3 rfl ?_
  exact ⟨_, rfl, rfl, by rw [b_mk _ hm], rfl⟩
set_option maxRecDepth 20000 in
set_option maxHeartbeats 4000000 in
theorem w_transferIn (h : qB) {r0 : Nat} (hm : r0 < 224) : CtI mX2_transferIn 0 [qI (nI r0)] (h) (fun r h2 => r = nI (r0 / 4 % 8) ∧ h2 = h) := by
  refine ct_of (by decide +kernel) rfl rfl (Nat.le_of_ble_eq_true rfl) ?_
  show Ev mX2_transferIn 0 0 [some (qI (nI r0))] [] 124 (h) 0 0 _ _
  refine e_iload0 dX2_transferIn_0 ?_
  refine e_iconst (z := 2) dX2_transferIn_1 ?_
  refine e_ishr dX2_transferIn_2 ?_
  refine e_bipush (v := nI 7) dX2_transferIn_3 (by decide) ?_
  refine e_iand dX2_transferIn_5 ?_
  refine e_iret dX2_transferIn_6 rfl ?_
  exact ⟨_, rfl, rfl, by rw [b_mt _ hm], rfl⟩
set_option maxRecDepth 20000 in
set_option maxHeartbeats 4000000 in
theorem w_storeIn (h : qB) {r0 : Nat} (hm : r0 < 224) : CtI mX2_storeIn 0 [qI (nI r0)] (h) (fun r h2 => r = nI (r0 % 4) ∧ h2 = h) := by
  refine ct_of (by decide +kernel) rfl rfl (Nat.le_of_ble_eq_true rfl) ?_
  show Ev mX2_storeIn 0 0 [some (qI (nI r0))] [] 124 (h) 0 0 _ _
  refine e_iload0 dX2_storeIn_0 ?_
  refine e_iconst (z := 3) dX2_storeIn_1 ?_
  refine e_iand dX2_storeIn_2 ?_
  refine e_iret dX2_storeIn_3 rfl ?_
  exact ⟨_, rfl, rfl, by rw [b_ms _ hm], rfl⟩
set_option maxRecDepth 20000 in
set_option maxHeartbeats 4000000 in
theorem w_goesToStore (h : qB) {k : Nat} (hm : k < 7) : CtI mX2_goesToStore 0 [qI (nI k)] (h) (fun r h2 => r = q_b (decide (k = 0 ∨ k = 3 ∨ k = 4)) ∧ h2 = h) := by
  refine ct_of (by decide +kernel) rfl rfl (Nat.le_of_ble_eq_true rfl) ?_
  show Ev mX2_goesToStore 0 0 [some (qI (nI k))] [] 124 (h) 0 0 _ _
  refine e_iload0 dX2_goesToStore_0 ?_
  first | refine e_if_eqN 14 dX2_goesToStore_1 (by decide) (by omega) (fun hc1 => ?_) (fun hc1 => ?_) | refine e_if_eq 14 dX2_goesToStore_1 (by decide) (fun hc1 => ?_) (fun hc1 => ?_)
  · refine e_iconst (z := 1) dX2_goesToStore_14 ?_
    refine e_goto 19 dX2_goesToStore_15 (by decide) ?_
    refine e_zret dX2_goesToStore_19 rfl (by first | rfl | exact q_nar _) ?_
    exact ⟨_, rfl, rfl, by first | (refine q_b1 ?_; simp_all; done) | (refine q_b0 ?_; simp_all; done), rfl⟩
  · refine e_iload0 dX2_goesToStore_4 ?_
    refine e_iconst (z := 3) dX2_goesToStore_5 ?_
    first | refine e_icmp_eqN 14 dX2_goesToStore_6 (by decide) (by omega) (by omega) (fun hc6 => ?_) (fun hc6 => ?_) | refine e_icmp_eq 14 dX2_goesToStore_6 (by decide) (fun hc6 => ?_) (fun hc6 => ?_)
    · refine e_iconst (z := 1) dX2_goesToStore_14 ?_
      refine e_goto 19 dX2_goesToStore_15 (by decide) ?_
      refine e_zret dX2_goesToStore_19 rfl (by first | rfl | exact q_nar _) ?_
      exact ⟨_, rfl, rfl, by first | (refine q_b1 ?_; simp_all; done) | (refine q_b0 ?_; simp_all; done), rfl⟩
    · refine e_iload0 dX2_goesToStore_9 ?_
      refine e_iconst (z := 4) dX2_goesToStore_10 ?_
      first | refine e_icmp_neN 18 dX2_goesToStore_11 (by decide) (by omega) (by omega) (fun hc11 => ?_) (fun hc11 => ?_) | refine e_icmp_ne 18 dX2_goesToStore_11 (by decide) (fun hc11 => ?_) (fun hc11 => ?_)
      · refine e_iconst (z := 0) dX2_goesToStore_18 ?_
        refine e_zret dX2_goesToStore_19 rfl (by first | rfl | exact q_nar _) ?_
        exact ⟨_, rfl, rfl, by first | (refine q_b1 ?_; simp_all; done) | (refine q_b0 ?_; simp_all; done), rfl⟩
      · refine e_iconst (z := 1) dX2_goesToStore_14 ?_
        refine e_goto 19 dX2_goesToStore_15 (by decide) ?_
        refine e_zret dX2_goesToStore_19 rfl (by first | rfl | exact q_nar _) ?_
        exact ⟨_, rfl, rfl, by first | (refine q_b1 ?_; simp_all; done) | (refine q_b0 ?_; simp_all; done), rfl⟩
theorem e_drop0 {M : qM} {d pc : Nat} {st : List qV} {n : Nat} {h : qB} {kc ks : Nat} {P : qP} {X : qX} {l0 : Option qV} {t : List (Option qV)} (k : Ev M d pc (none :: t) st n h kc ks P X) : Ev M d pc (l0 :: t) st n h kc ks P X := e_le (by repeat (first | exact fun k x hx => hx | refine q_le_same ?_ | refine q_le_drop ?_)) k
theorem e_drop1 {M : qM} {d pc : Nat} {st : List qV} {n : Nat} {h : qB} {kc ks : Nat} {P : qP} {X : qX} {l0 l1 : Option qV} {t : List (Option qV)} (k : Ev M d pc (l0 :: none :: t) st n h kc ks P X) : Ev M d pc (l0 :: l1 :: t) st n h kc ks P X := e_le (by repeat (first | exact fun k x hx => hx | refine q_le_same ?_ | refine q_le_drop ?_)) k
theorem e_drop2 {M : qM} {d pc : Nat} {st : List qV} {n : Nat} {h : qB} {kc ks : Nat} {P : qP} {X : qX} {l0 l1 l2 : Option qV} {t : List (Option qV)} (k : Ev M d pc (l0 :: l1 :: none :: t) st n h kc ks P X) : Ev M d pc (l0 :: l1 :: l2 :: t) st n h kc ks P X := e_le (by repeat (first | exact fun k x hx => hx | refine q_le_same ?_ | refine q_le_drop ?_)) k
theorem e_drop3 {M : qM} {d pc : Nat} {st : List qV} {n : Nat} {h : qB} {kc ks : Nat} {P : qP} {X : qX} {l0 l1 l2 l3 : Option qV} {t : List (Option qV)} (k : Ev M d pc (l0 :: l1 :: l2 :: none :: t) st n h kc ks P X) : Ev M d pc (l0 :: l1 :: l2 :: l3 :: t) st n h kc ks P X := e_le (by repeat (first | exact fun k x hx => hx | refine q_le_same ?_ | refine q_le_drop ?_)) k
theorem e_drop4 {M : qM} {d pc : Nat} {st : List qV} {n : Nat} {h : qB} {kc ks : Nat} {P : qP} {X : qX} {l0 l1 l2 l3 l4 : Option qV} {t : List (Option qV)} (k : Ev M d pc (l0 :: l1 :: l2 :: l3 :: none :: t) st n h kc ks P X) : Ev M d pc (l0 :: l1 :: l2 :: l3 :: l4 :: t) st n h kc ks P X := e_le (by repeat (first | exact fun k x hx => hx | refine q_le_same ?_ | refine q_le_drop ?_)) k
theorem e_drop5 {M : qM} {d pc : Nat} {st : List qV} {n : Nat} {h : qB} {kc ks : Nat} {P : qP} {X : qX} {l0 l1 l2 l3 l4 l5 : Option qV} {t : List (Option qV)} (k : Ev M d pc (l0 :: l1 :: l2 :: l3 :: l4 :: none :: t) st n h kc ks P X) : Ev M d pc (l0 :: l1 :: l2 :: l3 :: l4 :: l5 :: t) st n h kc ks P X := e_le (by repeat (first | exact fun k x hx => hx | refine q_le_same ?_ | refine q_le_drop ?_)) k
theorem e_drop6 {M : qM} {d pc : Nat} {st : List qV} {n : Nat} {h : qB} {kc ks : Nat} {P : qP} {X : qX} {l0 l1 l2 l3 l4 l5 l6 : Option qV} {t : List (Option qV)} (k : Ev M d pc (l0 :: l1 :: l2 :: l3 :: l4 :: l5 :: none :: t) st n h kc ks P X) : Ev M d pc (l0 :: l1 :: l2 :: l3 :: l4 :: l5 :: l6 :: t) st n h kc ks P X := e_le (by repeat (first | exact fun k x hx => hx | refine q_le_same ?_ | refine q_le_drop ?_)) k
theorem e_drop7 {M : qM} {d pc : Nat} {st : List qV} {n : Nat} {h : qB} {kc ks : Nat} {P : qP} {X : qX} {l0 l1 l2 l3 l4 l5 l6 l7 : Option qV} {t : List (Option qV)} (k : Ev M d pc (l0 :: l1 :: l2 :: l3 :: l4 :: l5 :: l6 :: none :: t) st n h kc ks P X) : Ev M d pc (l0 :: l1 :: l2 :: l3 :: l4 :: l5 :: l6 :: l7 :: t) st n h kc ks P X := e_le (by repeat (first | exact fun k x hx => hx | refine q_le_same ?_ | refine q_le_drop ?_)) k
theorem e_drop8 {M : qM} {d pc : Nat} {st : List qV} {n : Nat} {h : qB} {kc ks : Nat} {P : qP} {X : qX} {l0 l1 l2 l3 l4 l5 l6 l7 l8 : Option qV} {t : List (Option qV)} (k : Ev M d pc (l0 :: l1 :: l2 :: l3 :: l4 :: l5 :: l6 :: l7 :: none :: t) st n h kc ks P X) : Ev M d pc (l0 :: l1 :: l2 :: l3 :: l4 :: l5 :: l6 :: l7 :: l8 :: t) st n h kc ks P X := e_le (by repeat (first | exact fun k x hx => hx | refine q_le_same ?_ | refine q_le_drop ?_)) k
theorem e_drop9 {M : qM} {d pc : Nat} {st : List qV} {n : Nat} {h : qB} {kc ks : Nat} {P : qP} {X : qX} {l0 l1 l2 l3 l4 l5 l6 l7 l8 l9 : Option qV} {t : List (Option qV)} (k : Ev M d pc (l0 :: l1 :: l2 :: l3 :: l4 :: l5 :: l6 :: l7 :: l8 :: none :: t) st n h kc ks P X) : Ev M d pc (l0 :: l1 :: l2 :: l3 :: l4 :: l5 :: l6 :: l7 :: l8 :: l9 :: t) st n h kc ks P X := e_le (by repeat (first | exact fun k x hx => hx | refine q_le_same ?_ | refine q_le_drop ?_)) k
def m_stAfter (k : Nat) : Nat := if k = 4 then 1 else if k = 1 then 2 else if k = 2 then 3 else 0
set_option maxRecDepth 20000 in
set_option maxHeartbeats 4000000 in
theorem w_stateAfterRecord (h : qB) {k : Nat} (hm : k < 5) : CtI mX2_stateAfterRecord 0 [qI (nI k)] (h) (fun r h2 => r = nI (m_stAfter k) ∧ h2 = h) := by
  refine ct_of (by decide +kernel) rfl rfl (Nat.le_of_ble_eq_true rfl) ?_
  show Ev mX2_stateAfterRecord 0 0 [some (qI (nI k))] [] 124 (h) 0 0 _ _
  refine e_iload0 dX2_stateAfterRecord_0 ?_
  rcases (show k = 0 ∨ k = 1 ∨ k = 2 ∨ k = 3 ∨ k = 4 by omega) with rfl | rfl | rfl | rfl | rfl
  · refine e_tableOut 38 dX2_stateAfterRecord_1 (by decide) (by decide) ?_
    refine e_iconst (z := 0) dX2_stateAfterRecord_38 ?_
    refine e_iret dX2_stateAfterRecord_39 rfl ?_
    exact ⟨_, rfl, rfl, rfl, rfl⟩
  · refine e_tableIn 34 (off := 33) dX2_stateAfterRecord_1 (by decide) (by decide) (by decide +kernel) (by decide) ?_
    refine e_iconst (z := 2) dX2_stateAfterRecord_34 ?_
    refine e_iret dX2_stateAfterRecord_35 rfl ?_
    exact ⟨_, rfl, rfl, rfl, rfl⟩
  · refine e_tableIn 36 (off := 35) dX2_stateAfterRecord_1 (by decide) (by decide) (by decide +kernel) (by decide) ?_
    refine e_iconst (z := 3) dX2_stateAfterRecord_36 ?_
    refine e_iret dX2_stateAfterRecord_37 rfl ?_
    exact ⟨_, rfl, rfl, rfl, rfl⟩
  · refine e_tableIn 38 (off := 37) dX2_stateAfterRecord_1 (by decide) (by decide) (by decide +kernel) (by decide) ?_
    refine e_iconst (z := 0) dX2_stateAfterRecord_38 ?_
    refine e_iret dX2_stateAfterRecord_39 rfl ?_
    exact ⟨_, rfl, rfl, rfl, rfl⟩
  · refine e_tableIn 32 (off := 31) dX2_stateAfterRecord_1 (by decide) (by decide) (by decide +kernel) (by decide) ?_
    refine e_iconst (z := 1) dX2_stateAfterRecord_32 ?_
    refine e_iret dX2_stateAfterRecord_33 rfl ?_
    exact ⟨_, rfl, rfl, rfl, rfl⟩
set_option maxRecDepth 20000 in
set_option maxHeartbeats 4000000 in
theorem w_shareIn (h : qB) {f to sz s : Nat} (hf : f < 4) (hto : to < 16) (hs : s < 4) : CtI mX2_shareIn 1 [qI (nI f), qI (nI to), qI (nI sz), qI (nI s)] (h) (fun r h2 => r = m_sh f to sz s ∧ h2 = h) := by
  refine ct_of (by decide +kernel) rfl rfl (Nat.le_of_ble_eq_true rfl) ?_
  show Ev mX2_shareIn 1 0 [some (qI (nI f)), some (qI (nI to)), some (qI (nI sz)), some (qI (nI s))] [] 124 (h) 0 0 _ _
  refine e_iload3 dX2_shareIn_0 ?_
  refine e_iload0 dX2_shareIn_1 ?_
  first | refine e_icmp_neN 13 dX2_shareIn_2 (by decide) (by omega) (by omega) (fun hc2 => ?_) (fun hc2 => ?_) | refine e_icmp_ne 13 dX2_shareIn_2 (by decide) (fun hc2 => ?_) (fun hc2 => ?_)
  · refine e_iload1 dX2_shareIn_13 ?_
    refine e_iload3 dX2_shareIn_14 ?_
    refine e_ishr dX2_shareIn_15 ?_
    refine e_iconst (z := 1) dX2_shareIn_16 ?_
    refine e_iand dX2_shareIn_17 ?_
    refine e_iconst (z := 1) dX2_shareIn_18 ?_
    rw [b_msk _ hto _ hs]
    first | refine e_icmp_neN 26 dX2_shareIn_19 (by decide) (by omega) (by omega) (fun hc19 => ?_) (fun hc19 => ?_) | refine e_icmp_ne 26 dX2_shareIn_19 (by decide) (fun hc19 => ?_) (fun hc19 => ?_)
    · refine e_iconst (z := 0) dX2_shareIn_26 ?_
      refine e_iret dX2_shareIn_27 rfl ?_
      exact ⟨_, rfl, rfl, by rw [m_sh, if_neg hc2]; simp [hc19], rfl⟩
    · refine e_iload2 dX2_shareIn_22 ?_
      refine e_goto 27 dX2_shareIn_23 (by decide) ?_
      refine e_iret dX2_shareIn_27 rfl ?_
      exact ⟨_, rfl, rfl, by rw [m_sh, if_neg hc2]; simp [hc19], rfl⟩
  · refine e_iload2 dX2_shareIn_5 ?_
    refine e_ineg dX2_shareIn_6 ?_
    refine e_iload1 dX2_shareIn_7 ?_
    refine e_sI (M' := mJ6_bitCount_0f7a4) fJ6_bitCount_0f7a4 lkX2_135 (w_bitCount h (m := to) (by omega)) rfl rfl dX2_shareIn_8 (by decide) (Nat.le_of_ble_eq_true rfl) rfl ?_
    rintro _ _ ⟨rfl, rfl⟩
    refine e_imul dX2_shareIn_11 ?_
    refine e_iret dX2_shareIn_12 rfl ?_
    exact ⟨_, rfl, rfl, by rw [m_sh, if_pos hc2]; unfold m_bits5; rw [Nat.mod_eq_of_lt hto, Nat.div_eq_of_lt hto, Nat.add_zero], rfl⟩
