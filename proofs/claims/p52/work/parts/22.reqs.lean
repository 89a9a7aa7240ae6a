/-! THE CLASS'S CALLS: rows over its cells; what they ask for -/
theorem e_getW {M : qM} {d pc : Nat} {L : List (Option qV)} {st : List qV} {n : Nat} {h : qB} {kc ks : Nat} {P : qP} {X : qX} {idx ci j : Nat} {ty : FieldType} {fin : Bool} {b o : Fin 16} {fs : List qV} {v : qV} {F : List qE} {w : Fin 16 → qw} {m : Nat}
    (hf : q_FL M.1.cls idx ci j ty fin) (dg : decode M.2.1 pc = .ok (.getfield idx, 3)) (h1 : b ≠ 0) (h2 : b.val ≤ m) (hF : (wblk b (w b))[o.val]? = some (eO ci fs)) (hv : fs[j]? = some v)
    (k : Ev M d (pc + 3) L (v :: st) n (hK h F w m) kc ks P X) : Ev M d pc L (qR b o :: st) n (hK h F w m) kc ks P X := e_getfield hf dg (by rw [hK_at h1 h2]; exact hF) hv k
theorem e_ialoadW {M : qM} {d pc : Nat} {L : List (Option qV)} {st : List qV} {n : Nat} {h : qB} {kc ks : Nat} {P : qP} {X : qX} {b o : Fin 16} {N : Nat} {f : Nat → Int32} {i : Nat} {F : List qE} {w : Fin 16 → qw} {m : Nat} (dg : decode M.2.1 pc = .ok (.iaload, 1)) (h1 : b ≠ 0) (h2 : b.val ≤ m) (hF : (wblk b (w b))[o.val]? = some (eI N f)) (hi : i < N) (hN : N < 2147483648) (k : Ev M d (pc + 1) L (qI (f i) :: st) n (hK h F w m) kc ks P X) : Ev M d pc L (qI (nI i) :: qR b o :: st) n (hK h F w m) kc ks P X := by
  rw [← hK_self (h := h) (o := F) (w := w) h1 h2] at k ⊢
  exact e_ialoadN dg hF hi hN k
theorem e_ialoadB {M : qM} {d pc : Nat} {L : List (Option qV)} {st : List qV} {n : Nat} {h : qB} {kc ks : Nat} {P : qP} {X : qX} {o : Fin 16} {N : Nat} {f : Nat → Int32} {i : Nat} {F : List qE} {w : Fin 16 → qw} {m : Nat} (dg : decode M.2.1 pc = .ok (.iaload, 1)) (hF : F[o.val]? = some (eI N f)) (hi : i < N) (hN : N < 2147483648) (k : Ev M d (pc + 1) L (qI (f i) :: st) n (hK h F w m) kc ks P X) : Ev M d pc L (qI (nI i) :: qR 0 o :: st) n (hK h F w m) kc ks P X := by
  rw [← q_put_self (hK_0 h F w m)] at k ⊢
  exact e_ialoadN dg hF hi hN k
theorem e_iastoreB {M : qM} {d pc : Nat} {L : List (Option qV)} {st : List qV} {n : Nat} {h : qB} {kc ks : Nat} {P : qP} {X : qX} {o : Fin 16} {N : Nat} {f : Nat → Int32} {i : Nat} {x : Int32} {F : List qE} {w : Fin 16 → qw} {m : Nat} (dg : decode M.2.1 pc = .ok (.iastore, 1)) (hF : F[o.val]? = some (eI N f)) (hi : i < N) (hN : N < 2147483648) (k : Ev M d (pc + 1) L st n (hK h (F.set o.val (eI N (upd f i x))) w m) kc ks P X) : Ev M d pc L (qI x :: qI (nI i) :: qR 0 o :: st) n (hK h F w m) kc ks P X := by
  rw [← q_put_self (hK_0 h F w m)]
  exact e_iastoreN dg hF hi hN (by rw [hK_put0]; exact k)
theorem ctV_K {M : qM} {d : Nat} {as : List qV} {h : qB} {o : List qE} {w : Fin 16 → qw} {m : Nat} {b : Fin 16} {Q : qB → Prop} (h1 : b ≠ 0) (h2 : b.val ≤ m) (c : CtV M d as (q_put (hK h o w m) b (wblk b (w b))) Q) : CtV M d as (hK h o w m) Q := by rw [hK_self h1 h2] at c; exact c
theorem ctI_K {M : qM} {d : Nat} {as : List qV} {h : qB} {o : List qE} {w : Fin 16 → qw} {m : Nat} {b : Fin 16} {Q : Int32 → qB → Prop} (h1 : b ≠ 0) (h2 : b.val ≤ m) (c : CtI M d as (q_put (hK h o w m) b (wblk b (w b))) Q) : CtI M d as (hK h o w m) Q := by rw [hK_self h1 h2] at c; exact c
/-- a call that throws -/
abbrev CtT (M : qM) (d : Nat) (as : List qV) (h : qB) (E : String) : Prop := Ct M d 1 6 as 124 h (fun _ _ _ => False) (fun E' n h' => E' = E ∧ n = 124 ∧ h' = h)
theorem e_vT {M M' : qM} {d d' pc idx na : Nat} {L : List (Option qV)} {st rest as : List qV} {h : qB} {kc ks : Nat} {P : qP} {X : qX} {E : String} {b o : Fin 16} {ci : Nat} {fs : List qV} {T : u_T} {N : Nat} (hM : q_MV M' na) (hl : Cond.methodLink M.1.cls idx M'.1 ∈ lwA) (hc : CtT M' d' (qR b o :: as) h E) (hna : as.length = na) (hst : st = as.reverse ++ qR b o :: rest) (dg : decode M.2.1 pc = .ok (.invokevirtual idx, 3)) (hF : (h b)[o.val]? = some (eO ci fs)) (hcl : vwCl[ci]? = some (M'.1.cls, T, N)) (hd : d' + 1 ≤ d) (hr : q_cats rest ≤ 8) (hkc : 1 ≤ kc) (hks : 6 ≤ ks) (hh : M.2.2.2.2.1 = []) (hX : X E 124 h) : Ev M d pc L st 124 h kc ks P X := by
  refine e_callV (by rw [hna]; exact hM) hl hc hst dg hF hcl hd hr hkc hks (by rw [hh]; intro x hx; cases hx) (fun _ _ _ q => q.elim) ?_ (fun _ _ _ q => q.elim)
  rintro E' n' h' ⟨rfl, rfl, rfl⟩
  exact hX
theorem i_out {x : Int32} {n : Nat} (h : i_in x n = false) : x < 0 ∨ ¬ x < nI n := by
  simp only [i_in, decide_eq_false_iff_not] at h
  by_cases q : x < 0
  · exact Or.inl q
  · exact Or.inr (fun c => h ⟨q, c⟩)
set_option maxRecDepth 20000 in
set_option maxHeartbeats 4000000 in
theorem v_requireStore (h : qB) (pi : Nat → Option qK) (buf : Nat → Int32) (cnt sn len : Int32) (rd : Nat → Int32) (w : Fin 16 → qw) {k : Nat} (hk : k < 4) : CtV mX2_requireStore 0 [qR 0 0, qI (nI k)] (hK h (oC pi buf cnt sn len rd) w 10) (fun h2 => h2 = hK h (oC pi buf cnt sn len rd) w 10) := by
  refine ct_of (by decide +kernel) rfl rfl (Nat.le_of_ble_eq_true rfl) ?_
  show Ev mX2_requireStore 0 0 [some (qR 0 0), some (qI (nI k))] [] 124 (hK h (oC pi buf cnt sn len rd) w 10) 0 0 _ _
  refine e_iload1 dX2_requireStore_0 ?_
  refine e_if_lt 9 dX2_requireStore_1 (by decide) (fun q => absurd q (nI_pos (by omega))) (fun _ => ?_)
  refine e_iload1 dX2_requireStore_4 ?_
  refine e_iconst (z := 4) dX2_requireStore_5 ?_
  refine e_icmp_ltN 20 dX2_requireStore_6 (by decide) (by omega) (by decide) (fun _ => ?_) (fun q => absurd q (by omega))
  refine e_vret dX2_requireStore_20 rfl ?_
  exact ⟨rfl, rfl, rfl⟩
set_option maxRecDepth 20000 in
set_option maxHeartbeats 4000000 in
theorem t_requireStore (h : qB) (pi : Nat → Option qK) (buf : Nat → Int32) (cnt sn len : Int32) (rd : Nat → Int32) (w : Fin 16 → qw) {x : Int32} (hx : i_in x 4 = false) : CtT mX2_requireStore 6 [qR 0 0, qI x] (hK h (oC pi buf cnt sn len rd) w 10) "java/lang/IndexOutOfBoundsException" := by
  refine ct_of (by decide +kernel) rfl rfl (Nat.le_of_ble_eq_true rfl) ?_
  show Ev mX2_requireStore 6 0 [some (qR 0 0), some (qI x)] [] 124 (hK h (oC pi buf cnt sn len rd) w 10) 1 6 _ _
  refine e_iload1 dX2_requireStore_0 ?_
  refine e_if_lt 9 dX2_requireStore_1 (by decide) (fun _ => ?_) (fun q0 => ?_)
  · refine e_throwW thX2_requireStore_9 dX2_requireStore_9 dX2_requireStore_12 dX2_requireStore_13 dX2_requireStore_16 dX2_requireStore_19 (q_noh rfl) (by decide) (by decide) (by decide) (by decide) ?_
    exact ⟨rfl, rfl, rfl⟩
  · refine e_iload1 dX2_requireStore_4 ?_
    refine e_iconst (z := 4) dX2_requireStore_5 ?_
    refine e_icmp_lt 20 dX2_requireStore_6 (by decide) (fun q => absurd q ((i_out hx).resolve_left q0)) (fun _ => ?_)
    refine e_throwW thX2_requireStore_9 dX2_requireStore_9 dX2_requireStore_12 dX2_requireStore_13 dX2_requireStore_16 dX2_requireStore_19 (q_noh rfl) (by decide) (by decide) (by decide) (by decide) ?_
    exact ⟨rfl, rfl, rfl⟩
set_option maxRecDepth 20000 in
set_option maxHeartbeats 4000000 in
theorem v_requireSite (h : qB) (pi : Nat → Option qK) (buf : Nat → Int32) (cnt sn len : Int32) (rd : Nat → Int32) (w : Fin 16 → qw) {k : Nat} (hk : k < 5) : CtV mX2_requireSite 0 [qR 0 0, qI (nI k)] (hK h (oC pi buf cnt sn len rd) w 10) (fun h2 => h2 = hK h (oC pi buf cnt sn len rd) w 10) := by
  refine ct_of (by decide +kernel) rfl rfl (Nat.le_of_ble_eq_true rfl) ?_
  show Ev mX2_requireSite 0 0 [some (qR 0 0), some (qI (nI k))] [] 124 (hK h (oC pi buf cnt sn len rd) w 10) 0 0 _ _
  refine e_iload1 dX2_requireSite_0 ?_
  refine e_if_lt 9 dX2_requireSite_1 (by decide) (fun q => absurd q (nI_pos (by omega))) (fun _ => ?_)
  refine e_iload1 dX2_requireSite_4 ?_
  refine e_iconst (z := 5) dX2_requireSite_5 ?_
  refine e_icmp_ltN 20 dX2_requireSite_6 (by decide) (by omega) (by decide) (fun _ => ?_) (fun q => absurd q (by omega))
  refine e_vret dX2_requireSite_20 rfl ?_
  exact ⟨rfl, rfl, rfl⟩
set_option maxRecDepth 20000 in
set_option maxHeartbeats 4000000 in
theorem t_requireSite (h : qB) (pi : Nat → Option qK) (buf : Nat → Int32) (cnt sn len : Int32) (rd : Nat → Int32) (w : Fin 16 → qw) {x : Int32} (hx : i_in x 5 = false) : CtT mX2_requireSite 6 [qR 0 0, qI x] (hK h (oC pi buf cnt sn len rd) w 10) "java/lang/IndexOutOfBoundsException" := by
  refine ct_of (by decide +kernel) rfl rfl (Nat.le_of_ble_eq_true rfl) ?_
  show Ev mX2_requireSite 6 0 [some (qR 0 0), some (qI x)] [] 124 (hK h (oC pi buf cnt sn len rd) w 10) 1 6 _ _
  refine e_iload1 dX2_requireSite_0 ?_
  refine e_if_lt 9 dX2_requireSite_1 (by decide) (fun _ => ?_) (fun q0 => ?_)
  · refine e_throwW thX2_requireSite_9 dX2_requireSite_9 dX2_requireSite_12 dX2_requireSite_13 dX2_requireSite_16 dX2_requireSite_19 (q_noh rfl) (by decide) (by decide) (by decide) (by decide) ?_
    exact ⟨rfl, rfl, rfl⟩
  · refine e_iload1 dX2_requireSite_4 ?_
    refine e_iconst (z := 5) dX2_requireSite_5 ?_
    refine e_icmp_lt 20 dX2_requireSite_6 (by decide) (fun q => absurd q ((i_out hx).resolve_left q0)) (fun _ => ?_)
    refine e_throwW thX2_requireSite_9 dX2_requireSite_9 dX2_requireSite_12 dX2_requireSite_13 dX2_requireSite_16 dX2_requireSite_19 (q_noh rfl) (by decide) (by decide) (by decide) (by decide) ?_
    exact ⟨rfl, rfl, rfl⟩
set_option maxRecDepth 20000 in
set_option maxHeartbeats 4000000 in
theorem v_requireTransfer (h : qB) (pi : Nat → Option qK) (buf : Nat → Int32) (cnt sn len : Int32) (rd : Nat → Int32) (w : Fin 16 → qw) (X : qm) (hR : RelC (w 1) X) (hJ : J X) {k : Nat} (hk : k < X.1 0 0) : CtV mX2_requireTransfer 1 [qR 0 0, qI (nI k)] (hK h (oC pi buf cnt sn len rd) w 10) (fun h2 => h2 = hK h (oC pi buf cnt sn len rd) w 10) := by
  refine ct_of (by decide +kernel) rfl rfl (Nat.le_of_ble_eq_true rfl) ?_
  show Ev mX2_requireTransfer 1 0 [some (qR 0 0), some (qI (nI k))] [] 124 (hK h (oC pi buf cnt sn len rd) w 10) 0 0 _ _
  refine e_aload0 dX2_requireTransfer_0 ?_
  refine e_get0 flX2_10 dX2_requireTransfer_1 rfl rfl ?_
  refine e_iload1 dX2_requireTransfer_4 ?_
  refine e_vI (M' := mX1_knows) fX1_knows lkX2_313 (ctI_K (b := 1) (by decide) (by decide) (w_knows (hK h (oC pi buf cnt sn len rd) w 10) 1 (w 1) X hR hJ.1 (nI k))) rfl rfl dX2_requireTransfer_5 (by rw [hK_at (by decide) (by decide)]; rfl) rfl (by decide) (Nat.le_of_ble_eq_true rfl) rfl ?_
  rintro _ _ ⟨rfl, rfl⟩
  rw [hK_self (by decide) (by decide)]
  rw [i_in_nI hk (by have := iV1 hJ.1; have := iV2 hJ.1; omega)]
  refine e_if_neN 22 dX2_requireTransfer_8 (by decide) (by decide) (fun _ => ?_) (fun q => absurd q (by decide))
  refine e_vret dX2_requireTransfer_22 rfl ?_
  exact ⟨rfl, rfl, rfl⟩
set_option maxRecDepth 20000 in
set_option maxHeartbeats 4000000 in
theorem t_requireTransfer (h : qB) (pi : Nat → Option qK) (buf : Nat → Int32) (cnt sn len : Int32) (rd : Nat → Int32) (w : Fin 16 → qw) (X : qm) (hR : RelC (w 1) X) (hJ : J X) {x : Int32} (hx : i_in x (X.1 0 0) = false) : CtT mX2_requireTransfer 6 [qR 0 0, qI x] (hK h (oC pi buf cnt sn len rd) w 10) "java/lang/IndexOutOfBoundsException" := by
  refine ct_of (by decide +kernel) rfl rfl (Nat.le_of_ble_eq_true rfl) ?_
  show Ev mX2_requireTransfer 6 0 [some (qR 0 0), some (qI x)] [] 124 (hK h (oC pi buf cnt sn len rd) w 10) 1 6 _ _
  refine e_aload0 dX2_requireTransfer_0 ?_
  refine e_get0 flX2_10 dX2_requireTransfer_1 rfl rfl ?_
  refine e_iload1 dX2_requireTransfer_4 ?_
  refine e_vI (M' := mX1_knows) fX1_knows lkX2_313 (ctI_K (b := 1) (by decide) (by decide) (w_knows (hK h (oC pi buf cnt sn len rd) w 10) 1 (w 1) X hR hJ.1 x)) rfl rfl dX2_requireTransfer_5 (by rw [hK_at (by decide) (by decide)]; rfl) rfl (by decide) (Nat.le_of_ble_eq_true rfl) rfl ?_
  rintro _ _ ⟨rfl, rfl⟩
  rw [hK_self (by decide) (by decide)]
  rw [hx]
  refine e_if_neN 22 dX2_requireTransfer_8 (by decide) (by decide) (fun q => absurd q (by decide)) (fun _ => ?_)
  refine e_throwW thX2_requireTransfer_11 dX2_requireTransfer_11 dX2_requireTransfer_14 dX2_requireTransfer_15 dX2_requireTransfer_18 dX2_requireTransfer_21 (q_noh rfl) (by decide) (by decide) (by decide) (by decide) ?_
  exact ⟨rfl, rfl, rfl⟩
set_option maxRecDepth 20000 in
set_option maxHeartbeats 4000000 in
theorem v_requireMessage (h : qB) (pi : Nat → Option qK) (buf : Nat → Int32) (cnt sn len : Int32) (rd : Nat → Int32) (w : Fin 16 → qw) (X : qm) (hR : RelC (w 1) X) (hJ : J X) {k : Nat} (hk : k < X.1 0 4) : CtV mX2_requireMessage 1 [qR 0 0, qI (nI k)] (hK h (oC pi buf cnt sn len rd) w 10) (fun h2 => h2 = hK h (oC pi buf cnt sn len rd) w 10) := by
  refine ct_of (by decide +kernel) rfl rfl (Nat.le_of_ble_eq_true rfl) ?_
  show Ev mX2_requireMessage 1 0 [some (qR 0 0), some (qI (nI k))] [] 124 (hK h (oC pi buf cnt sn len rd) w 10) 0 0 _ _
  refine e_aload0 dX2_requireMessage_0 ?_
  refine e_get0 flX2_10 dX2_requireMessage_1 rfl rfl ?_
  refine e_iload1 dX2_requireMessage_4 ?_
  refine e_vI (M' := mX1_hasMessage) fX1_hasMessage lkX2_318 (ctI_K (b := 1) (by decide) (by decide) (w_hasMessage (hK h (oC pi buf cnt sn len rd) w 10) 1 (w 1) X hR hJ.1 (nI k))) rfl rfl dX2_requireMessage_5 (by rw [hK_at (by decide) (by decide)]; rfl) rfl (by decide) (Nat.le_of_ble_eq_true rfl) rfl ?_
  rintro _ _ ⟨rfl, rfl⟩
  rw [hK_self (by decide) (by decide)]
  rw [i_in_nI hk (by have := iV1 hJ.1; have := iV2 hJ.1; omega)]
  refine e_if_neN 22 dX2_requireMessage_8 (by decide) (by decide) (fun _ => ?_) (fun q => absurd q (by decide))
  refine e_vret dX2_requireMessage_22 rfl ?_
  exact ⟨rfl, rfl, rfl⟩
set_option maxRecDepth 20000 in
set_option maxHeartbeats 4000000 in
theorem t_requireMessage (h : qB) (pi : Nat → Option qK) (buf : Nat → Int32) (cnt sn len : Int32) (rd : Nat → Int32) (w : Fin 16 → qw) (X : qm) (hR : RelC (w 1) X) (hJ : J X) {x : Int32} (hx : i_in x (X.1 0 4) = false) : CtT mX2_requireMessage 6 [qR 0 0, qI x] (hK h (oC pi buf cnt sn len rd) w 10) "java/lang/IndexOutOfBoundsException" := by
  refine ct_of (by decide +kernel) rfl rfl (Nat.le_of_ble_eq_true rfl) ?_
  show Ev mX2_requireMessage 6 0 [some (qR 0 0), some (qI x)] [] 124 (hK h (oC pi buf cnt sn len rd) w 10) 1 6 _ _
  refine e_aload0 dX2_requireMessage_0 ?_
  refine e_get0 flX2_10 dX2_requireMessage_1 rfl rfl ?_
  refine e_iload1 dX2_requireMessage_4 ?_
  refine e_vI (M' := mX1_hasMessage) fX1_hasMessage lkX2_318 (ctI_K (b := 1) (by decide) (by decide) (w_hasMessage (hK h (oC pi buf cnt sn len rd) w 10) 1 (w 1) X hR hJ.1 x)) rfl rfl dX2_requireMessage_5 (by rw [hK_at (by decide) (by decide)]; rfl) rfl (by decide) (Nat.le_of_ble_eq_true rfl) rfl ?_
  rintro _ _ ⟨rfl, rfl⟩
  rw [hK_self (by decide) (by decide)]
  rw [hx]
  refine e_if_neN 22 dX2_requireMessage_8 (by decide) (by decide) (fun q => absurd q (by decide)) (fun _ => ?_)
  refine e_throwW thX2_requireMessage_11 dX2_requireMessage_11 dX2_requireMessage_14 dX2_requireMessage_15 dX2_requireMessage_18 dX2_requireMessage_21 (q_noh rfl) (by decide) (by decide) (by decide) (by decide) ?_
  exact ⟨rfl, rfl, rfl⟩
set_option maxRecDepth 20000 in
set_option maxHeartbeats 4000000 in
theorem v_requireNotBelowZero (h : qB) (pi : Nat → Option qK) (buf : Nat → Int32) (cnt sn len : Int32) (rd : Nat → Int32) (w : Fin 16 → qw) {x : Int32} (hx : 0 ≤ x) : CtV mX2_requireNotBelowZero 0 [qR 0 0, qI x] (hK h (oC pi buf cnt sn len rd) w 10) (fun h2 => h2 = hK h (oC pi buf cnt sn len rd) w 10) := by
  refine ct_of (by decide +kernel) rfl rfl (Nat.le_of_ble_eq_true rfl) ?_
  show Ev mX2_requireNotBelowZero 0 0 [some (qR 0 0), some (qI x)] [] 124 (hK h (oC pi buf cnt sn len rd) w 10) 0 0 _ _
  refine e_iload1 dX2_requireNotBelowZero_0 ?_
  refine e_if_ge 15 dX2_requireNotBelowZero_1 (by decide) (fun _ => ?_) (fun q => absurd hx q)
  refine e_vret dX2_requireNotBelowZero_15 rfl ?_
  exact ⟨rfl, rfl, rfl⟩
set_option maxRecDepth 20000 in
set_option maxHeartbeats 4000000 in
theorem t_requireNotBelowZero (h : qB) (pi : Nat → Option qK) (buf : Nat → Int32) (cnt sn len : Int32) (rd : Nat → Int32) (w : Fin 16 → qw) {x : Int32} (hx : ¬ 0 ≤ x) : CtT mX2_requireNotBelowZero 6 [qR 0 0, qI x] (hK h (oC pi buf cnt sn len rd) w 10) "java/lang/IndexOutOfBoundsException" := by
  refine ct_of (by decide +kernel) rfl rfl (Nat.le_of_ble_eq_true rfl) ?_
  show Ev mX2_requireNotBelowZero 6 0 [some (qR 0 0), some (qI x)] [] 124 (hK h (oC pi buf cnt sn len rd) w 10) 1 6 _ _
  refine e_iload1 dX2_requireNotBelowZero_0 ?_
  refine e_if_ge 15 dX2_requireNotBelowZero_1 (by decide) (fun q => absurd q hx) (fun _ => ?_)
  refine e_throwW thX2_requireNotBelowZero_4 dX2_requireNotBelowZero_4 dX2_requireNotBelowZero_7 dX2_requireNotBelowZero_8 dX2_requireNotBelowZero_11 dX2_requireNotBelowZero_14 (q_noh rfl) (by decide) (by decide) (by decide) (by decide) ?_
  exact ⟨rfl, rfl, rfl⟩
def i_to (f : Nat) (x : Int32) : Bool := decide (¬ x < nI 1 ∧ ¬ nI 15 < x ∧ ¬ (x >>> (nI f &&& 31)) &&& nI 1 = nI 1)
theorem i_to_of {f : Nat} (hf : f < 4) {x : Int32} (h : i_to f x = true) : ∃ to, 1 ≤ to ∧ to < 16 ∧ to / 2 ^ f % 2 = 0 ∧ x = nI to := by
  simp only [i_to, decide_eq_true_eq] at h
  obtain ⟨h1, h2, h3⟩ := h
  have h0 : ¬ x < 0 := fun c => h1 (Int32.lt_trans c (by decide))
  obtain ⟨j, hj, rfl⟩ := nI_of h0
  have a : ¬ j < 1 := fun c => h1 ((nI_ltI hj (by decide)).mpr c)
  have b : ¬ 15 < j := fun c => h2 ((nI_ltI (by decide) hj).mpr c)
  rw [b_msk _ (by omega) _ hf] at h3
  refine ⟨j, by omega, by omega, ?_, rfl⟩
  have c : j / 2 ^ f % 2 < 2 := Nat.mod_lt _ (by decide)
  rcases (show j / 2 ^ f % 2 = 0 ∨ j / 2 ^ f % 2 = 1 by omega) with q | q
  · exact q
  · exact absurd (by rw [q]) h3
theorem i_to_nI {f to : Nat} (hf : f < 4) (h1 : 1 ≤ to) (h2 : to < 16) (h3 : to / 2 ^ f % 2 = 0) : i_to f (nI to) = true := by
  simp only [i_to, decide_eq_true_eq]
  refine ⟨fun c => ?_, fun c => ?_, fun c => ?_⟩
  · have := (nI_ltI (by omega) (by decide)).mp c; omega
  · have := (nI_ltI (by decide) (by omega)).mp c; omega
  · rw [b_msk _ h2 _ hf, h3] at c; exact absurd c (by decide)
set_option maxRecDepth 20000 in
set_option maxHeartbeats 4000000 in
theorem v_requireTakers (h : qB) (pi : Nat → Option qK) (buf : Nat → Int32) (cnt sn len : Int32) (rd : Nat → Int32) (w : Fin 16 → qw) {f to : Nat} (hf : f < 4) (h1 : 1 ≤ to) (h2 : to < 16) (h3 : to / 2 ^ f % 2 = 0) : CtV mX2_requireTakers 0 [qR 0 0, qI (nI f), qI (nI to)] (hK h (oC pi buf cnt sn len rd) w 10) (fun h2 => h2 = hK h (oC pi buf cnt sn len rd) w 10) := by
  refine ct_of (by decide +kernel) rfl rfl (Nat.le_of_ble_eq_true rfl) ?_
  show Ev mX2_requireTakers 0 0 [some (qR 0 0), some (qI (nI f)), some (qI (nI to))] [] 124 (hK h (oC pi buf cnt sn len rd) w 10) 0 0 _ _
  refine e_iload2 dX2_requireTakers_0 ?_
  refine e_iconst (z := 1) dX2_requireTakers_1 ?_
  first | refine e_icmp_ltN 20 dX2_requireTakers_2 (by decide) (by omega) (by omega) (fun hc2 => ?_) (fun hc2 => ?_) | refine e_icmp_lt 20 dX2_requireTakers_2 (by decide) (fun hc2 => ?_) (fun hc2 => ?_)
  · exfalso; omega
  · refine e_iload2 dX2_requireTakers_5 ?_
    refine e_bipush (v := nI 15) dX2_requireTakers_6 (by decide) ?_
    first | refine e_icmp_gtN 20 dX2_requireTakers_8 (by decide) (by omega) (by omega) (fun hc8 => ?_) (fun hc8 => ?_) | refine e_icmp_gt 20 dX2_requireTakers_8 (by decide) (fun hc8 => ?_) (fun hc8 => ?_)
    · exfalso; omega
    · refine e_iload2 dX2_requireTakers_11 ?_
      refine e_iload1 dX2_requireTakers_12 ?_
      refine e_ishr dX2_requireTakers_13 ?_
      refine e_iconst (z := 1) dX2_requireTakers_14 ?_
      refine e_iand dX2_requireTakers_15 ?_
      rw [b_msk _ h2 _ hf, h3]
      refine e_iconst (z := 1) dX2_requireTakers_16 ?_
      first | refine e_icmp_neN 31 dX2_requireTakers_17 (by decide) (by omega) (by omega) (fun hc17 => ?_) (fun hc17 => ?_) | refine e_icmp_ne 31 dX2_requireTakers_17 (by decide) (fun hc17 => ?_) (fun hc17 => ?_)
      · refine e_vret dX2_requireTakers_31 rfl ?_
        exact ⟨rfl, rfl, rfl⟩
      · exfalso; omega
set_option maxRecDepth 20000 in
set_option maxHeartbeats 4000000 in
theorem t_requireTakers (h : qB) (pi : Nat → Option qK) (buf : Nat → Int32) (cnt sn len : Int32) (rd : Nat → Int32) (w : Fin 16 → qw) {f : Nat} {x : Int32} (hx : i_to f x = false) : CtT mX2_requireTakers 6 [qR 0 0, qI (nI f), qI x] (hK h (oC pi buf cnt sn len rd) w 10) "java/lang/IllegalArgumentException" := by
  refine ct_of (by decide +kernel) rfl rfl (Nat.le_of_ble_eq_true rfl) ?_
  show Ev mX2_requireTakers 6 0 [some (qR 0 0), some (qI (nI f)), some (qI x)] [] 124 (hK h (oC pi buf cnt sn len rd) w 10) 1 6 _ _
  refine e_iload2 dX2_requireTakers_0 ?_
  refine e_iconst (z := 1) dX2_requireTakers_1 ?_
  refine e_icmp_lt 20 dX2_requireTakers_2 (by decide) (fun _ => ?_) (fun q1 => ?_)
  · refine e_throwW thX2_requireTakers_20 dX2_requireTakers_20 dX2_requireTakers_23 dX2_requireTakers_24 dX2_requireTakers_27 dX2_requireTakers_30 (q_noh rfl) (by decide) (by decide) (by decide) (by decide) ?_
    exact ⟨rfl, rfl, rfl⟩
  · refine e_iload2 dX2_requireTakers_5 ?_
    refine e_bipush (v := nI 15) dX2_requireTakers_6 (by decide) ?_
    refine e_icmp_gt 20 dX2_requireTakers_8 (by decide) (fun _ => ?_) (fun q2 => ?_)
    · refine e_throwW thX2_requireTakers_20 dX2_requireTakers_20 dX2_requireTakers_23 dX2_requireTakers_24 dX2_requireTakers_27 dX2_requireTakers_30 (q_noh rfl) (by decide) (by decide) (by decide) (by decide) ?_
      exact ⟨rfl, rfl, rfl⟩
    · refine e_iload2 dX2_requireTakers_11 ?_
      refine e_iload1 dX2_requireTakers_12 ?_
      refine e_ishr dX2_requireTakers_13 ?_
      refine e_iconst (z := 1) dX2_requireTakers_14 ?_
      refine e_iand dX2_requireTakers_15 ?_
      refine e_iconst (z := 1) dX2_requireTakers_16 ?_
      refine e_icmp_ne 31 dX2_requireTakers_17 (by decide) (fun q3 => by simp only [i_to, decide_eq_false_iff_not] at hx; exact absurd ⟨q1, q2, q3⟩ hx) (fun _ => ?_)
      refine e_throwW thX2_requireTakers_20 dX2_requireTakers_20 dX2_requireTakers_23 dX2_requireTakers_24 dX2_requireTakers_27 dX2_requireTakers_30 (q_noh rfl) (by decide) (by decide) (by decide) (by decide) ?_
      exact ⟨rfl, rfl, rfl⟩
