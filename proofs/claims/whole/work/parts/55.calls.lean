/-! THE CLASS'S CALLS, told by A -/
def Cl (M : qM) (as : List qV) (h : qB) (o : List qE) (w : Fin 16 → qw) (code : Nat) (v : Int32) (A2 : qA) (Es : List String) : Prop :=
  (code = 0 ∧ ∃ d', d' ≤ 7 ∧ CtI M d' (qR 0 0 :: as) (hK h o w 10) (fun r h2 => r = v ∧ ∃ o' w', h2 = hK h o' w' 10 ∧ RA A2 o' w')) ∨
  (∃ j E, code = j + 1 ∧ Es[j]? = some E ∧ Ct M 7 1 6 (qR 0 0 :: as) 132 (hK h o w 10) (fun _ _ _ => False) (fun E' n h2 => E' = E ∧ n = 132 ∧ ∃ o' w', h2 = hK h o' w' 10 ∧ RA A2 o' w'))
theorem cl_err {M : qM} {as : List qV} {h : qB} {o : List qE} {w : Fin 16 → qw} {v : Int32} {A : qA} {Es : List String} (j : Nat) {E : String} (hj : Es[j]? = some E) (hA : RA A o w) (hc : CtT M 7 (qR 0 0 :: as) (hK h o w 10) E) : Cl M as h o w (j + 1) v A Es :=
  Or.inr ⟨j, E, rfl, hj, hc.imp (fun _ _ _ q => q) (fun E' n h2 q => ⟨q.1, q.2.1, o, w, q.2.2, hA⟩)⟩
theorem cl_ok {M : qM} {as : List qV} {h : qB} {o : List qE} {w : Fin 16 → qw} {v : Int32} {A2 : qA} {Es : List String} {d' : Nat} {Q : Int32 → qB → Prop} (hd : d' ≤ 7) (hc : CtI M d' (qR 0 0 :: as) (hK h o w 10) Q) (hQ : ∀ r h2, Q r h2 → r = v ∧ ∃ o' w', h2 = hK h o' w' 10 ∧ RA A2 o' w') : Cl M as h o w 0 v A2 Es :=
  Or.inl ⟨rfl, d', hd, hc.imp (fun r n h2 q => by obtain ⟨x, e1, e2, e3⟩ := q; exact ⟨x, e1, e2, hQ _ _ e3⟩) (fun _ _ _ q => q)⟩
theorem cl_look {M : qM} {as : List qV} {h : qB} {o : List qE} {w : Fin 16 → qw} {v : Int32} {A : qA} {Es : List String} {d' : Nat} (hA : RA A o w) (hd : d' ≤ 7) (hc : CtI M d' (qR 0 0 :: as) (hK h o w 10) (fun r h2 => r = v ∧ h2 = hK h o w 10)) : Cl M as h o w 0 v A Es :=
  cl_ok hd hc fun r h2 q => ⟨q.1, o, w, q.2, hA⟩
theorem ra_uw {A : qA} {o : List qE} {w : Fin 16 → qw} (hA : RA A o w) (hC : aC A ≤ 6) {b : Fin 16} (h3 : 3 ≤ b.val) (h4 : b.val ≤ 4) (x : qw) : RA A o (uw w b x) := by
  obtain ⟨pi, buf, rd, e, hR, hRL, hY, hb⟩ := hA
  have n1 : (1 : Fin 16) ≠ b := by intro q; rw [← q] at h3; exact absurd h3 (by decide)
  have n2 : (2 : Fin 16) ≠ b := by intro q; rw [← q] at h3; exact absurd h3 (by decide)
  exact ⟨pi, buf, rd, e, by rw [uw_ne w x n1]; exact hR, relL_uw h4 hRL hC, fun q => by rw [uw_ne w x n2]; exact hY q, hb⟩
theorem cl_mv {M : qM} {as : List qV} {h : qB} {v : Int32} {A : qA} {Es : List String} {d' : Nat} {X' : qm} {pi : Nat → Option qK} {buf rd : Nat → Int32} {w : Fin 16 → qw} (hY : aN A = 1 → RelC (w 2) (aY A)) (hb : ∀ i, i < aL A → buf i = nI (aT A i)) (hd : d' ≤ 7)
    (hc : CtI M d' (qR 0 0 :: as) (hK h (oC pi buf (nI (aC A)) (nI (aN A)) (nI (aL A)) rd) w 10) (fun r h2 => r = v ∧ ∃ pi' w', h2 = hK h (oC pi' buf (nI (m_svC (aC A))) (nI (aN A)) (nI (aL A)) rd) w' 10 ∧ RelC (w' 1) X' ∧ (∀ b : Fin 16, b.val ≤ 4 → b ≠ 1 → w' b = w b) ∧ RelL pi' w' (m_svC (aC A)) (m_sv (aC A) (aS A) (aX A)))) :
    Cl M as h (oC pi buf (nI (aC A)) (nI (aN A)) (nI (aL A)) rd) w 0 v (a_mv A X') Es :=
  cl_ok hd hc fun r h2 q => by
    obtain ⟨q1, pi', w', q2, q3, q4, q5⟩ := q
    exact ⟨q1, _, w', q2, pi', buf, rd, rfl, q3, q5, fun q => by rw [q4 2 (by decide) (by decide)]; exact hY q, hb⟩
theorem z50 {z : Int32} {k : Int32} {p : Prop} (h : ¬ (p ∧ ¬ k < z)) : ¬ (p ∧ z ≤ k) := fun q => h ⟨q.1, Int32.not_lt.mpr q.2⟩
set_option maxRecDepth 20000 in
set_option maxHeartbeats 4000000 in
theorem t0_greatestSize (h : qB) (pi : Nat → Option qK) (buf : Nat → Int32) (cnt sn len : Int32) (rd : Nat → Int32) (w : Fin 16 → qw) (X : qm) (hR : RelC (w 1) X) (hJ : J X) {x y : Int32} (hx : i_in x 4 = false) : CtT mX2_greatestSize 7 [qR 0 0, qI x, qI y] (hK h (oC pi buf cnt sn len rd) w 10) "java/lang/IndexOutOfBoundsException" := by
  refine ct_of (by decide +kernel) rfl rfl (Nat.le_of_ble_eq_true rfl) ?_
  show Ev mX2_greatestSize 7 0 [some (qR 0 0), some (qI x), some (qI y), none] [] 132 (hK h (oC pi buf cnt sn len rd) w 10) 1 6 _ _
  refine e_aload0 dX2_greatestSize_0 ?_
  refine e_iload1 dX2_greatestSize_1 ?_
  exact e_vT (M' := mX2_requireStore) fX2_requireStore lkX2_51 (t_requireStore h pi buf cnt sn len rd w hx) rfl rfl dX2_greatestSize_2 (by rw [hK_0]; rfl) rfl (by decide) (Nat.le_of_ble_eq_true rfl) (by decide) (by decide) rfl ⟨rfl, rfl, rfl⟩
set_option maxRecDepth 20000 in
set_option maxHeartbeats 4000000 in
theorem t1_greatestSize (h : qB) (pi : Nat → Option qK) (buf : Nat → Int32) (cnt sn len : Int32) (rd : Nat → Int32) (w : Fin 16 → qw) (X : qm) (hR : RelC (w 1) X) (hJ : J X) {f : Nat} (hf : f < 4) {x : Int32} (hx : i_to f x = false) : CtT mX2_greatestSize 7 [qR 0 0, qI (nI f), qI x] (hK h (oC pi buf cnt sn len rd) w 10) "java/lang/IllegalArgumentException" := by
  refine ct_of (by decide +kernel) rfl rfl (Nat.le_of_ble_eq_true rfl) ?_
  show Ev mX2_greatestSize 7 0 [some (qR 0 0), some (qI (nI f)), some (qI x), none] [] 132 (hK h (oC pi buf cnt sn len rd) w 10) 1 6 _ _
  refine e_aload0 dX2_greatestSize_0 ?_
  refine e_iload1 dX2_greatestSize_1 ?_
  refine e_vV (M' := mX2_requireStore) fX2_requireStore lkX2_51 (v_requireStore h pi buf cnt sn len rd w (k := f) hf) rfl rfl dX2_greatestSize_2 (by rw [hK_0]; rfl) rfl (by decide) (Nat.le_of_ble_eq_true rfl) rfl ?_
  rintro _ rfl
  refine e_aload0 dX2_greatestSize_5 ?_
  refine e_iload1 dX2_greatestSize_6 ?_
  refine e_iload2 dX2_greatestSize_7 ?_
  exact e_vT (M' := mX2_requireTakers) fX2_requireTakers lkX2_55 (t_requireTakers h pi buf cnt sn len rd w hx) rfl rfl dX2_greatestSize_8 (by rw [hK_0]; rfl) rfl (by decide) (Nat.le_of_ble_eq_true rfl) (by decide) (by decide) rfl ⟨rfl, rfl, rfl⟩
set_option maxRecDepth 20000 in
set_option maxHeartbeats 4000000 in
theorem k_begin (h : qB) {n : Nat} {A : qA} (hG : GA n A) {o : List qE} {w : Fin 16 → qw} (hA : RA A o w) {x y z : Int32} {code : Nat} {v : Int32} {A2 : qA} (hS : S_begin A x y z code v A2) : Cl mX2_begin [qI x, qI y, qI z] h o w code v A2 ["java/lang/IndexOutOfBoundsException", "java/lang/IllegalArgumentException", "java/lang/IllegalStateException"] := by
  obtain ⟨⟨hJ, hBd⟩, hC, hGS, hN, hGY, hL, hT⟩ := hG
  have hA0 := hA
  obtain ⟨pi, buf, rd, rfl, hR, hRL, hY, hb⟩ := hA
  rcases hS with ⟨c0, rfl, rfl⟩ | ⟨f, c0, rfl, c2, rfl, rfl⟩ | ⟨f, to, c0, rfl, c2, c3, c4, rfl, c6, rfl, rfl⟩ | ⟨f, to, sz, c0, rfl, c2, c3, c4, rfl, c6, c7, rfl, c9, rfl, rfl⟩ | ⟨f, to, sz, c0, rfl, c2, c3, c4, rfl, c6, c7, rfl, c9, rfl, rfl, rfl⟩
  · exact cl_err 0 rfl hA0 (t0_begin h pi buf (nI (aC A)) (nI (aN A)) (nI (aL A)) rd w (aX A) hR hJ c0)
  · exact cl_err 1 rfl hA0 (t1_begin h pi buf (nI (aC A)) (nI (aN A)) (nI (aL A)) rd w (aX A) hR hJ c0 c2)
  · exact cl_err 1 rfl hA0 (t2_begin h pi buf (nI (aC A)) (nI (aN A)) (nI (aL A)) rd w (aX A) hR hJ c0 c2 c3 c4 (z50 c6))
  · exact cl_err 2 rfl hA0 (t3_begin h pi buf (nI (aC A)) (nI (aN A)) (nI (aL A)) rd w (aX A) hR hJ c0 c2 c3 c4 c6 c7 c9)
  · exact cl_mv hY hb (by decide) (v_begin h pi buf (aC A) (nI (aN A)) (nI (aL A)) rd w (aX A) hR hJ (aS A) hC hRL c0 c2 c3 c4 c6 c7 c9)
set_option maxRecDepth 20000 in
set_option maxHeartbeats 4000000 in
theorem k_giveUp (h : qB) {n : Nat} {A : qA} (hG : GA n A) {o : List qE} {w : Fin 16 → qw} (hA : RA A o w) {x : Int32} {code : Nat} {v : Int32} {A2 : qA} (hS : S_giveUp A x code v A2) : Cl mX2_giveUp [qI x] h o w code v A2 ["java/lang/IndexOutOfBoundsException", "java/lang/IllegalStateException"] := by
  obtain ⟨⟨hJ, hBd⟩, hC, hGS, hN, hGY, hL, hT⟩ := hG
  have hA0 := hA
  obtain ⟨pi, buf, rd, rfl, hR, hRL, hY, hb⟩ := hA
  rcases hS with ⟨c0, rfl, rfl⟩ | ⟨t, c0, rfl, c2, rfl, rfl⟩ | ⟨t, c0, rfl, c2, rfl, rfl, rfl⟩
  · exact cl_err 0 rfl hA0 (t0_giveUp h pi buf (nI (aC A)) (nI (aN A)) (nI (aL A)) rd w (aX A) hR hJ c0)
  · exact cl_err 1 rfl hA0 (t1_giveUp h pi buf (nI (aC A)) (nI (aN A)) (nI (aL A)) rd w (aX A) hR hJ c0 c2)
  · exact cl_mv hY hb (by decide) (v_giveUp h pi buf (aC A) (nI (aN A)) (nI (aL A)) rd w (aX A) hR hJ (aS A) hC hRL c0 c2)
set_option maxRecDepth 20000 in
set_option maxHeartbeats 4000000 in
theorem k_ask (h : qB) {n : Nat} {A : qA} (hG : GA n A) {o : List qE} {w : Fin 16 → qw} (hA : RA A o w) {x y : Int32} {code : Nat} {v : Int32} {A2 : qA} (hS : S_ask A x y code v A2) : Cl mX2_ask [qI x, qI y] h o w code v A2 ["java/lang/IndexOutOfBoundsException", "java/lang/IllegalStateException"] := by
  obtain ⟨⟨hJ, hBd⟩, hC, hGS, hN, hGY, hL, hT⟩ := hG
  have hA0 := hA
  obtain ⟨pi, buf, rd, rfl, hR, hRL, hY, hb⟩ := hA
  rcases hS with ⟨c0, rfl, rfl⟩ | ⟨s, c0, rfl, c2, rfl, rfl⟩ | ⟨s, t, c0, rfl, c2, rfl, c4, rfl, rfl⟩ | ⟨s, t, c0, rfl, c2, rfl, c4, rfl, rfl, rfl⟩
  · exact cl_err 0 rfl hA0 (t0_ask h pi buf (nI (aC A)) (nI (aN A)) (nI (aL A)) rd w (aX A) hR hJ c0)
  · exact cl_err 0 rfl hA0 (t1_ask h pi buf (nI (aC A)) (nI (aN A)) (nI (aL A)) rd w (aX A) hR hJ c0 c2)
  · exact cl_err 1 rfl hA0 (t2_ask h pi buf (nI (aC A)) (nI (aN A)) (nI (aL A)) rd w (aX A) hR hJ c0 c2 c4)
  · exact cl_mv hY hb (by decide) (v_ask h pi buf (aC A) (nI (aN A)) (nI (aL A)) rd w (aX A) hR hJ (aS A) hC hRL c0 c2 c4)
set_option maxRecDepth 20000 in
set_option maxHeartbeats 4000000 in
theorem k_deliver (h : qB) {n : Nat} {A : qA} (hG : GA n A) {o : List qE} {w : Fin 16 → qw} (hA : RA A o w) {x : Int32} {code : Nat} {v : Int32} {A2 : qA} (hS : S_deliver A x code v A2) : Cl mX2_deliver [qI x] h o w code v A2 ["java/lang/IndexOutOfBoundsException"] := by
  obtain ⟨⟨hJ, hBd⟩, hC, hGS, hN, hGY, hL, hT⟩ := hG
  have hA0 := hA
  obtain ⟨pi, buf, rd, rfl, hR, hRL, hY, hb⟩ := hA
  rcases hS with ⟨c0, rfl, rfl⟩ | ⟨p, c0, rfl, rfl, rfl, rfl⟩
  · exact cl_err 0 rfl hA0 (t0_deliver h pi buf (nI (aC A)) (nI (aN A)) (nI (aL A)) rd w (aX A) hR hJ c0)
  · exact cl_mv hY hb (by decide) (v_deliver h pi buf (aC A) (nI (aN A)) (nI (aL A)) rd w (aX A) hR hJ (aS A) hC hRL c0)
set_option maxRecDepth 20000 in
set_option maxHeartbeats 4000000 in
theorem k_lose (h : qB) {n : Nat} {A : qA} (hG : GA n A) {o : List qE} {w : Fin 16 → qw} (hA : RA A o w) {x : Int32} {code : Nat} {v : Int32} {A2 : qA} (hS : S_lose A x code v A2) : Cl mX2_lose [qI x] h o w code v A2 ["java/lang/IndexOutOfBoundsException"] := by
  obtain ⟨⟨hJ, hBd⟩, hC, hGS, hN, hGY, hL, hT⟩ := hG
  have hA0 := hA
  obtain ⟨pi, buf, rd, rfl, hR, hRL, hY, hb⟩ := hA
  rcases hS with ⟨c0, rfl, rfl⟩ | ⟨p, c0, rfl, rfl, rfl, rfl⟩
  · exact cl_err 0 rfl hA0 (t0_lose h pi buf (nI (aC A)) (nI (aN A)) (nI (aL A)) rd w (aX A) hR hJ c0)
  · exact cl_mv hY hb (by decide) (v_lose h pi buf (aC A) (nI (aN A)) (nI (aL A)) rd w (aX A) hR hJ (aS A) hC hRL c0)
set_option maxRecDepth 20000 in
set_option maxHeartbeats 4000000 in
theorem k_crash (h : qB) {n : Nat} {A : qA} (hG : GA n A) {o : List qE} {w : Fin 16 → qw} (hA : RA A o w) {x : Int32} {code : Nat} {v : Int32} {A2 : qA} (hS : S_crash A x code v A2) : Cl mX2_crash [qI x] h o w code v A2 ["java/lang/IndexOutOfBoundsException", "java/lang/IllegalStateException"] := by
  obtain ⟨⟨hJ, hBd⟩, hC, hGS, hN, hGY, hL, hT⟩ := hG
  have hA0 := hA
  obtain ⟨pi, buf, rd, rfl, hR, hRL, hY, hb⟩ := hA
  rcases hS with ⟨c0, rfl, rfl⟩ | ⟨k, c0, rfl, c2, rfl, rfl⟩ | ⟨k, c0, rfl, c2, rfl, rfl, rfl⟩
  · exact cl_err 0 rfl hA0 (t0_crash h pi buf (nI (aC A)) (nI (aN A)) (nI (aL A)) rd w (aX A) hR hJ c0)
  · exact cl_err 1 rfl hA0 (t1_crash h pi buf (nI (aC A)) (nI (aN A)) (nI (aL A)) rd w (aX A) hR hJ c0 c2)
  · exact cl_mv hY hb (by decide) (v_crash h pi buf (aC A) (nI (aN A)) (nI (aL A)) rd w (aX A) hR hJ (aS A) hC hRL c0 c2)
set_option maxRecDepth 20000 in
set_option maxHeartbeats 4000000 in
theorem k_recover (h : qB) {n : Nat} {A : qA} (hG : GA n A) {o : List qE} {w : Fin 16 → qw} (hA : RA A o w) {x : Int32} {code : Nat} {v : Int32} {A2 : qA} (hS : S_recover A x code v A2) : Cl mX2_recover [qI x] h o w code v A2 ["java/lang/IndexOutOfBoundsException", "java/lang/IllegalStateException"] := by
  obtain ⟨⟨hJ, hBd⟩, hC, hGS, hN, hGY, hL, hT⟩ := hG
  have hA0 := hA
  obtain ⟨pi, buf, rd, rfl, hR, hRL, hY, hb⟩ := hA
  rcases hS with ⟨c0, rfl, rfl⟩ | ⟨k, c0, rfl, c2, rfl, rfl⟩ | ⟨k, c0, rfl, c2, rfl, rfl, rfl⟩
  · exact cl_err 0 rfl hA0 (t0_recover h pi buf (nI (aC A)) (nI (aN A)) (nI (aL A)) rd w (aX A) hR hJ c0)
  · exact cl_err 1 rfl hA0 (t1_recover h pi buf (nI (aC A)) (nI (aN A)) (nI (aL A)) rd w (aX A) hR hJ c0 c2)
  · exact cl_mv hY hb (by decide) (v_recover h pi buf (aC A) (nI (aN A)) (nI (aL A)) rd w (aX A) hR hJ (aS A) hC hRL c0 c2)
set_option maxRecDepth 20000 in
set_option maxHeartbeats 4000000 in
theorem k_append (h : qB) {n : Nat} {A : qA} (hG : GA n A) {o : List qE} {w : Fin 16 → qw} (hA : RA A o w) {x : Int32} {code : Nat} {v : Int32} {A2 : qA} (hS : S_append A x code v A2) : Cl mX2_append [qI x] h o w code v A2 ["java/lang/IllegalArgumentException", "java/lang/IllegalStateException"] := by
  obtain ⟨⟨hJ, hBd⟩, hC, hGS, hN, hGY, hL, hT⟩ := hG
  have hA0 := hA
  obtain ⟨pi, buf, rd, rfl, hR, hRL, hY, hb⟩ := hA
  rcases hS with ⟨c0, rfl, rfl⟩ | ⟨k, c0, c1, rfl, c3, rfl, rfl⟩ | ⟨k, c0, c1, rfl, c3, rfl, rfl, rfl⟩
  · exact cl_err 0 rfl hA0 (t0_append h pi buf (nI (aC A)) (nI (aN A)) (aL A) rd w (z50 c0))
  · have hT1 := t1_append h pi buf (nI (aC A)) (nI (aN A)) rd w c0 c1
    rw [← c3] at hT1
    exact cl_err 1 rfl hA0 hT1
  · refine cl_ok (by decide) (v_append h pi buf (nI (aC A)) (nI (aN A)) (aL A) rd w c0 c1 c3) fun r h2 q => ⟨q.1, _, w, q.2, pi, upd buf (aL A) (nI k), rd, rfl, hR, hRL, hY, fun i hi => ?_⟩
    have hi : i < aL A + 1 := hi
    show upd buf (aL A) (nI k) i = nI (if i = aL A then k else aT A i)
    by_cases q : i = aL A
    · rw [q, upd_same, if_pos rfl]
    · rw [upd_ne q, if_neg q]; exact hb i (by omega)
set_option maxRecDepth 20000 in
set_option maxHeartbeats 4000000 in
theorem k_runCourse (h : qB) {n : Nat} {A : qA} (hG : GA n A) {o : List qE} {w : Fin 16 → qw} (hA : RA A o w) {code : Nat} {v : Int32} {A2 : qA} (hS : S_runCourse A code v A2) : Cl mX2_runCourse [] h o w code v A2 ["java/lang/IllegalArgumentException"] := by
  obtain ⟨⟨hJ, hBd⟩, hC, hGS, hN, hGY, hL, hT⟩ := hG
  have hA0 := hA
  obtain ⟨pi, buf, rd, rfl, hR, hRL, hY, hb⟩ := hA
  rcases hS with ⟨c0, rfl, rfl⟩ | ⟨c0, rfl, rfl, rfl⟩
  · refine Or.inr ⟨0, _, rfl, rfl, (t0_runCourse h pi buf (nI (aC A)) (nI (aN A)) rd w hL (fun i hi => ⟨hb i hi, hT i hi⟩) c0).imp (fun _ _ _ q => q) (fun E n h2 q => ?_)⟩
    obtain ⟨q1, q2, rd2, q3⟩ := q
    exact ⟨q1, q2, _, w, q3, pi, buf, rd2, rfl, hR, hRL, hY, hb⟩
  · refine cl_ok (by decide) (v_runCourse h pi buf (aC A) (nI (aN A)) rd w (aX A) hR hJ (aS A) hC hRL hL (fun i hi => ⟨hb i hi, hT i hi⟩) c0) fun r h2 q => ?_
    obtain ⟨q1, pi', w', rd2, q2, q3, q4, q5⟩ := q
    exact ⟨q1, _, w', q2, pi', buf, rd2, rfl, q3, q5, fun q => by rw [q4 2 (by decide) (by decide)]; exact hY q, fun i hi => absurd hi (Nat.not_lt_zero i)⟩
set_option maxRecDepth 20000 in
set_option maxHeartbeats 4000000 in
theorem k_goBack (h : qB) {n : Nat} {A : qA} (hG : GA n A) {o : List qE} {w : Fin 16 → qw} (hA : RA A o w) {code : Nat} {v : Int32} {A2 : qA} (hS : S_goBack A code v A2) : Cl mX2_goBack [] h o w code v A2 ["java/lang/IllegalStateException"] := by
  obtain ⟨⟨hJ, hBd⟩, hC, hGS, hN, hGY, hL, hT⟩ := hG
  have hA0 := hA
  obtain ⟨pi, buf, rd, rfl, hR, hRL, hY, hb⟩ := hA
  rcases hS with ⟨c0, rfl, rfl⟩ | ⟨c0, rfl, rfl, rfl⟩
  · have hT1 := t0_goBack h pi buf (nI (aC A)) (nI (aL A)) rd w
    rw [show nI 0 = nI (aN A) by rw [c0]] at hT1
    exact cl_err 0 rfl hA0 hT1
  · have hT1 := v_goBack h pi buf (aC A) (nI (aL A)) rd w (aX A) hR hJ (aS A) hC hRL (aY A) (hY c0) (hGY c0).1
    rw [show nI 1 = nI (aN A) by rw [c0]] at hT1
    exact cl_mv hY hb (by decide) hT1
set_option maxRecDepth 20000 in
set_option maxHeartbeats 4000000 in
theorem k_undo (h : qB) {n : Nat} {A : qA} (hG : GA n A) {o : List qE} {w : Fin 16 → qw} (hA : RA A o w) {code : Nat} {v : Int32} {A2 : qA} (hS : S_undo A code v A2) : Cl mX2_undo [] h o w code v A2 ["java/lang/IllegalStateException"] := by
  obtain ⟨⟨hJ, hBd⟩, hC, hGS, hN, hGY, hL, hT⟩ := hG
  have hA0 := hA
  obtain ⟨pi, buf, rd, rfl, hR, hRL, hY, hb⟩ := hA
  rcases hS with ⟨c0, rfl, rfl⟩ | ⟨c0, rfl, rfl, rfl⟩
  · have hT1 := t0_undo h pi buf (nI (aN A)) (nI (aL A)) rd w
    rw [show nI 0 = nI (aC A) by rw [c0]] at hT1
    exact cl_err 0 rfl hA0 hT1
  · refine cl_ok (by decide) (v_undo h pi buf (aC A) (nI (aN A)) (nI (aL A)) rd w (aX A) hR hJ (aS A) hC hRL c0) fun r h2 q => ?_
    obtain ⟨q1, w', q2, q3, q4, q5⟩ := q
    exact ⟨q1, _, w', q2, pi, buf, rd, rfl, q3, q5, fun q => by rw [q4 2 (by decide) (by decide)]; exact hY q, hb⟩
set_option maxRecDepth 20000 in
set_option maxHeartbeats 4000000 in
theorem k_partners (h : qB) {n : Nat} {A : qA} (hG : GA n A) {o : List qE} {w : Fin 16 → qw} (hA : RA A o w) {x : Int32} {code : Nat} {v : Int32} {A2 : qA} (hS : S_partners A x code v A2) : Cl mX2_partners [qI x] h o w code v A2 ["java/lang/IndexOutOfBoundsException"] := by
  obtain ⟨⟨hJ, hBd⟩, hC, hGS, hN, hGY, hL, hT⟩ := hG
  have hA0 := hA
  obtain ⟨pi, buf, rd, rfl, hR, hRL, hY, hb⟩ := hA
  rcases hS with ⟨c0, rfl, rfl⟩ | ⟨t, c0, rfl, rfl, rfl, rfl⟩
  · exact cl_err 0 rfl hA0 (t0_partners h pi buf (nI (aC A)) (nI (aN A)) (nI (aL A)) rd w (aX A) hR hJ c0)
  · exact cl_look hA0 (by decide) (v_partners h pi buf (nI (aC A)) (nI (aN A)) (nI (aL A)) rd w (aX A) hR hJ c0)
set_option maxRecDepth 20000 in
set_option maxHeartbeats 4000000 in
theorem k_share (h : qB) {n : Nat} {A : qA} (hG : GA n A) {o : List qE} {w : Fin 16 → qw} (hA : RA A o w) {x y : Int32} {code : Nat} {v : Int32} {A2 : qA} (hS : S_share A x y code v A2) : Cl mX2_share [qI x, qI y] h o w code v A2 ["java/lang/IndexOutOfBoundsException"] := by
  obtain ⟨⟨hJ, hBd⟩, hC, hGS, hN, hGY, hL, hT⟩ := hG
  have hA0 := hA
  obtain ⟨pi, buf, rd, rfl, hR, hRL, hY, hb⟩ := hA
  rcases hS with ⟨c0, rfl, rfl⟩ | ⟨t, c0, rfl, c2, rfl, rfl⟩ | ⟨t, s, c0, rfl, c2, rfl, rfl, rfl, rfl⟩
  · exact cl_err 0 rfl hA0 (t0_share h pi buf (nI (aC A)) (nI (aN A)) (nI (aL A)) rd w (aX A) hR hJ c0)
  · exact cl_err 0 rfl hA0 (t1_share h pi buf (nI (aC A)) (nI (aN A)) (nI (aL A)) rd w (aX A) hR hJ c0 c2)
  · exact cl_look hA0 (by decide) (v_share h pi buf (nI (aC A)) (nI (aN A)) (nI (aL A)) rd w (aX A) hR hJ c0 c2)
set_option maxRecDepth 20000 in
set_option maxHeartbeats 4000000 in
theorem k_isUp (h : qB) {n : Nat} {A : qA} (hG : GA n A) {o : List qE} {w : Fin 16 → qw} (hA : RA A o w) {x : Int32} {code : Nat} {v : Int32} {A2 : qA} (hS : S_isUp A x code v A2) : Cl mX2_isUp [qI x] h o w code v A2 ["java/lang/IndexOutOfBoundsException"] := by
  obtain ⟨⟨hJ, hBd⟩, hC, hGS, hN, hGY, hL, hT⟩ := hG
  have hA0 := hA
  obtain ⟨pi, buf, rd, rfl, hR, hRL, hY, hb⟩ := hA
  rcases hS with ⟨c0, rfl, rfl⟩ | ⟨k, c0, rfl, rfl, rfl, rfl⟩
  · exact cl_err 0 rfl hA0 (t0_isUp h pi buf (nI (aC A)) (nI (aN A)) (nI (aL A)) rd w (aX A) hR hJ c0)
  · exact cl_look hA0 (by decide) (v_isUp h pi buf (nI (aC A)) (nI (aN A)) (nI (aL A)) rd w (aX A) hR hJ c0)
set_option maxRecDepth 20000 in
set_option maxHeartbeats 4000000 in
theorem k_amount (h : qB) {n : Nat} {A : qA} (hG : GA n A) {o : List qE} {w : Fin 16 → qw} (hA : RA A o w) {x : Int32} {code : Nat} {v : Int32} {A2 : qA} (hS : S_amount A x code v A2) : Cl mX2_amount [qI x] h o w code v A2 ["java/lang/IndexOutOfBoundsException"] := by
  obtain ⟨⟨hJ, hBd⟩, hC, hGS, hN, hGY, hL, hT⟩ := hG
  have hA0 := hA
  obtain ⟨pi, buf, rd, rfl, hR, hRL, hY, hb⟩ := hA
  rcases hS with ⟨c0, rfl, rfl⟩ | ⟨s, c0, rfl, rfl, rfl, rfl⟩
  · exact cl_err 0 rfl hA0 (t0_amount h pi buf (nI (aC A)) (nI (aN A)) (nI (aL A)) rd w (aX A) hR hJ c0)
  · exact cl_look hA0 (by decide) (v_amount h pi buf (nI (aC A)) (nI (aN A)) (nI (aL A)) rd w (aX A) hR hJ c0)
set_option maxRecDepth 20000 in
set_option maxHeartbeats 4000000 in
theorem k_amountByLog (h : qB) {n : Nat} {A : qA} (hG : GA n A) {o : List qE} {w : Fin 16 → qw} (hA : RA A o w) {x : Int32} {code : Nat} {v : Int32} {A2 : qA} (hS : S_amountByLog A x code v A2) : Cl mX2_amountByLog [qI x] h o w code v A2 ["java/lang/IndexOutOfBoundsException"] := by
  obtain ⟨⟨hJ, hBd⟩, hC, hGS, hN, hGY, hL, hT⟩ := hG
  have hA0 := hA
  obtain ⟨pi, buf, rd, rfl, hR, hRL, hY, hb⟩ := hA
  rcases hS with ⟨c0, rfl, rfl⟩ | ⟨s, c0, rfl, rfl, rfl, rfl⟩
  · exact cl_err 0 rfl hA0 (t0_amountByLog h pi buf (nI (aC A)) (nI (aN A)) (nI (aL A)) rd w (aX A) hR hJ c0)
  · exact cl_look hA0 (by decide) (v_amountByLog h pi buf (nI (aC A)) (nI (aN A)) (nI (aL A)) rd w (aX A) hR hJ c0)
set_option maxRecDepth 20000 in
set_option maxHeartbeats 4000000 in
theorem k_state (h : qB) {n : Nat} {A : qA} (hG : GA n A) {o : List qE} {w : Fin 16 → qw} (hA : RA A o w) {x y : Int32} {code : Nat} {v : Int32} {A2 : qA} (hS : S_state A x y code v A2) : Cl mX2_state [qI x, qI y] h o w code v A2 ["java/lang/IndexOutOfBoundsException"] := by
  obtain ⟨⟨hJ, hBd⟩, hC, hGS, hN, hGY, hL, hT⟩ := hG
  have hA0 := hA
  obtain ⟨pi, buf, rd, rfl, hR, hRL, hY, hb⟩ := hA
  rcases hS with ⟨c0, rfl, rfl⟩ | ⟨s, c0, rfl, c2, rfl, rfl⟩ | ⟨s, t, c0, rfl, c2, rfl, rfl, rfl, rfl⟩
  · exact cl_err 0 rfl hA0 (t0_state h pi buf (nI (aC A)) (nI (aN A)) (nI (aL A)) rd w (aX A) hR hJ c0)
  · exact cl_err 0 rfl hA0 (t1_state h pi buf (nI (aC A)) (nI (aN A)) (nI (aL A)) rd w (aX A) hR hJ c0 c2)
  · exact cl_look hA0 (by decide) (v_state h pi buf (nI (aC A)) (nI (aN A)) (nI (aL A)) rd w (aX A) hR hJ c0 c2)
set_option maxRecDepth 20000 in
set_option maxHeartbeats 4000000 in
theorem k_stateByLog (h : qB) {n : Nat} {A : qA} (hG : GA n A) {o : List qE} {w : Fin 16 → qw} (hA : RA A o w) {x y : Int32} {code : Nat} {v : Int32} {A2 : qA} (hS : S_stateByLog A x y code v A2) : Cl mX2_stateByLog [qI x, qI y] h o w code v A2 ["java/lang/IndexOutOfBoundsException"] := by
  obtain ⟨⟨hJ, hBd⟩, hC, hGS, hN, hGY, hL, hT⟩ := hG
  have hA0 := hA
  obtain ⟨pi, buf, rd, rfl, hR, hRL, hY, hb⟩ := hA
  rcases hS with ⟨c0, rfl, rfl⟩ | ⟨s, c0, rfl, c2, rfl, rfl⟩ | ⟨s, t, c0, rfl, c2, rfl, rfl, rfl, rfl⟩
  · exact cl_err 0 rfl hA0 (t0_stateByLog h pi buf (nI (aC A)) (nI (aN A)) (nI (aL A)) rd w (aX A) hR hJ c0)
  · exact cl_err 0 rfl hA0 (t1_stateByLog h pi buf (nI (aC A)) (nI (aN A)) (nI (aL A)) rd w (aX A) hR hJ c0 c2)
  · exact cl_look hA0 (by decide) (v_stateByLog h pi buf (nI (aC A)) (nI (aN A)) (nI (aL A)) rd w (aX A) hR hJ c0 c2)
set_option maxRecDepth 20000 in
set_option maxHeartbeats 4000000 in
theorem k_inDoubt (h : qB) {n : Nat} {A : qA} (hG : GA n A) {o : List qE} {w : Fin 16 → qw} (hA : RA A o w) {x : Int32} {code : Nat} {v : Int32} {A2 : qA} (hS : S_inDoubt A x code v A2) : Cl mX2_inDoubt [qI x] h o w code v A2 ["java/lang/IndexOutOfBoundsException"] := by
  obtain ⟨⟨hJ, hBd⟩, hC, hGS, hN, hGY, hL, hT⟩ := hG
  have hA0 := hA
  obtain ⟨pi, buf, rd, rfl, hR, hRL, hY, hb⟩ := hA
  rcases hS with ⟨c0, rfl, rfl⟩ | ⟨s, c0, rfl, rfl, rfl, rfl⟩
  · exact cl_err 0 rfl hA0 (t0_inDoubt h pi buf (nI (aC A)) (nI (aN A)) (nI (aL A)) rd w (aX A) hR hJ c0)
  · exact cl_look hA0 (by decide) (v_inDoubt h pi buf (nI (aC A)) (nI (aN A)) (nI (aL A)) rd w (aX A) hR hJ c0)
set_option maxRecDepth 20000 in
set_option maxHeartbeats 4000000 in
theorem k_outcome (h : qB) {n : Nat} {A : qA} (hG : GA n A) {o : List qE} {w : Fin 16 → qw} (hA : RA A o w) {x : Int32} {code : Nat} {v : Int32} {A2 : qA} (hS : S_outcome A x code v A2) : Cl mX2_outcome [qI x] h o w code v A2 ["java/lang/IndexOutOfBoundsException"] := by
  obtain ⟨⟨hJ, hBd⟩, hC, hGS, hN, hGY, hL, hT⟩ := hG
  have hA0 := hA
  obtain ⟨pi, buf, rd, rfl, hR, hRL, hY, hb⟩ := hA
  rcases hS with ⟨c0, rfl, rfl⟩ | ⟨t, c0, rfl, rfl, rfl, rfl⟩
  · exact cl_err 0 rfl hA0 (t0_outcome h pi buf (nI (aC A)) (nI (aN A)) (nI (aL A)) rd w (aX A) hR hJ c0)
  · exact cl_look hA0 (by decide) (v_outcome h pi buf (nI (aC A)) (nI (aN A)) (nI (aL A)) rd w (aX A) hR hJ c0)
set_option maxRecDepth 20000 in
set_option maxHeartbeats 4000000 in
theorem k_outcomeByStores (h : qB) {n : Nat} {A : qA} (hG : GA n A) {o : List qE} {w : Fin 16 → qw} (hA : RA A o w) {x : Int32} {code : Nat} {v : Int32} {A2 : qA} (hS : S_outcomeByStores A x code v A2) : Cl mX2_outcomeByStores [qI x] h o w code v A2 ["java/lang/IndexOutOfBoundsException"] := by
  obtain ⟨⟨hJ, hBd⟩, hC, hGS, hN, hGY, hL, hT⟩ := hG
  have hA0 := hA
  obtain ⟨pi, buf, rd, rfl, hR, hRL, hY, hb⟩ := hA
  rcases hS with ⟨c0, rfl, rfl⟩ | ⟨t, c0, rfl, rfl, rfl, rfl⟩
  · exact cl_err 0 rfl hA0 (t0_outcomeByStores h pi buf (nI (aC A)) (nI (aN A)) (nI (aL A)) rd w (aX A) hR hJ c0)
  · exact cl_look hA0 (by decide) (v_outcomeByStores h pi buf (nI (aC A)) (nI (aN A)) (nI (aL A)) rd w (aX A) hR hJ c0)
set_option maxRecDepth 20000 in
set_option maxHeartbeats 4000000 in
theorem k_hasEnded (h : qB) {n : Nat} {A : qA} (hG : GA n A) {o : List qE} {w : Fin 16 → qw} (hA : RA A o w) {x : Int32} {code : Nat} {v : Int32} {A2 : qA} (hS : S_hasEnded A x code v A2) : Cl mX2_hasEnded [qI x] h o w code v A2 ["java/lang/IndexOutOfBoundsException"] := by
  obtain ⟨⟨hJ, hBd⟩, hC, hGS, hN, hGY, hL, hT⟩ := hG
  have hA0 := hA
  obtain ⟨pi, buf, rd, rfl, hR, hRL, hY, hb⟩ := hA
  rcases hS with ⟨c0, rfl, rfl⟩ | ⟨t, c0, rfl, rfl, rfl, rfl⟩
  · exact cl_err 0 rfl hA0 (t0_hasEnded h pi buf (nI (aC A)) (nI (aN A)) (nI (aL A)) rd w (aX A) hR hJ c0)
  · exact cl_look hA0 (by decide) (v_hasEnded h pi buf (nI (aC A)) (nI (aN A)) (nI (aL A)) rd w (aX A) hR hJ c0)
set_option maxRecDepth 20000 in
set_option maxHeartbeats 4000000 in
theorem k_saidYes (h : qB) {n : Nat} {A : qA} (hG : GA n A) {o : List qE} {w : Fin 16 → qw} (hA : RA A o w) {x : Int32} {code : Nat} {v : Int32} {A2 : qA} (hS : S_saidYes A x code v A2) : Cl mX2_saidYes [qI x] h o w code v A2 ["java/lang/IndexOutOfBoundsException"] := by
  obtain ⟨⟨hJ, hBd⟩, hC, hGS, hN, hGY, hL, hT⟩ := hG
  have hA0 := hA
  obtain ⟨pi, buf, rd, rfl, hR, hRL, hY, hb⟩ := hA
  rcases hS with ⟨c0, rfl, rfl⟩ | ⟨t, c0, rfl, rfl, rfl, rfl⟩
  · exact cl_err 0 rfl hA0 (t0_saidYes h pi buf (nI (aC A)) (nI (aN A)) (nI (aL A)) rd w (aX A) hR hJ c0)
  · exact cl_look hA0 (by decide) (v_saidYes h pi buf (nI (aC A)) (nI (aN A)) (nI (aL A)) rd w (aX A) hR hJ c0)
set_option maxRecDepth 20000 in
set_option maxHeartbeats 4000000 in
theorem k_saidDone (h : qB) {n : Nat} {A : qA} (hG : GA n A) {o : List qE} {w : Fin 16 → qw} (hA : RA A o w) {x : Int32} {code : Nat} {v : Int32} {A2 : qA} (hS : S_saidDone A x code v A2) : Cl mX2_saidDone [qI x] h o w code v A2 ["java/lang/IndexOutOfBoundsException"] := by
  obtain ⟨⟨hJ, hBd⟩, hC, hGS, hN, hGY, hL, hT⟩ := hG
  have hA0 := hA
  obtain ⟨pi, buf, rd, rfl, hR, hRL, hY, hb⟩ := hA
  rcases hS with ⟨c0, rfl, rfl⟩ | ⟨t, c0, rfl, rfl, rfl, rfl⟩
  · exact cl_err 0 rfl hA0 (t0_saidDone h pi buf (nI (aC A)) (nI (aN A)) (nI (aL A)) rd w (aX A) hR hJ c0)
  · exact cl_look hA0 (by decide) (v_saidDone h pi buf (nI (aC A)) (nI (aN A)) (nI (aL A)) rd w (aX A) hR hJ c0)
set_option maxRecDepth 20000 in
set_option maxHeartbeats 4000000 in
theorem k_records (h : qB) {n : Nat} {A : qA} (hG : GA n A) {o : List qE} {w : Fin 16 → qw} (hA : RA A o w) {x : Int32} {code : Nat} {v : Int32} {A2 : qA} (hS : S_records A x code v A2) : Cl mX2_records [qI x] h o w code v A2 ["java/lang/IndexOutOfBoundsException"] := by
  obtain ⟨⟨hJ, hBd⟩, hC, hGS, hN, hGY, hL, hT⟩ := hG
  have hA0 := hA
  obtain ⟨pi, buf, rd, rfl, hR, hRL, hY, hb⟩ := hA
  rcases hS with ⟨c0, rfl, rfl⟩ | ⟨k, c0, rfl, rfl, rfl, rfl⟩
  · exact cl_err 0 rfl hA0 (t0_records h pi buf (nI (aC A)) (nI (aN A)) (nI (aL A)) rd w (aX A) hR hJ c0)
  · exact cl_look hA0 (by decide) (v_records h pi buf (nI (aC A)) (nI (aN A)) (nI (aL A)) rd w (aX A) hR hJ c0)
set_option maxRecDepth 20000 in
set_option maxHeartbeats 4000000 in
theorem k_recordKind (h : qB) {n : Nat} {A : qA} (hG : GA n A) {o : List qE} {w : Fin 16 → qw} (hA : RA A o w) {x y : Int32} {code : Nat} {v : Int32} {A2 : qA} (hS : S_recordKind A x y code v A2) : Cl mX2_recordKind [qI x, qI y] h o w code v A2 ["java/lang/IndexOutOfBoundsException"] := by
  obtain ⟨⟨hJ, hBd⟩, hC, hGS, hN, hGY, hL, hT⟩ := hG
  have hA0 := hA
  obtain ⟨pi, buf, rd, rfl, hR, hRL, hY, hb⟩ := hA
  rcases hS with ⟨c0, rfl, rfl⟩ | ⟨k, c0, rfl, c2, rfl, rfl⟩ | ⟨k, p, c0, rfl, c2, rfl, rfl, rfl, rfl⟩
  · exact cl_err 0 rfl hA0 (t0_recordKind h pi buf (nI (aC A)) (nI (aN A)) (nI (aL A)) rd w (aX A) hR hJ c0)
  · exact cl_err 0 rfl hA0 (t1_recordKind h pi buf (nI (aC A)) (nI (aN A)) (nI (aL A)) rd w (aX A) hR hJ c0 c2)
  · exact cl_look hA0 (by decide) (v_recordKind h pi buf (nI (aC A)) (nI (aN A)) (nI (aL A)) rd w (aX A) hR hJ c0 c2)
set_option maxRecDepth 20000 in
set_option maxHeartbeats 4000000 in
theorem k_recordTransfer (h : qB) {n : Nat} {A : qA} (hG : GA n A) {o : List qE} {w : Fin 16 → qw} (hA : RA A o w) {x y : Int32} {code : Nat} {v : Int32} {A2 : qA} (hS : S_recordTransfer A x y code v A2) : Cl mX2_recordTransfer [qI x, qI y] h o w code v A2 ["java/lang/IndexOutOfBoundsException"] := by
  obtain ⟨⟨hJ, hBd⟩, hC, hGS, hN, hGY, hL, hT⟩ := hG
  have hA0 := hA
  obtain ⟨pi, buf, rd, rfl, hR, hRL, hY, hb⟩ := hA
  rcases hS with ⟨c0, rfl, rfl⟩ | ⟨k, c0, rfl, c2, rfl, rfl⟩ | ⟨k, p, c0, rfl, c2, rfl, rfl, rfl, rfl⟩
  · exact cl_err 0 rfl hA0 (t0_recordTransfer h pi buf (nI (aC A)) (nI (aN A)) (nI (aL A)) rd w (aX A) hR hJ c0)
  · exact cl_err 0 rfl hA0 (t1_recordTransfer h pi buf (nI (aC A)) (nI (aN A)) (nI (aL A)) rd w (aX A) hR hJ c0 c2)
  · exact cl_look hA0 (by decide) (v_recordTransfer h pi buf (nI (aC A)) (nI (aN A)) (nI (aL A)) rd w (aX A) hR hJ c0 c2)
set_option maxRecDepth 20000 in
set_option maxHeartbeats 4000000 in
theorem k_kindOf (h : qB) {n : Nat} {A : qA} (hG : GA n A) {o : List qE} {w : Fin 16 → qw} (hA : RA A o w) {x : Int32} {code : Nat} {v : Int32} {A2 : qA} (hS : S_kindOf A x code v A2) : Cl mX2_kindOf [qI x] h o w code v A2 ["java/lang/IndexOutOfBoundsException"] := by
  obtain ⟨⟨hJ, hBd⟩, hC, hGS, hN, hGY, hL, hT⟩ := hG
  have hA0 := hA
  obtain ⟨pi, buf, rd, rfl, hR, hRL, hY, hb⟩ := hA
  rcases hS with ⟨c0, rfl, rfl⟩ | ⟨p, c0, rfl, rfl, rfl, rfl⟩
  · exact cl_err 0 rfl hA0 (t0_kindOf h pi buf (nI (aC A)) (nI (aN A)) (nI (aL A)) rd w (aX A) hR hJ c0)
  · exact cl_look hA0 (by decide) (v_kindOf h pi buf (nI (aC A)) (nI (aN A)) (nI (aL A)) rd w (aX A) hR hJ c0)
set_option maxRecDepth 20000 in
set_option maxHeartbeats 4000000 in
theorem k_transferOf (h : qB) {n : Nat} {A : qA} (hG : GA n A) {o : List qE} {w : Fin 16 → qw} (hA : RA A o w) {x : Int32} {code : Nat} {v : Int32} {A2 : qA} (hS : S_transferOf A x code v A2) : Cl mX2_transferOf [qI x] h o w code v A2 ["java/lang/IndexOutOfBoundsException"] := by
  obtain ⟨⟨hJ, hBd⟩, hC, hGS, hN, hGY, hL, hT⟩ := hG
  have hA0 := hA
  obtain ⟨pi, buf, rd, rfl, hR, hRL, hY, hb⟩ := hA
  rcases hS with ⟨c0, rfl, rfl⟩ | ⟨p, c0, rfl, rfl, rfl, rfl⟩
  · exact cl_err 0 rfl hA0 (t0_transferOf h pi buf (nI (aC A)) (nI (aN A)) (nI (aL A)) rd w (aX A) hR hJ c0)
  · exact cl_look hA0 (by decide) (v_transferOf h pi buf (nI (aC A)) (nI (aN A)) (nI (aL A)) rd w (aX A) hR hJ c0)
set_option maxRecDepth 20000 in
set_option maxHeartbeats 4000000 in
theorem k_storeOf (h : qB) {n : Nat} {A : qA} (hG : GA n A) {o : List qE} {w : Fin 16 → qw} (hA : RA A o w) {x : Int32} {code : Nat} {v : Int32} {A2 : qA} (hS : S_storeOf A x code v A2) : Cl mX2_storeOf [qI x] h o w code v A2 ["java/lang/IndexOutOfBoundsException"] := by
  obtain ⟨⟨hJ, hBd⟩, hC, hGS, hN, hGY, hL, hT⟩ := hG
  have hA0 := hA
  obtain ⟨pi, buf, rd, rfl, hR, hRL, hY, hb⟩ := hA
  rcases hS with ⟨c0, rfl, rfl⟩ | ⟨p, c0, rfl, rfl, rfl, rfl⟩
  · exact cl_err 0 rfl hA0 (t0_storeOf h pi buf (nI (aC A)) (nI (aN A)) (nI (aL A)) rd w (aX A) hR hJ c0)
  · exact cl_look hA0 (by decide) (v_storeOf h pi buf (nI (aC A)) (nI (aN A)) (nI (aL A)) rd w (aX A) hR hJ c0)
set_option maxRecDepth 20000 in
set_option maxHeartbeats 4000000 in
theorem k_wouldSend (h : qB) {n : Nat} {A : qA} (hG : GA n A) {o : List qE} {w : Fin 16 → qw} (hA : RA A o w) {x : Int32} {code : Nat} {v : Int32} {A2 : qA} (hS : S_wouldSend A x code v A2) : Cl mX2_wouldSend [qI x] h o w code v A2 ["java/lang/IndexOutOfBoundsException"] := by
  obtain ⟨⟨hJ, hBd⟩, hC, hGS, hN, hGY, hL, hT⟩ := hG
  have hA0 := hA
  obtain ⟨pi, buf, rd, rfl, hR, hRL, hY, hb⟩ := hA
  rcases hS with ⟨c0, rfl, rfl⟩ | ⟨p, c0, rfl, rfl, rfl, rfl⟩
  · exact cl_err 0 rfl hA0 (t0_wouldSend h pi buf (nI (aC A)) (nI (aN A)) (nI (aL A)) rd w (aX A) hR hJ c0)
  · exact cl_ok (by decide) (v_wouldSend h pi buf (nI (aC A)) (nI (aN A)) (nI (aL A)) rd w (aX A) hR hJ c0) fun r h2 q => ⟨q.1, _, _, q.2.choose_spec, ra_uw hA0 hC (by decide) (by decide) _⟩
set_option maxRecDepth 20000 in
set_option maxHeartbeats 4000000 in
theorem k_outcomeIfSettled (h : qB) {n : Nat} {A : qA} (hG : GA n A) {o : List qE} {w : Fin 16 → qw} (hA : RA A o w) {x : Int32} {code : Nat} {v : Int32} {A2 : qA} (hS : S_outcomeIfSettled A x code v A2) : Cl mX2_outcomeIfSettled [qI x] h o w code v A2 ["java/lang/IndexOutOfBoundsException"] := by
  obtain ⟨⟨hJ, hBd⟩, hC, hGS, hN, hGY, hL, hT⟩ := hG
  have hA0 := hA
  obtain ⟨pi, buf, rd, rfl, hR, hRL, hY, hb⟩ := hA
  rcases hS with ⟨c0, rfl, rfl⟩ | ⟨t, c0, rfl, rfl, rfl, rfl⟩
  · exact cl_err 0 rfl hA0 (t0_outcomeIfSettled h pi buf (nI (aC A)) (nI (aN A)) (nI (aL A)) rd w (aX A) hR hJ c0)
  · exact cl_ok (by decide) (v_outcomeIfSettled h pi buf (nI (aC A)) (nI (aN A)) (nI (aL A)) rd w (aX A) hR hJ c0) fun r h2 q => ⟨q.1, _, _, q.2.choose_spec, ra_uw hA0 hC (by decide) (by decide) _⟩
set_option maxRecDepth 20000 in
set_option maxHeartbeats 4000000 in
theorem k_amountIfSettled (h : qB) {n : Nat} {A : qA} (hG : GA n A) {o : List qE} {w : Fin 16 → qw} (hA : RA A o w) {x : Int32} {code : Nat} {v : Int32} {A2 : qA} (hS : S_amountIfSettled A x code v A2) : Cl mX2_amountIfSettled [qI x] h o w code v A2 ["java/lang/IndexOutOfBoundsException"] := by
  obtain ⟨⟨hJ, hBd⟩, hC, hGS, hN, hGY, hL, hT⟩ := hG
  have hA0 := hA
  obtain ⟨pi, buf, rd, rfl, hR, hRL, hY, hb⟩ := hA
  rcases hS with ⟨c0, rfl, rfl⟩ | ⟨s, c0, rfl, rfl, rfl, rfl⟩
  · exact cl_err 0 rfl hA0 (t0_amountIfSettled h pi buf (nI (aC A)) (nI (aN A)) (nI (aL A)) rd w (aX A) hR hJ c0)
  · exact cl_ok (by decide) (v_amountIfSettled h pi buf (nI (aC A)) (nI (aN A)) (nI (aL A)) rd w (aX A) hR hJ c0) fun r h2 q => ⟨q.1, _, _, q.2.choose_spec, ra_uw hA0 hC (by decide) (by decide) _⟩
set_option maxRecDepth 20000 in
set_option maxHeartbeats 4000000 in
theorem k_greatestSize (h : qB) {n : Nat} {A : qA} (hG : GA n A) {o : List qE} {w : Fin 16 → qw} (hA : RA A o w) {x y : Int32} {code : Nat} {v : Int32} {A2 : qA} (hS : S_greatestSize A x y code v A2) : Cl mX2_greatestSize [qI x, qI y] h o w code v A2 ["java/lang/IndexOutOfBoundsException", "java/lang/IllegalArgumentException"] := by
  obtain ⟨⟨hJ, hBd⟩, hC, hGS, hN, hGY, hL, hT⟩ := hG
  have hA0 := hA
  obtain ⟨pi, buf, rd, rfl, hR, hRL, hY, hb⟩ := hA
  rcases hS with ⟨c0, rfl, rfl⟩ | ⟨f, c0, rfl, c2, rfl, rfl⟩ | ⟨f, to, c0, rfl, c2, c3, c4, rfl, rfl, rfl, rfl⟩
  · exact cl_err 0 rfl hA0 (t0_greatestSize h pi buf (nI (aC A)) (nI (aN A)) (nI (aL A)) rd w (aX A) hR hJ c0)
  · exact cl_err 1 rfl hA0 (t1_greatestSize h pi buf (nI (aC A)) (nI (aN A)) (nI (aL A)) rd w (aX A) hR hJ c0 c2)
  · exact cl_look hA0 (by decide) (v_greatestSize h pi buf (nI (aC A)) (nI (aN A)) (nI (aL A)) rd w (aX A) hR hJ c0 c2 c3 c4)
