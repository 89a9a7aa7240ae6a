/-! THE LAW'S WRAPPERS -/
def h1 (F : List qE) (out : Nat → Int64) : qB := fun b => if b = 11 then F else if b = 12 then [eL 1 out] else []
/-- the law's heap: the class's blocks, the model's, the row of one long -/
def hL (o : List qE) (w : Fin 16 → qw) (F : List qE) (out : Nat → Int64) : qB := hK (h1 F out) o w 10
theorem hL_up (o : List qE) (w : Fin 16 → qw) (F : List qE) (out g : Nat → Int64) : q_up (hL o w F out) (12, 0) (eL 1 g) = hL o w F g := by
  funext j
  show (if j = (12 : Fin 16) then (hL o w F out j).set (0 : Fin 16).val (eL 1 g) else hL o w F out j) = _
  by_cases q : j = 12
  · subst q; rfl
  · rw [if_neg q]
    unfold hL hK h1
    rw [if_neg q, if_neg q]
theorem hL_put (o : List qE) (w : Fin 16 → qw) (F F2 : List qE) (out : Nat → Int64) : q_put (hL o w F out) 11 F2 = hL o w F2 out := by
  funext j
  show (if j = (11 : Fin 16) then F2 else hL o w F out j) = _
  by_cases q : j = 11
  · subst q; rfl
  · rw [if_neg q]
    unfold hL hK h1
    rw [if_neg q, if_neg q]
theorem e_stOut {M : qM} {d pc : Nat} {L : List (Option qV)} {st : List qV} {kc ks : Nat} {P : qP} {X : qX} {o : List qE} {w : Fin 16 → qw} {F : List qE} {out : Nat → Int64} {x : Int64} (dg : decode M.2.1 pc = .ok (.lastore, 1))
    (k : ∀ out', out' 0 = x → Ev M d (pc + 1) L st 132 (hL o w F out') kc ks P X) : Ev M d pc L (qL x :: qI (nI 0) :: qR 12 0 :: st) 132 (hL o w F out) kc ks P X := by
  refine e_lastore dg (N := 1) (f := out) rfl (vp_in_nI (by decide) (by decide)) ?_
  rw [hL_up]
  exact k _ (by show (if 0 = (nI 0).toNatClampNeg then x else out 0) = x; rw [if_pos (by decide)])
theorem e_ldOut {M : qM} {d pc : Nat} {L : List (Option qV)} {st : List qV} {kc ks : Nat} {P : qP} {X : qX} {o : List qE} {w : Fin 16 → qw} {F : List qE} {out : Nat → Int64} (dg : decode M.2.1 pc = .ok (.laload, 1))
    (k : Ev M d (pc + 1) L (qL (out 0) :: st) 132 (hL o w F out) kc ks P X) : Ev M d pc L (qI (nI 0) :: qR 12 0 :: st) 132 (hL o w F out) kc ks P X := by
  refine e_laload dg (N := 1) (f := out) rfl (vp_in_nI (by decide) (by decide)) ?_
  rw [show (nI 0).toNatClampNeg = 0 by decide]
  exact k
theorem ra_at {A : qA} {o : List qE} {w : Fin 16 → qw} (hA : RA A o w) : ∃ fs, o[0]? = some (eO 2 fs) := by
  obtain ⟨pi, buf, rd, rfl, -⟩ := hA
  exact ⟨_, rfl⟩
theorem e_callCl {M M' : qM} {d pc idx : Nat} {L : List (Option qV)} {st rest as : List qV} {kc ks : Nat} {P : qP} {X : qX} {F : List qE} {out : Nat → Int64} {o : List qE} {w : Fin 16 → qw} {code : Nat} {v : Int32} {A A2 : qA} {Es : List String} {T : u_T} {N : Nat}
    (hcl0 : Cl M' as (h1 F out) o w code v A2 Es) (hA : RA A o w) (hM : q_MV M' as.length) (hl : Cond.methodLink M.1.cls idx M'.1 ∈ lwA) (hst : st = as.reverse ++ qR 0 0 :: rest) (dg : decode M.2.1 pc = .ok (.invokevirtual idx, 3))
    (hcl : vwCl[2]? = some (M'.1.cls, T, N)) (hd : 8 ≤ d) (hr : q_cats rest ≤ 8) (hkc : 1 ≤ kc) (hks : 6 ≤ ks)
    (kk : code = 0 → ∀ o' w', RA A2 o' w' → Ev M d (pc + 3) L (qI v :: rest) 132 (hL o' w' F out) kc ks P X)
    (kx : ∀ j E, code = j + 1 → Es[j]? = some E → ∃ i tgt, q_HD M pc E i tgt ∧ q_nw L i = true ∧ i < M.2.2.1 ∧ ∀ o' w', RA A2 o' w' → Ev M d tgt (L.set i none) [] 132 (hL o' w' F out) (kc - 1) (ks - 6) P X) :
    Ev M d pc L st 132 (hL o w F out) kc ks P X := by
  obtain ⟨fs, hF⟩ := ra_at hA
  rcases hcl0 with ⟨hc0, d', hd', hc⟩ | ⟨j, E, hj, hE, hc⟩
  · refine e_callVH (b := 0) (o := 0) (as := as) hM hl hc hst dg hF hcl (by omega) hr (Nat.zero_le _) (Nat.zero_le _) (fun v n' h' q => by obtain ⟨x, e1, e2, e3⟩ := q; omega) (fun _ _ _ q => q.elim) (fun v' n' h' q => ?_)
    obtain ⟨x, rfl, rfl, rfl, o', w', rfl, hA'⟩ := q
    exact kk hc0 o' w' hA'
  · refine e_callVH (b := 0) (o := 0) (as := as) hM hl hc hst dg hF hcl (by omega) hr hkc hks (fun v n' h' q => q.elim) (fun E' n' h' q => ?_) (fun v' n' h' q => q.elim)
    obtain ⟨rfl, rfl, o', w', rfl, hA'⟩ := q
    obtain ⟨i, tgt, k1, k2, k3, k4⟩ := kx j _ hj hE
    exact ⟨fun q => absurd q (by decide), i, tgt, k1, k2, k3, k4 o' w' hA'⟩
/-- a wrapper's end -/
def WP (A2 : qA) (F : List qE) (code : Nat) (x : Int64) : qP := fun r n h2 => ∃ o' w' out', r = some (qI (nI code)) ∧ n = 132 ∧ RA A2 o' w' ∧ (code = 0 → out' 0 = x) ∧ h2 = hL o' w' F out'
theorem w_L13 : Cond.classLink RL 13 "java/lang/IndexOutOfBoundsException" ∈ lwA := List.mem_filter.mpr ⟨List.mem_append_right _ (List.mem_append_right _ (List.mem_append_right _ (List.mem_append_left _ (List.mem_of_getElem? (i := 174) rfl)))), rfl⟩
theorem w_L15 : Cond.classLink RL 15 "java/lang/IllegalArgumentException" ∈ lwA := List.mem_filter.mpr ⟨List.mem_append_right _ (List.mem_append_right _ (List.mem_append_right _ (List.mem_append_left _ (List.mem_of_getElem? (i := 175) rfl)))), rfl⟩
theorem w_L17 : Cond.classLink RL 17 "java/lang/IllegalStateException" ∈ lwA := List.mem_filter.mpr ⟨List.mem_append_right _ (List.mem_append_right _ (List.mem_append_right _ (List.mem_append_left _ (List.mem_of_getElem? (i := 176) rfl)))), rfl⟩
set_option maxRecDepth 20000 in
set_option maxHeartbeats 4000000 in
theorem c_begin (F : List qE) (out : Nat → Int64) {n : Nat} {A : qA} (hG : GA n A) {o : List qE} {w : Fin 16 → qw} (hA : RA A o w) {x y z : Int32} {code : Nat} {v : Int32} {A2 : qA} (hS : S_begin A x y z code v A2) : Ct mL_begin 8 1 6 [qR 0 0, qI x, qI y, qI z, qR 12 0] 132 (hL o w F out) (WP A2 F code v.toInt64) qNo := by
  refine ct_ofH (by decide +kernel) rfl rfl (Nat.le_of_ble_eq_true rfl) ?_
  show Ev mL_begin 8 0 [some (qR 0 0), some (qI x), some (qI y), some (qI z), some (qR 12 0), none] [] 132 (hL o w F out) 1 6 _ _
  refine e_aload4 dL_begin_0 ?_
  refine e_iconst (z := 0) dL_begin_2 ?_
  refine e_aload0 dL_begin_3 ?_
  refine e_iload1 dL_begin_4 ?_
  refine e_iload2 dL_begin_5 ?_
  refine e_iload3 dL_begin_6 ?_
  refine e_callCl (as := [qI x, qI y, qI z]) (k_begin (h1 F out) hG hA hS) hA fX2_begin lkL_7 rfl dL_begin_7 rfl (by decide) (Nat.le_of_ble_eq_true rfl) (by decide) (by decide) (fun hc0 o2 w2 hA2 => ?_) (fun j E hj hE => ?_)
  · refine e_i2l dL_begin_10 ?_
    refine e_stOut dL_begin_11 (fun out2 ho => ?_)
    refine e_goto 27 dL_begin_12 (by decide) ?_
    refine e_iconst (z := 0) dL_begin_27 ?_
    refine e_iret dL_begin_28 rfl ?_
    exact ⟨_, _, _, by rw [hc0], rfl, hA2, fun _ => ho, rfl⟩
  · match j, hj, hE with
    | 0, hj, hE =>
      obtain rfl := Option.some.inj hE
      refine ⟨5, 17, ⟨[], ⟨0, 12, 15, 13⟩, [⟨0, 12, 19, 15⟩, ⟨0, 12, 23, 17⟩], _, rfl, (fun z hz => absurd hz (by simp)), by decide, by decide, w_L13, List.mem_of_getElem? (i := 5) rfl, Or.inr ⟨dL_begin_15, rfl⟩⟩, rfl, by decide, fun o2 w2 hA2 => ?_⟩
      refine e_iconst (z := 1) dL_begin_17 ?_
      refine e_iret dL_begin_18 rfl ?_
      exact ⟨_, _, _, by rw [hj], rfl, hA2, fun q => absurd q (by omega), rfl⟩
    | 1, hj, hE =>
      obtain rfl := Option.some.inj hE
      refine ⟨5, 21, ⟨[⟨0, 12, 15, 13⟩], ⟨0, 12, 19, 15⟩, [⟨0, 12, 23, 17⟩], _, rfl, (fun z hz => by
          rcases List.mem_singleton.mp hz with rfl
          · exact Or.inr ⟨by decide, _, w_L13, List.mem_of_getElem? (i := 0) rfl⟩), by decide, by decide, w_L15, List.mem_of_getElem? (i := 12) rfl, Or.inr ⟨dL_begin_19, rfl⟩⟩, rfl, by decide, fun o2 w2 hA2 => ?_⟩
      refine e_iconst (z := 2) dL_begin_21 ?_
      refine e_iret dL_begin_22 rfl ?_
      exact ⟨_, _, _, by rw [hj], rfl, hA2, fun q => absurd q (by omega), rfl⟩
    | 2, hj, hE =>
      obtain rfl := Option.some.inj hE
      refine ⟨5, 25, ⟨[⟨0, 12, 15, 13⟩, ⟨0, 12, 19, 15⟩], ⟨0, 12, 23, 17⟩, [], _, rfl, (fun z hz => by
          rcases (by simpa using hz : z = (⟨0, 12, 15, 13⟩ : ExceptionTableEntry) ∨ z = (⟨0, 12, 19, 15⟩ : ExceptionTableEntry)) with rfl | rfl
          · exact Or.inr ⟨by decide, _, w_L13, List.mem_of_getElem? (i := 1) rfl⟩
          · exact Or.inr ⟨by decide, _, w_L15, List.mem_of_getElem? (i := 2) rfl⟩), by decide, by decide, w_L17, List.mem_of_getElem? (i := 14) rfl, Or.inr ⟨dL_begin_23, rfl⟩⟩, rfl, by decide, fun o2 w2 hA2 => ?_⟩
      refine e_iconst (z := 3) dL_begin_25 ?_
      refine e_iret dL_begin_26 rfl ?_
      exact ⟨_, _, _, by rw [hj], rfl, hA2, fun q => absurd q (by omega), rfl⟩
    | j + 3, hj, hE => exact absurd hE (by simp)
theorem g_begin : q_MSW mL_begin 5 := ⟨⟨_, _, rfl⟩, fL_begin.1, ⟨by decide, by decide⟩, by decide +kernel, by decide, List.mem_filter.mpr ⟨List.mem_append_right _ (List.mem_append_left _ (List.mem_of_getElem? (i := 0) rfl)), rfl⟩, fL_begin.2⟩
set_option maxRecDepth 20000 in
set_option maxHeartbeats 4000000 in
theorem c_giveUp (F : List qE) (out : Nat → Int64) {n : Nat} {A : qA} (hG : GA n A) {o : List qE} {w : Fin 16 → qw} (hA : RA A o w) {x : Int32} {code : Nat} {v : Int32} {A2 : qA} (hS : S_giveUp A x code v A2) : Ct mL_giveUp 8 1 6 [qR 0 0, qI x, qR 12 0] 132 (hL o w F out) (WP A2 F code v.toInt64) qNo := by
  refine ct_ofH (by decide +kernel) rfl rfl (Nat.le_of_ble_eq_true rfl) ?_
  show Ev mL_giveUp 8 0 [some (qR 0 0), some (qI x), some (qR 12 0), none] [] 132 (hL o w F out) 1 6 _ _
  refine e_aload2 dL_giveUp_0 ?_
  refine e_iconst (z := 0) dL_giveUp_1 ?_
  refine e_aload0 dL_giveUp_2 ?_
  refine e_iload1 dL_giveUp_3 ?_
  refine e_callCl (as := [qI x]) (k_giveUp (h1 F out) hG hA hS) hA fX2_giveUp lkL_19 rfl dL_giveUp_4 rfl (by decide) (Nat.le_of_ble_eq_true rfl) (by decide) (by decide) (fun hc0 o2 w2 hA2 => ?_) (fun j E hj hE => ?_)
  · refine e_i2l dL_giveUp_7 ?_
    refine e_stOut dL_giveUp_8 (fun out2 ho => ?_)
    refine e_goto 18 dL_giveUp_9 (by decide) ?_
    refine e_iconst (z := 0) dL_giveUp_18 ?_
    refine e_iret dL_giveUp_19 rfl ?_
    exact ⟨_, _, _, by rw [hc0], rfl, hA2, fun _ => ho, rfl⟩
  · match j, hj, hE with
    | 0, hj, hE =>
      obtain rfl := Option.some.inj hE
      refine ⟨3, 13, ⟨[], ⟨0, 9, 12, 13⟩, [⟨0, 9, 15, 17⟩], _, rfl, (fun z hz => absurd hz (by simp)), by decide, by decide, w_L13, List.mem_of_getElem? (i := 5) rfl, Or.inl ⟨3, rfl, dL_giveUp_12, rfl⟩⟩, rfl, by decide, fun o2 w2 hA2 => ?_⟩
      refine e_iconst (z := 1) dL_giveUp_13 ?_
      refine e_iret dL_giveUp_14 rfl ?_
      exact ⟨_, _, _, by rw [hj], rfl, hA2, fun q => absurd q (by omega), rfl⟩
    | 1, hj, hE =>
      obtain rfl := Option.some.inj hE
      refine ⟨3, 16, ⟨[⟨0, 9, 12, 13⟩], ⟨0, 9, 15, 17⟩, [], _, rfl, (fun z hz => by
          rcases List.mem_singleton.mp hz with rfl
          · exact Or.inr ⟨by decide, _, w_L13, List.mem_of_getElem? (i := 1) rfl⟩), by decide, by decide, w_L17, List.mem_of_getElem? (i := 14) rfl, Or.inl ⟨3, rfl, dL_giveUp_15, rfl⟩⟩, rfl, by decide, fun o2 w2 hA2 => ?_⟩
      refine e_iconst (z := 2) dL_giveUp_16 ?_
      refine e_iret dL_giveUp_17 rfl ?_
      exact ⟨_, _, _, by rw [hj], rfl, hA2, fun q => absurd q (by omega), rfl⟩
    | j + 2, hj, hE => exact absurd hE (by simp)
theorem g_giveUp : q_MSW mL_giveUp 3 := ⟨⟨_, _, rfl⟩, fL_giveUp.1, ⟨by decide, by decide⟩, by decide +kernel, by decide, List.mem_filter.mpr ⟨List.mem_append_right _ (List.mem_append_left _ (List.mem_of_getElem? (i := 0) rfl)), rfl⟩, fL_giveUp.2⟩
set_option maxRecDepth 20000 in
set_option maxHeartbeats 4000000 in
theorem c_ask (F : List qE) (out : Nat → Int64) {n : Nat} {A : qA} (hG : GA n A) {o : List qE} {w : Fin 16 → qw} (hA : RA A o w) {x y : Int32} {code : Nat} {v : Int32} {A2 : qA} (hS : S_ask A x y code v A2) : Ct mL_ask 8 1 6 [qR 0 0, qI x, qI y, qR 12 0] 132 (hL o w F out) (WP A2 F code v.toInt64) qNo := by
  refine ct_ofH (by decide +kernel) rfl rfl (Nat.le_of_ble_eq_true rfl) ?_
  show Ev mL_ask 8 0 [some (qR 0 0), some (qI x), some (qI y), some (qR 12 0), none] [] 132 (hL o w F out) 1 6 _ _
  refine e_aload3 dL_ask_0 ?_
  refine e_iconst (z := 0) dL_ask_1 ?_
  refine e_aload0 dL_ask_2 ?_
  refine e_iload1 dL_ask_3 ?_
  refine e_iload2 dL_ask_4 ?_
  refine e_callCl (as := [qI x, qI y]) (k_ask (h1 F out) hG hA hS) hA fX2_ask lkL_23 rfl dL_ask_5 rfl (by decide) (Nat.le_of_ble_eq_true rfl) (by decide) (by decide) (fun hc0 o2 w2 hA2 => ?_) (fun j E hj hE => ?_)
  · refine e_i2l dL_ask_8 ?_
    refine e_stOut dL_ask_9 (fun out2 ho => ?_)
    refine e_goto 21 dL_ask_10 (by decide) ?_
    refine e_iconst (z := 0) dL_ask_21 ?_
    refine e_iret dL_ask_22 rfl ?_
    exact ⟨_, _, _, by rw [hc0], rfl, hA2, fun _ => ho, rfl⟩
  · match j, hj, hE with
    | 0, hj, hE =>
      obtain rfl := Option.some.inj hE
      refine ⟨4, 15, ⟨[], ⟨0, 10, 13, 13⟩, [⟨0, 10, 17, 17⟩], _, rfl, (fun z hz => absurd hz (by simp)), by decide, by decide, w_L13, List.mem_of_getElem? (i := 5) rfl, Or.inr ⟨dL_ask_13, rfl⟩⟩, rfl, by decide, fun o2 w2 hA2 => ?_⟩
      refine e_iconst (z := 1) dL_ask_15 ?_
      refine e_iret dL_ask_16 rfl ?_
      exact ⟨_, _, _, by rw [hj], rfl, hA2, fun q => absurd q (by omega), rfl⟩
    | 1, hj, hE =>
      obtain rfl := Option.some.inj hE
      refine ⟨4, 19, ⟨[⟨0, 10, 13, 13⟩], ⟨0, 10, 17, 17⟩, [], _, rfl, (fun z hz => by
          rcases List.mem_singleton.mp hz with rfl
          · exact Or.inr ⟨by decide, _, w_L13, List.mem_of_getElem? (i := 1) rfl⟩), by decide, by decide, w_L17, List.mem_of_getElem? (i := 14) rfl, Or.inr ⟨dL_ask_17, rfl⟩⟩, rfl, by decide, fun o2 w2 hA2 => ?_⟩
      refine e_iconst (z := 2) dL_ask_19 ?_
      refine e_iret dL_ask_20 rfl ?_
      exact ⟨_, _, _, by rw [hj], rfl, hA2, fun q => absurd q (by omega), rfl⟩
    | j + 2, hj, hE => exact absurd hE (by simp)
theorem g_ask : q_MSW mL_ask 4 := ⟨⟨_, _, rfl⟩, fL_ask.1, ⟨by decide, by decide⟩, by decide +kernel, by decide, List.mem_filter.mpr ⟨List.mem_append_right _ (List.mem_append_left _ (List.mem_of_getElem? (i := 0) rfl)), rfl⟩, fL_ask.2⟩
set_option maxRecDepth 20000 in
set_option maxHeartbeats 4000000 in
theorem c_deliver (F : List qE) (out : Nat → Int64) {n : Nat} {A : qA} (hG : GA n A) {o : List qE} {w : Fin 16 → qw} (hA : RA A o w) {x : Int32} {code : Nat} {v : Int32} {A2 : qA} (hS : S_deliver A x code v A2) : Ct mL_deliver 8 1 6 [qR 0 0, qI x, qR 12 0] 132 (hL o w F out) (WP A2 F code (if v = 0 then 0 else 1)) qNo := by
  refine ct_ofH (by decide +kernel) rfl rfl (Nat.le_of_ble_eq_true rfl) ?_
  show Ev mL_deliver 8 0 [some (qR 0 0), some (qI x), some (qR 12 0), none] [] 132 (hL o w F out) 1 6 _ _
  refine e_aload2 dL_deliver_0 ?_
  refine e_iconst (z := 0) dL_deliver_1 ?_
  refine e_aload0 dL_deliver_2 ?_
  refine e_iload1 dL_deliver_3 ?_
  refine e_callCl (as := [qI x]) (k_deliver (h1 F out) hG hA hS) hA fX2_deliver lkL_27 rfl dL_deliver_4 rfl (by decide) (Nat.le_of_ble_eq_true rfl) (by decide) (by decide) (fun hc0 o2 w2 hA2 => ?_) (fun j E hj hE => ?_)
  · refine e_if_eq 14 dL_deliver_7 (by decide) (fun hq => ?_) (fun hq => ?_)
    · refine e_lconst (v := 0) dL_deliver_14 (by decide) ?_
      refine e_stOut dL_deliver_15 (fun out2 ho => ?_)
      refine e_goto 22 dL_deliver_16 (by decide) ?_
      refine e_iconst (z := 0) dL_deliver_22 ?_
      refine e_iret dL_deliver_23 rfl ?_
      exact ⟨_, _, _, by rw [hc0], rfl, hA2, fun _ => by rw [ho, if_pos hq], rfl⟩
    · refine e_lconst (v := 1) dL_deliver_10 (by decide) ?_
      refine e_goto 15 dL_deliver_11 (by decide) ?_
      refine e_stOut dL_deliver_15 (fun out2 ho => ?_)
      refine e_goto 22 dL_deliver_16 (by decide) ?_
      refine e_iconst (z := 0) dL_deliver_22 ?_
      refine e_iret dL_deliver_23 rfl ?_
      exact ⟨_, _, _, by rw [hc0], rfl, hA2, fun _ => by rw [ho, if_neg hq], rfl⟩
  · match j, hj, hE with
    | 0, hj, hE =>
      obtain rfl := Option.some.inj hE
      refine ⟨3, 20, ⟨[], ⟨0, 16, 19, 13⟩, [], _, rfl, (fun z hz => absurd hz (by simp)), by decide, by decide, w_L13, List.mem_of_getElem? (i := 5) rfl, Or.inl ⟨3, rfl, dL_deliver_19, rfl⟩⟩, rfl, by decide, fun o2 w2 hA2 => ?_⟩
      refine e_iconst (z := 1) dL_deliver_20 ?_
      refine e_iret dL_deliver_21 rfl ?_
      exact ⟨_, _, _, by rw [hj], rfl, hA2, fun q => absurd q (by omega), rfl⟩
    | j + 1, hj, hE => exact absurd hE (by simp)
theorem g_deliver : q_MSW mL_deliver 3 := ⟨⟨_, _, rfl⟩, fL_deliver.1, ⟨by decide, by decide⟩, by decide +kernel, by decide, List.mem_filter.mpr ⟨List.mem_append_right _ (List.mem_append_left _ (List.mem_of_getElem? (i := 0) rfl)), rfl⟩, fL_deliver.2⟩
set_option maxRecDepth 20000 in
set_option maxHeartbeats 4000000 in
theorem c_lose (F : List qE) (out : Nat → Int64) {n : Nat} {A : qA} (hG : GA n A) {o : List qE} {w : Fin 16 → qw} (hA : RA A o w) {x : Int32} {code : Nat} {v : Int32} {A2 : qA} (hS : S_lose A x code v A2) : Ct mL_lose 8 1 6 [qR 0 0, qI x, qR 12 0] 132 (hL o w F out) (WP A2 F code v.toInt64) qNo := by
  refine ct_ofH (by decide +kernel) rfl rfl (Nat.le_of_ble_eq_true rfl) ?_
  show Ev mL_lose 8 0 [some (qR 0 0), some (qI x), some (qR 12 0), none] [] 132 (hL o w F out) 1 6 _ _
  refine e_aload2 dL_lose_0 ?_
  refine e_iconst (z := 0) dL_lose_1 ?_
  refine e_aload0 dL_lose_2 ?_
  refine e_iload1 dL_lose_3 ?_
  refine e_callCl (as := [qI x]) (k_lose (h1 F out) hG hA hS) hA fX2_lose lkL_31 rfl dL_lose_4 rfl (by decide) (Nat.le_of_ble_eq_true rfl) (by decide) (by decide) (fun hc0 o2 w2 hA2 => ?_) (fun j E hj hE => ?_)
  · refine e_i2l dL_lose_7 ?_
    refine e_stOut dL_lose_8 (fun out2 ho => ?_)
    refine e_goto 15 dL_lose_9 (by decide) ?_
    refine e_iconst (z := 0) dL_lose_15 ?_
    refine e_iret dL_lose_16 rfl ?_
    exact ⟨_, _, _, by rw [hc0], rfl, hA2, fun _ => ho, rfl⟩
  · match j, hj, hE with
    | 0, hj, hE =>
      obtain rfl := Option.some.inj hE
      refine ⟨3, 13, ⟨[], ⟨0, 9, 12, 13⟩, [], _, rfl, (fun z hz => absurd hz (by simp)), by decide, by decide, w_L13, List.mem_of_getElem? (i := 5) rfl, Or.inl ⟨3, rfl, dL_lose_12, rfl⟩⟩, rfl, by decide, fun o2 w2 hA2 => ?_⟩
      refine e_iconst (z := 1) dL_lose_13 ?_
      refine e_iret dL_lose_14 rfl ?_
      exact ⟨_, _, _, by rw [hj], rfl, hA2, fun q => absurd q (by omega), rfl⟩
    | j + 1, hj, hE => exact absurd hE (by simp)
theorem g_lose : q_MSW mL_lose 3 := ⟨⟨_, _, rfl⟩, fL_lose.1, ⟨by decide, by decide⟩, by decide +kernel, by decide, List.mem_filter.mpr ⟨List.mem_append_right _ (List.mem_append_left _ (List.mem_of_getElem? (i := 0) rfl)), rfl⟩, fL_lose.2⟩
set_option maxRecDepth 20000 in
set_option maxHeartbeats 4000000 in
theorem c_crash (F : List qE) (out : Nat → Int64) {n : Nat} {A : qA} (hG : GA n A) {o : List qE} {w : Fin 16 → qw} (hA : RA A o w) {x : Int32} {code : Nat} {v : Int32} {A2 : qA} (hS : S_crash A x code v A2) : Ct mL_crash 8 1 6 [qR 0 0, qI x, qR 12 0] 132 (hL o w F out) (WP A2 F code v.toInt64) qNo := by
  refine ct_ofH (by decide +kernel) rfl rfl (Nat.le_of_ble_eq_true rfl) ?_
  show Ev mL_crash 8 0 [some (qR 0 0), some (qI x), some (qR 12 0), none] [] 132 (hL o w F out) 1 6 _ _
  refine e_aload2 dL_crash_0 ?_
  refine e_iconst (z := 0) dL_crash_1 ?_
  refine e_aload0 dL_crash_2 ?_
  refine e_iload1 dL_crash_3 ?_
  refine e_callCl (as := [qI x]) (k_crash (h1 F out) hG hA hS) hA fX2_crash lkL_34 rfl dL_crash_4 rfl (by decide) (Nat.le_of_ble_eq_true rfl) (by decide) (by decide) (fun hc0 o2 w2 hA2 => ?_) (fun j E hj hE => ?_)
  · refine e_i2l dL_crash_7 ?_
    refine e_stOut dL_crash_8 (fun out2 ho => ?_)
    refine e_goto 18 dL_crash_9 (by decide) ?_
    refine e_iconst (z := 0) dL_crash_18 ?_
    refine e_iret dL_crash_19 rfl ?_
    exact ⟨_, _, _, by rw [hc0], rfl, hA2, fun _ => ho, rfl⟩
  · match j, hj, hE with
    | 0, hj, hE =>
      obtain rfl := Option.some.inj hE
      refine ⟨3, 13, ⟨[], ⟨0, 9, 12, 13⟩, [⟨0, 9, 15, 17⟩], _, rfl, (fun z hz => absurd hz (by simp)), by decide, by decide, w_L13, List.mem_of_getElem? (i := 5) rfl, Or.inl ⟨3, rfl, dL_crash_12, rfl⟩⟩, rfl, by decide, fun o2 w2 hA2 => ?_⟩
      refine e_iconst (z := 1) dL_crash_13 ?_
      refine e_iret dL_crash_14 rfl ?_
      exact ⟨_, _, _, by rw [hj], rfl, hA2, fun q => absurd q (by omega), rfl⟩
    | 1, hj, hE =>
      obtain rfl := Option.some.inj hE
      refine ⟨3, 16, ⟨[⟨0, 9, 12, 13⟩], ⟨0, 9, 15, 17⟩, [], _, rfl, (fun z hz => by
          rcases List.mem_singleton.mp hz with rfl
          · exact Or.inr ⟨by decide, _, w_L13, List.mem_of_getElem? (i := 1) rfl⟩), by decide, by decide, w_L17, List.mem_of_getElem? (i := 14) rfl, Or.inl ⟨3, rfl, dL_crash_15, rfl⟩⟩, rfl, by decide, fun o2 w2 hA2 => ?_⟩
      refine e_iconst (z := 2) dL_crash_16 ?_
      refine e_iret dL_crash_17 rfl ?_
      exact ⟨_, _, _, by rw [hj], rfl, hA2, fun q => absurd q (by omega), rfl⟩
    | j + 2, hj, hE => exact absurd hE (by simp)
theorem g_crash : q_MSW mL_crash 3 := ⟨⟨_, _, rfl⟩, fL_crash.1, ⟨by decide, by decide⟩, by decide +kernel, by decide, List.mem_filter.mpr ⟨List.mem_append_right _ (List.mem_append_left _ (List.mem_of_getElem? (i := 0) rfl)), rfl⟩, fL_crash.2⟩
set_option maxRecDepth 20000 in
set_option maxHeartbeats 4000000 in
theorem c_recover (F : List qE) (out : Nat → Int64) {n : Nat} {A : qA} (hG : GA n A) {o : List qE} {w : Fin 16 → qw} (hA : RA A o w) {x : Int32} {code : Nat} {v : Int32} {A2 : qA} (hS : S_recover A x code v A2) : Ct mL_recover 8 1 6 [qR 0 0, qI x, qR 12 0] 132 (hL o w F out) (WP A2 F code v.toInt64) qNo := by
  refine ct_ofH (by decide +kernel) rfl rfl (Nat.le_of_ble_eq_true rfl) ?_
  show Ev mL_recover 8 0 [some (qR 0 0), some (qI x), some (qR 12 0), none] [] 132 (hL o w F out) 1 6 _ _
  refine e_aload2 dL_recover_0 ?_
  refine e_iconst (z := 0) dL_recover_1 ?_
  refine e_aload0 dL_recover_2 ?_
  refine e_iload1 dL_recover_3 ?_
  refine e_callCl (as := [qI x]) (k_recover (h1 F out) hG hA hS) hA fX2_recover lkL_37 rfl dL_recover_4 rfl (by decide) (Nat.le_of_ble_eq_true rfl) (by decide) (by decide) (fun hc0 o2 w2 hA2 => ?_) (fun j E hj hE => ?_)
  · refine e_i2l dL_recover_7 ?_
    refine e_stOut dL_recover_8 (fun out2 ho => ?_)
    refine e_goto 18 dL_recover_9 (by decide) ?_
    refine e_iconst (z := 0) dL_recover_18 ?_
    refine e_iret dL_recover_19 rfl ?_
    exact ⟨_, _, _, by rw [hc0], rfl, hA2, fun _ => ho, rfl⟩
  · match j, hj, hE with
    | 0, hj, hE =>
      obtain rfl := Option.some.inj hE
      refine ⟨3, 13, ⟨[], ⟨0, 9, 12, 13⟩, [⟨0, 9, 15, 17⟩], _, rfl, (fun z hz => absurd hz (by simp)), by decide, by decide, w_L13, List.mem_of_getElem? (i := 5) rfl, Or.inl ⟨3, rfl, dL_recover_12, rfl⟩⟩, rfl, by decide, fun o2 w2 hA2 => ?_⟩
      refine e_iconst (z := 1) dL_recover_13 ?_
      refine e_iret dL_recover_14 rfl ?_
      exact ⟨_, _, _, by rw [hj], rfl, hA2, fun q => absurd q (by omega), rfl⟩
    | 1, hj, hE =>
      obtain rfl := Option.some.inj hE
      refine ⟨3, 16, ⟨[⟨0, 9, 12, 13⟩], ⟨0, 9, 15, 17⟩, [], _, rfl, (fun z hz => by
          rcases List.mem_singleton.mp hz with rfl
          · exact Or.inr ⟨by decide, _, w_L13, List.mem_of_getElem? (i := 1) rfl⟩), by decide, by decide, w_L17, List.mem_of_getElem? (i := 14) rfl, Or.inl ⟨3, rfl, dL_recover_15, rfl⟩⟩, rfl, by decide, fun o2 w2 hA2 => ?_⟩
      refine e_iconst (z := 2) dL_recover_16 ?_
      refine e_iret dL_recover_17 rfl ?_
      exact ⟨_, _, _, by rw [hj], rfl, hA2, fun q => absurd q (by omega), rfl⟩
    | j + 2, hj, hE => exact absurd hE (by simp)
theorem g_recover : q_MSW mL_recover 3 := ⟨⟨_, _, rfl⟩, fL_recover.1, ⟨by decide, by decide⟩, by decide +kernel, by decide, List.mem_filter.mpr ⟨List.mem_append_right _ (List.mem_append_left _ (List.mem_of_getElem? (i := 0) rfl)), rfl⟩, fL_recover.2⟩
set_option maxRecDepth 20000 in
set_option maxHeartbeats 4000000 in
theorem c_append (F : List qE) (out : Nat → Int64) {n : Nat} {A : qA} (hG : GA n A) {o : List qE} {w : Fin 16 → qw} (hA : RA A o w) {x : Int32} {code : Nat} {v : Int32} {A2 : qA} (hS : S_append A x code v A2) : Ct mL_append 8 1 6 [qR 0 0, qI x, qR 12 0] 132 (hL o w F out) (WP A2 F code v.toInt64) qNo := by
  refine ct_ofH (by decide +kernel) rfl rfl (Nat.le_of_ble_eq_true rfl) ?_
  show Ev mL_append 8 0 [some (qR 0 0), some (qI x), some (qR 12 0), none] [] 132 (hL o w F out) 1 6 _ _
  refine e_aload2 dL_append_0 ?_
  refine e_iconst (z := 0) dL_append_1 ?_
  refine e_aload0 dL_append_2 ?_
  refine e_iload1 dL_append_3 ?_
  refine e_callCl (as := [qI x]) (k_append (h1 F out) hG hA hS) hA fX2_append lkL_40 rfl dL_append_4 rfl (by decide) (Nat.le_of_ble_eq_true rfl) (by decide) (by decide) (fun hc0 o2 w2 hA2 => ?_) (fun j E hj hE => ?_)
  · refine e_i2l dL_append_7 ?_
    refine e_stOut dL_append_8 (fun out2 ho => ?_)
    refine e_goto 18 dL_append_9 (by decide) ?_
    refine e_iconst (z := 0) dL_append_18 ?_
    refine e_iret dL_append_19 rfl ?_
    exact ⟨_, _, _, by rw [hc0], rfl, hA2, fun _ => ho, rfl⟩
  · match j, hj, hE with
    | 0, hj, hE =>
      obtain rfl := Option.some.inj hE
      refine ⟨3, 13, ⟨[], ⟨0, 9, 12, 15⟩, [⟨0, 9, 15, 17⟩], _, rfl, (fun z hz => absurd hz (by simp)), by decide, by decide, w_L15, List.mem_of_getElem? (i := 12) rfl, Or.inl ⟨3, rfl, dL_append_12, rfl⟩⟩, rfl, by decide, fun o2 w2 hA2 => ?_⟩
      refine e_iconst (z := 1) dL_append_13 ?_
      refine e_iret dL_append_14 rfl ?_
      exact ⟨_, _, _, by rw [hj], rfl, hA2, fun q => absurd q (by omega), rfl⟩
    | 1, hj, hE =>
      obtain rfl := Option.some.inj hE
      refine ⟨3, 16, ⟨[⟨0, 9, 12, 15⟩], ⟨0, 9, 15, 17⟩, [], _, rfl, (fun z hz => by
          rcases List.mem_singleton.mp hz with rfl
          · exact Or.inr ⟨by decide, _, w_L15, List.mem_of_getElem? (i := 2) rfl⟩), by decide, by decide, w_L17, List.mem_of_getElem? (i := 14) rfl, Or.inl ⟨3, rfl, dL_append_15, rfl⟩⟩, rfl, by decide, fun o2 w2 hA2 => ?_⟩
      refine e_iconst (z := 2) dL_append_16 ?_
      refine e_iret dL_append_17 rfl ?_
      exact ⟨_, _, _, by rw [hj], rfl, hA2, fun q => absurd q (by omega), rfl⟩
    | j + 2, hj, hE => exact absurd hE (by simp)
theorem g_append : q_MSW mL_append 3 := ⟨⟨_, _, rfl⟩, fL_append.1, ⟨by decide, by decide⟩, by decide +kernel, by decide, List.mem_filter.mpr ⟨List.mem_append_right _ (List.mem_append_left _ (List.mem_of_getElem? (i := 0) rfl)), rfl⟩, fL_append.2⟩
set_option maxRecDepth 20000 in
set_option maxHeartbeats 4000000 in
theorem c_runCourse (F : List qE) (out : Nat → Int64) {n : Nat} {A : qA} (hG : GA n A) {o : List qE} {w : Fin 16 → qw} (hA : RA A o w) {code : Nat} {v : Int32} {A2 : qA} (hS : S_runCourse A code v A2) : Ct mL_runCourse 8 1 6 [qR 0 0, qR 12 0] 132 (hL o w F out) (WP A2 F code v.toInt64) qNo := by
  refine ct_ofH (by decide +kernel) rfl rfl (Nat.le_of_ble_eq_true rfl) ?_
  show Ev mL_runCourse 8 0 [some (qR 0 0), some (qR 12 0), none] [] 132 (hL o w F out) 1 6 _ _
  refine e_aload1 dL_runCourse_0 ?_
  refine e_iconst (z := 0) dL_runCourse_1 ?_
  refine e_aload0 dL_runCourse_2 ?_
  refine e_callCl (as := []) (k_runCourse (h1 F out) hG hA hS) hA fX2_runCourse lkL_43 rfl dL_runCourse_3 rfl (by decide) (Nat.le_of_ble_eq_true rfl) (by decide) (by decide) (fun hc0 o2 w2 hA2 => ?_) (fun j E hj hE => ?_)
  · refine e_i2l dL_runCourse_6 ?_
    refine e_stOut dL_runCourse_7 (fun out2 ho => ?_)
    refine e_goto 14 dL_runCourse_8 (by decide) ?_
    refine e_iconst (z := 0) dL_runCourse_14 ?_
    refine e_iret dL_runCourse_15 rfl ?_
    exact ⟨_, _, _, by rw [hc0], rfl, hA2, fun _ => ho, rfl⟩
  · match j, hj, hE with
    | 0, hj, hE =>
      obtain rfl := Option.some.inj hE
      refine ⟨2, 12, ⟨[], ⟨0, 8, 11, 15⟩, [], _, rfl, (fun z hz => absurd hz (by simp)), by decide, by decide, w_L15, List.mem_of_getElem? (i := 12) rfl, Or.inl ⟨2, rfl, dL_runCourse_11, rfl⟩⟩, rfl, by decide, fun o2 w2 hA2 => ?_⟩
      refine e_iconst (z := 1) dL_runCourse_12 ?_
      refine e_iret dL_runCourse_13 rfl ?_
      exact ⟨_, _, _, by rw [hj], rfl, hA2, fun q => absurd q (by omega), rfl⟩
    | j + 1, hj, hE => exact absurd hE (by simp)
theorem g_runCourse : q_MSW mL_runCourse 2 := ⟨⟨_, _, rfl⟩, fL_runCourse.1, ⟨by decide, by decide⟩, by decide +kernel, by decide, List.mem_filter.mpr ⟨List.mem_append_right _ (List.mem_append_left _ (List.mem_of_getElem? (i := 0) rfl)), rfl⟩, fL_runCourse.2⟩
set_option maxRecDepth 20000 in
set_option maxHeartbeats 4000000 in
theorem c_goBack (F : List qE) (out : Nat → Int64) {n : Nat} {A : qA} (hG : GA n A) {o : List qE} {w : Fin 16 → qw} (hA : RA A o w) {code : Nat} {v : Int32} {A2 : qA} (hS : S_goBack A code v A2) : Ct mL_goBack 8 1 6 [qR 0 0, qR 12 0] 132 (hL o w F out) (WP A2 F code v.toInt64) qNo := by
  refine ct_ofH (by decide +kernel) rfl rfl (Nat.le_of_ble_eq_true rfl) ?_
  show Ev mL_goBack 8 0 [some (qR 0 0), some (qR 12 0), none] [] 132 (hL o w F out) 1 6 _ _
  refine e_aload1 dL_goBack_0 ?_
  refine e_iconst (z := 0) dL_goBack_1 ?_
  refine e_aload0 dL_goBack_2 ?_
  refine e_callCl (as := []) (k_goBack (h1 F out) hG hA hS) hA fX2_goBack lkL_47 rfl dL_goBack_3 rfl (by decide) (Nat.le_of_ble_eq_true rfl) (by decide) (by decide) (fun hc0 o2 w2 hA2 => ?_) (fun j E hj hE => ?_)
  · refine e_i2l dL_goBack_6 ?_
    refine e_stOut dL_goBack_7 (fun out2 ho => ?_)
    refine e_goto 14 dL_goBack_8 (by decide) ?_
    refine e_iconst (z := 0) dL_goBack_14 ?_
    refine e_iret dL_goBack_15 rfl ?_
    exact ⟨_, _, _, by rw [hc0], rfl, hA2, fun _ => ho, rfl⟩
  · match j, hj, hE with
    | 0, hj, hE =>
      obtain rfl := Option.some.inj hE
      refine ⟨2, 12, ⟨[], ⟨0, 8, 11, 17⟩, [], _, rfl, (fun z hz => absurd hz (by simp)), by decide, by decide, w_L17, List.mem_of_getElem? (i := 14) rfl, Or.inl ⟨2, rfl, dL_goBack_11, rfl⟩⟩, rfl, by decide, fun o2 w2 hA2 => ?_⟩
      refine e_iconst (z := 1) dL_goBack_12 ?_
      refine e_iret dL_goBack_13 rfl ?_
      exact ⟨_, _, _, by rw [hj], rfl, hA2, fun q => absurd q (by omega), rfl⟩
    | j + 1, hj, hE => exact absurd hE (by simp)
theorem g_goBack : q_MSW mL_goBack 2 := ⟨⟨_, _, rfl⟩, fL_goBack.1, ⟨by decide, by decide⟩, by decide +kernel, by decide, List.mem_filter.mpr ⟨List.mem_append_right _ (List.mem_append_left _ (List.mem_of_getElem? (i := 0) rfl)), rfl⟩, fL_goBack.2⟩
set_option maxRecDepth 20000 in
set_option maxHeartbeats 4000000 in
theorem c_undo (F : List qE) (out : Nat → Int64) {n : Nat} {A : qA} (hG : GA n A) {o : List qE} {w : Fin 16 → qw} (hA : RA A o w) {code : Nat} {v : Int32} {A2 : qA} (hS : S_undo A code v A2) : Ct mL_undo 8 1 6 [qR 0 0, qR 12 0] 132 (hL o w F out) (WP A2 F code v.toInt64) qNo := by
  refine ct_ofH (by decide +kernel) rfl rfl (Nat.le_of_ble_eq_true rfl) ?_
  show Ev mL_undo 8 0 [some (qR 0 0), some (qR 12 0), none] [] 132 (hL o w F out) 1 6 _ _
  refine e_aload1 dL_undo_0 ?_
  refine e_iconst (z := 0) dL_undo_1 ?_
  refine e_aload0 dL_undo_2 ?_
  refine e_callCl (as := []) (k_undo (h1 F out) hG hA hS) hA fX2_undo lkL_50 rfl dL_undo_3 rfl (by decide) (Nat.le_of_ble_eq_true rfl) (by decide) (by decide) (fun hc0 o2 w2 hA2 => ?_) (fun j E hj hE => ?_)
  · refine e_i2l dL_undo_6 ?_
    refine e_stOut dL_undo_7 (fun out2 ho => ?_)
    refine e_goto 14 dL_undo_8 (by decide) ?_
    refine e_iconst (z := 0) dL_undo_14 ?_
    refine e_iret dL_undo_15 rfl ?_
    exact ⟨_, _, _, by rw [hc0], rfl, hA2, fun _ => ho, rfl⟩
  · match j, hj, hE with
    | 0, hj, hE =>
      obtain rfl := Option.some.inj hE
      refine ⟨2, 12, ⟨[], ⟨0, 8, 11, 17⟩, [], _, rfl, (fun z hz => absurd hz (by simp)), by decide, by decide, w_L17, List.mem_of_getElem? (i := 14) rfl, Or.inl ⟨2, rfl, dL_undo_11, rfl⟩⟩, rfl, by decide, fun o2 w2 hA2 => ?_⟩
      refine e_iconst (z := 1) dL_undo_12 ?_
      refine e_iret dL_undo_13 rfl ?_
      exact ⟨_, _, _, by rw [hj], rfl, hA2, fun q => absurd q (by omega), rfl⟩
    | j + 1, hj, hE => exact absurd hE (by simp)
theorem g_undo : q_MSW mL_undo 2 := ⟨⟨_, _, rfl⟩, fL_undo.1, ⟨by decide, by decide⟩, by decide +kernel, by decide, List.mem_filter.mpr ⟨List.mem_append_right _ (List.mem_append_left _ (List.mem_of_getElem? (i := 0) rfl)), rfl⟩, fL_undo.2⟩
set_option maxRecDepth 20000 in
set_option maxHeartbeats 4000000 in
theorem c_partners (F : List qE) (out : Nat → Int64) {n : Nat} {A : qA} (hG : GA n A) {o : List qE} {w : Fin 16 → qw} (hA : RA A o w) {x : Int32} {code : Nat} {v : Int32} {A2 : qA} (hS : S_partners A x code v A2) : Ct mL_partners 8 1 6 [qR 0 0, qI x, qR 12 0] 132 (hL o w F out) (WP A2 F code v.toInt64) qNo := by
  refine ct_ofH (by decide +kernel) rfl rfl (Nat.le_of_ble_eq_true rfl) ?_
  show Ev mL_partners 8 0 [some (qR 0 0), some (qI x), some (qR 12 0), none] [] 132 (hL o w F out) 1 6 _ _
  refine e_aload2 dL_partners_0 ?_
  refine e_iconst (z := 0) dL_partners_1 ?_
  refine e_aload0 dL_partners_2 ?_
  refine e_iload1 dL_partners_3 ?_
  refine e_callCl (as := [qI x]) (k_partners (h1 F out) hG hA hS) hA fX2_partners lkL_53 rfl dL_partners_4 rfl (by decide) (Nat.le_of_ble_eq_true rfl) (by decide) (by decide) (fun hc0 o2 w2 hA2 => ?_) (fun j E hj hE => ?_)
  · refine e_i2l dL_partners_7 ?_
    refine e_stOut dL_partners_8 (fun out2 ho => ?_)
    refine e_goto 15 dL_partners_9 (by decide) ?_
    refine e_iconst (z := 0) dL_partners_15 ?_
    refine e_iret dL_partners_16 rfl ?_
    exact ⟨_, _, _, by rw [hc0], rfl, hA2, fun _ => ho, rfl⟩
  · match j, hj, hE with
    | 0, hj, hE =>
      obtain rfl := Option.some.inj hE
      refine ⟨3, 13, ⟨[], ⟨0, 9, 12, 13⟩, [], _, rfl, (fun z hz => absurd hz (by simp)), by decide, by decide, w_L13, List.mem_of_getElem? (i := 5) rfl, Or.inl ⟨3, rfl, dL_partners_12, rfl⟩⟩, rfl, by decide, fun o2 w2 hA2 => ?_⟩
      refine e_iconst (z := 1) dL_partners_13 ?_
      refine e_iret dL_partners_14 rfl ?_
      exact ⟨_, _, _, by rw [hj], rfl, hA2, fun q => absurd q (by omega), rfl⟩
    | j + 1, hj, hE => exact absurd hE (by simp)
theorem g_partners : q_MSW mL_partners 3 := ⟨⟨_, _, rfl⟩, fL_partners.1, ⟨by decide, by decide⟩, by decide +kernel, by decide, List.mem_filter.mpr ⟨List.mem_append_right _ (List.mem_append_left _ (List.mem_of_getElem? (i := 0) rfl)), rfl⟩, fL_partners.2⟩
set_option maxRecDepth 20000 in
set_option maxHeartbeats 4000000 in
theorem c_share (F : List qE) (out : Nat → Int64) {n : Nat} {A : qA} (hG : GA n A) {o : List qE} {w : Fin 16 → qw} (hA : RA A o w) {x y : Int32} {code : Nat} {v : Int32} {A2 : qA} (hS : S_share A x y code v A2) : Ct mL_share 8 1 6 [qR 0 0, qI x, qI y, qR 12 0] 132 (hL o w F out) (WP A2 F code v.toInt64) qNo := by
  refine ct_ofH (by decide +kernel) rfl rfl (Nat.le_of_ble_eq_true rfl) ?_
  show Ev mL_share 8 0 [some (qR 0 0), some (qI x), some (qI y), some (qR 12 0), none] [] 132 (hL o w F out) 1 6 _ _
  refine e_aload3 dL_share_0 ?_
  refine e_iconst (z := 0) dL_share_1 ?_
  refine e_aload0 dL_share_2 ?_
  refine e_iload1 dL_share_3 ?_
  refine e_iload2 dL_share_4 ?_
  refine e_callCl (as := [qI x, qI y]) (k_share (h1 F out) hG hA hS) hA fX2_share lkL_56 rfl dL_share_5 rfl (by decide) (Nat.le_of_ble_eq_true rfl) (by decide) (by decide) (fun hc0 o2 w2 hA2 => ?_) (fun j E hj hE => ?_)
  · refine e_i2l dL_share_8 ?_
    refine e_stOut dL_share_9 (fun out2 ho => ?_)
    refine e_goto 17 dL_share_10 (by decide) ?_
    refine e_iconst (z := 0) dL_share_17 ?_
    refine e_iret dL_share_18 rfl ?_
    exact ⟨_, _, _, by rw [hc0], rfl, hA2, fun _ => ho, rfl⟩
  · match j, hj, hE with
    | 0, hj, hE =>
      obtain rfl := Option.some.inj hE
      refine ⟨4, 15, ⟨[], ⟨0, 10, 13, 13⟩, [], _, rfl, (fun z hz => absurd hz (by simp)), by decide, by decide, w_L13, List.mem_of_getElem? (i := 5) rfl, Or.inr ⟨dL_share_13, rfl⟩⟩, rfl, by decide, fun o2 w2 hA2 => ?_⟩
      refine e_iconst (z := 1) dL_share_15 ?_
      refine e_iret dL_share_16 rfl ?_
      exact ⟨_, _, _, by rw [hj], rfl, hA2, fun q => absurd q (by omega), rfl⟩
    | j + 1, hj, hE => exact absurd hE (by simp)
theorem g_share : q_MSW mL_share 4 := ⟨⟨_, _, rfl⟩, fL_share.1, ⟨by decide, by decide⟩, by decide +kernel, by decide, List.mem_filter.mpr ⟨List.mem_append_right _ (List.mem_append_left _ (List.mem_of_getElem? (i := 0) rfl)), rfl⟩, fL_share.2⟩
set_option maxRecDepth 20000 in
set_option maxHeartbeats 4000000 in
theorem c_isUp (F : List qE) (out : Nat → Int64) {n : Nat} {A : qA} (hG : GA n A) {o : List qE} {w : Fin 16 → qw} (hA : RA A o w) {x : Int32} {code : Nat} {v : Int32} {A2 : qA} (hS : S_isUp A x code v A2) : Ct mL_isUp 8 1 6 [qR 0 0, qI x, qR 12 0] 132 (hL o w F out) (WP A2 F code (if v = 0 then 0 else 1)) qNo := by
  refine ct_ofH (by decide +kernel) rfl rfl (Nat.le_of_ble_eq_true rfl) ?_
  show Ev mL_isUp 8 0 [some (qR 0 0), some (qI x), some (qR 12 0), none] [] 132 (hL o w F out) 1 6 _ _
  refine e_aload2 dL_isUp_0 ?_
  refine e_iconst (z := 0) dL_isUp_1 ?_
  refine e_aload0 dL_isUp_2 ?_
  refine e_iload1 dL_isUp_3 ?_
  refine e_callCl (as := [qI x]) (k_isUp (h1 F out) hG hA hS) hA fX2_isUp lkL_59 rfl dL_isUp_4 rfl (by decide) (Nat.le_of_ble_eq_true rfl) (by decide) (by decide) (fun hc0 o2 w2 hA2 => ?_) (fun j E hj hE => ?_)
  · refine e_if_eq 14 dL_isUp_7 (by decide) (fun hq => ?_) (fun hq => ?_)
    · refine e_lconst (v := 0) dL_isUp_14 (by decide) ?_
      refine e_stOut dL_isUp_15 (fun out2 ho => ?_)
      refine e_goto 22 dL_isUp_16 (by decide) ?_
      refine e_iconst (z := 0) dL_isUp_22 ?_
      refine e_iret dL_isUp_23 rfl ?_
      exact ⟨_, _, _, by rw [hc0], rfl, hA2, fun _ => by rw [ho, if_pos hq], rfl⟩
    · refine e_lconst (v := 1) dL_isUp_10 (by decide) ?_
      refine e_goto 15 dL_isUp_11 (by decide) ?_
      refine e_stOut dL_isUp_15 (fun out2 ho => ?_)
      refine e_goto 22 dL_isUp_16 (by decide) ?_
      refine e_iconst (z := 0) dL_isUp_22 ?_
      refine e_iret dL_isUp_23 rfl ?_
      exact ⟨_, _, _, by rw [hc0], rfl, hA2, fun _ => by rw [ho, if_neg hq], rfl⟩
  · match j, hj, hE with
    | 0, hj, hE =>
      obtain rfl := Option.some.inj hE
      refine ⟨3, 20, ⟨[], ⟨0, 16, 19, 13⟩, [], _, rfl, (fun z hz => absurd hz (by simp)), by decide, by decide, w_L13, List.mem_of_getElem? (i := 5) rfl, Or.inl ⟨3, rfl, dL_isUp_19, rfl⟩⟩, rfl, by decide, fun o2 w2 hA2 => ?_⟩
      refine e_iconst (z := 1) dL_isUp_20 ?_
      refine e_iret dL_isUp_21 rfl ?_
      exact ⟨_, _, _, by rw [hj], rfl, hA2, fun q => absurd q (by omega), rfl⟩
    | j + 1, hj, hE => exact absurd hE (by simp)
theorem g_isUp : q_MSW mL_isUp 3 := ⟨⟨_, _, rfl⟩, fL_isUp.1, ⟨by decide, by decide⟩, by decide +kernel, by decide, List.mem_filter.mpr ⟨List.mem_append_right _ (List.mem_append_left _ (List.mem_of_getElem? (i := 0) rfl)), rfl⟩, fL_isUp.2⟩
set_option maxRecDepth 20000 in
set_option maxHeartbeats 4000000 in
theorem c_amount (F : List qE) (out : Nat → Int64) {n : Nat} {A : qA} (hG : GA n A) {o : List qE} {w : Fin 16 → qw} (hA : RA A o w) {x : Int32} {code : Nat} {v : Int32} {A2 : qA} (hS : S_amount A x code v A2) : Ct mL_amount 8 1 6 [qR 0 0, qI x, qR 12 0] 132 (hL o w F out) (WP A2 F code v.toInt64) qNo := by
  refine ct_ofH (by decide +kernel) rfl rfl (Nat.le_of_ble_eq_true rfl) ?_
  show Ev mL_amount 8 0 [some (qR 0 0), some (qI x), some (qR 12 0), none] [] 132 (hL o w F out) 1 6 _ _
  refine e_aload2 dL_amount_0 ?_
  refine e_iconst (z := 0) dL_amount_1 ?_
  refine e_aload0 dL_amount_2 ?_
  refine e_iload1 dL_amount_3 ?_
  refine e_callCl (as := [qI x]) (k_amount (h1 F out) hG hA hS) hA fX2_amount lkL_62 rfl dL_amount_4 rfl (by decide) (Nat.le_of_ble_eq_true rfl) (by decide) (by decide) (fun hc0 o2 w2 hA2 => ?_) (fun j E hj hE => ?_)
  · refine e_i2l dL_amount_7 ?_
    refine e_stOut dL_amount_8 (fun out2 ho => ?_)
    refine e_goto 15 dL_amount_9 (by decide) ?_
    refine e_iconst (z := 0) dL_amount_15 ?_
    refine e_iret dL_amount_16 rfl ?_
    exact ⟨_, _, _, by rw [hc0], rfl, hA2, fun _ => ho, rfl⟩
  · match j, hj, hE with
    | 0, hj, hE =>
      obtain rfl := Option.some.inj hE
      refine ⟨3, 13, ⟨[], ⟨0, 9, 12, 13⟩, [], _, rfl, (fun z hz => absurd hz (by simp)), by decide, by decide, w_L13, List.mem_of_getElem? (i := 5) rfl, Or.inl ⟨3, rfl, dL_amount_12, rfl⟩⟩, rfl, by decide, fun o2 w2 hA2 => ?_⟩
      refine e_iconst (z := 1) dL_amount_13 ?_
      refine e_iret dL_amount_14 rfl ?_
      exact ⟨_, _, _, by rw [hj], rfl, hA2, fun q => absurd q (by omega), rfl⟩
    | j + 1, hj, hE => exact absurd hE (by simp)
theorem g_amount : q_MSW mL_amount 3 := ⟨⟨_, _, rfl⟩, fL_amount.1, ⟨by decide, by decide⟩, by decide +kernel, by decide, List.mem_filter.mpr ⟨List.mem_append_right _ (List.mem_append_left _ (List.mem_of_getElem? (i := 0) rfl)), rfl⟩, fL_amount.2⟩
set_option maxRecDepth 20000 in
set_option maxHeartbeats 4000000 in
theorem c_amountByLog (F : List qE) (out : Nat → Int64) {n : Nat} {A : qA} (hG : GA n A) {o : List qE} {w : Fin 16 → qw} (hA : RA A o w) {x : Int32} {code : Nat} {v : Int32} {A2 : qA} (hS : S_amountByLog A x code v A2) : Ct mL_amountByLog 8 1 6 [qR 0 0, qI x, qR 12 0] 132 (hL o w F out) (WP A2 F code v.toInt64) qNo := by
  refine ct_ofH (by decide +kernel) rfl rfl (Nat.le_of_ble_eq_true rfl) ?_
  show Ev mL_amountByLog 8 0 [some (qR 0 0), some (qI x), some (qR 12 0), none] [] 132 (hL o w F out) 1 6 _ _
  refine e_aload2 dL_amountByLog_0 ?_
  refine e_iconst (z := 0) dL_amountByLog_1 ?_
  refine e_aload0 dL_amountByLog_2 ?_
  refine e_iload1 dL_amountByLog_3 ?_
  refine e_callCl (as := [qI x]) (k_amountByLog (h1 F out) hG hA hS) hA fX2_amountByLog lkL_65 rfl dL_amountByLog_4 rfl (by decide) (Nat.le_of_ble_eq_true rfl) (by decide) (by decide) (fun hc0 o2 w2 hA2 => ?_) (fun j E hj hE => ?_)
  · refine e_i2l dL_amountByLog_7 ?_
    refine e_stOut dL_amountByLog_8 (fun out2 ho => ?_)
    refine e_goto 15 dL_amountByLog_9 (by decide) ?_
    refine e_iconst (z := 0) dL_amountByLog_15 ?_
    refine e_iret dL_amountByLog_16 rfl ?_
    exact ⟨_, _, _, by rw [hc0], rfl, hA2, fun _ => ho, rfl⟩
  · match j, hj, hE with
    | 0, hj, hE =>
      obtain rfl := Option.some.inj hE
      refine ⟨3, 13, ⟨[], ⟨0, 9, 12, 13⟩, [], _, rfl, (fun z hz => absurd hz (by simp)), by decide, by decide, w_L13, List.mem_of_getElem? (i := 5) rfl, Or.inl ⟨3, rfl, dL_amountByLog_12, rfl⟩⟩, rfl, by decide, fun o2 w2 hA2 => ?_⟩
      refine e_iconst (z := 1) dL_amountByLog_13 ?_
      refine e_iret dL_amountByLog_14 rfl ?_
      exact ⟨_, _, _, by rw [hj], rfl, hA2, fun q => absurd q (by omega), rfl⟩
    | j + 1, hj, hE => exact absurd hE (by simp)
theorem g_amountByLog : q_MSW mL_amountByLog 3 := ⟨⟨_, _, rfl⟩, fL_amountByLog.1, ⟨by decide, by decide⟩, by decide +kernel, by decide, List.mem_filter.mpr ⟨List.mem_append_right _ (List.mem_append_left _ (List.mem_of_getElem? (i := 0) rfl)), rfl⟩, fL_amountByLog.2⟩
set_option maxRecDepth 20000 in
set_option maxHeartbeats 4000000 in
theorem c_state (F : List qE) (out : Nat → Int64) {n : Nat} {A : qA} (hG : GA n A) {o : List qE} {w : Fin 16 → qw} (hA : RA A o w) {x y : Int32} {code : Nat} {v : Int32} {A2 : qA} (hS : S_state A x y code v A2) : Ct mL_state 8 1 6 [qR 0 0, qI x, qI y, qR 12 0] 132 (hL o w F out) (WP A2 F code v.toInt64) qNo := by
  refine ct_ofH (by decide +kernel) rfl rfl (Nat.le_of_ble_eq_true rfl) ?_
  show Ev mL_state 8 0 [some (qR 0 0), some (qI x), some (qI y), some (qR 12 0), none] [] 132 (hL o w F out) 1 6 _ _
  refine e_aload3 dL_state_0 ?_
  refine e_iconst (z := 0) dL_state_1 ?_
  refine e_aload0 dL_state_2 ?_
  refine e_iload1 dL_state_3 ?_
  refine e_iload2 dL_state_4 ?_
  refine e_callCl (as := [qI x, qI y]) (k_state (h1 F out) hG hA hS) hA fX2_state lkL_68 rfl dL_state_5 rfl (by decide) (Nat.le_of_ble_eq_true rfl) (by decide) (by decide) (fun hc0 o2 w2 hA2 => ?_) (fun j E hj hE => ?_)
  · refine e_i2l dL_state_8 ?_
    refine e_stOut dL_state_9 (fun out2 ho => ?_)
    refine e_goto 17 dL_state_10 (by decide) ?_
    refine e_iconst (z := 0) dL_state_17 ?_
    refine e_iret dL_state_18 rfl ?_
    exact ⟨_, _, _, by rw [hc0], rfl, hA2, fun _ => ho, rfl⟩
  · match j, hj, hE with
    | 0, hj, hE =>
      obtain rfl := Option.some.inj hE
      refine ⟨4, 15, ⟨[], ⟨0, 10, 13, 13⟩, [], _, rfl, (fun z hz => absurd hz (by simp)), by decide, by decide, w_L13, List.mem_of_getElem? (i := 5) rfl, Or.inr ⟨dL_state_13, rfl⟩⟩, rfl, by decide, fun o2 w2 hA2 => ?_⟩
      refine e_iconst (z := 1) dL_state_15 ?_
      refine e_iret dL_state_16 rfl ?_
      exact ⟨_, _, _, by rw [hj], rfl, hA2, fun q => absurd q (by omega), rfl⟩
    | j + 1, hj, hE => exact absurd hE (by simp)
theorem g_state : q_MSW mL_state 4 := ⟨⟨_, _, rfl⟩, fL_state.1, ⟨by decide, by decide⟩, by decide +kernel, by decide, List.mem_filter.mpr ⟨List.mem_append_right _ (List.mem_append_left _ (List.mem_of_getElem? (i := 0) rfl)), rfl⟩, fL_state.2⟩
set_option maxRecDepth 20000 in
set_option maxHeartbeats 4000000 in
theorem c_stateByLog (F : List qE) (out : Nat → Int64) {n : Nat} {A : qA} (hG : GA n A) {o : List qE} {w : Fin 16 → qw} (hA : RA A o w) {x y : Int32} {code : Nat} {v : Int32} {A2 : qA} (hS : S_stateByLog A x y code v A2) : Ct mL_stateByLog 8 1 6 [qR 0 0, qI x, qI y, qR 12 0] 132 (hL o w F out) (WP A2 F code v.toInt64) qNo := by
  refine ct_ofH (by decide +kernel) rfl rfl (Nat.le_of_ble_eq_true rfl) ?_
  show Ev mL_stateByLog 8 0 [some (qR 0 0), some (qI x), some (qI y), some (qR 12 0), none] [] 132 (hL o w F out) 1 6 _ _
  refine e_aload3 dL_stateByLog_0 ?_
  refine e_iconst (z := 0) dL_stateByLog_1 ?_
  refine e_aload0 dL_stateByLog_2 ?_
  refine e_iload1 dL_stateByLog_3 ?_
  refine e_iload2 dL_stateByLog_4 ?_
  refine e_callCl (as := [qI x, qI y]) (k_stateByLog (h1 F out) hG hA hS) hA fX2_stateByLog lkL_71 rfl dL_stateByLog_5 rfl (by decide) (Nat.le_of_ble_eq_true rfl) (by decide) (by decide) (fun hc0 o2 w2 hA2 => ?_) (fun j E hj hE => ?_)
  · refine e_i2l dL_stateByLog_8 ?_
    refine e_stOut dL_stateByLog_9 (fun out2 ho => ?_)
    refine e_goto 17 dL_stateByLog_10 (by decide) ?_
    refine e_iconst (z := 0) dL_stateByLog_17 ?_
    refine e_iret dL_stateByLog_18 rfl ?_
    exact ⟨_, _, _, by rw [hc0], rfl, hA2, fun _ => ho, rfl⟩
  · match j, hj, hE with
    | 0, hj, hE =>
      obtain rfl := Option.some.inj hE
      refine ⟨4, 15, ⟨[], ⟨0, 10, 13, 13⟩, [], _, rfl, (fun z hz => absurd hz (by simp)), by decide, by decide, w_L13, List.mem_of_getElem? (i := 5) rfl, Or.inr ⟨dL_stateByLog_13, rfl⟩⟩, rfl, by decide, fun o2 w2 hA2 => ?_⟩
      refine e_iconst (z := 1) dL_stateByLog_15 ?_
      refine e_iret dL_stateByLog_16 rfl ?_
      exact ⟨_, _, _, by rw [hj], rfl, hA2, fun q => absurd q (by omega), rfl⟩
    | j + 1, hj, hE => exact absurd hE (by simp)
theorem g_stateByLog : q_MSW mL_stateByLog 4 := ⟨⟨_, _, rfl⟩, fL_stateByLog.1, ⟨by decide, by decide⟩, by decide +kernel, by decide, List.mem_filter.mpr ⟨List.mem_append_right _ (List.mem_append_left _ (List.mem_of_getElem? (i := 0) rfl)), rfl⟩, fL_stateByLog.2⟩
set_option maxRecDepth 20000 in
set_option maxHeartbeats 4000000 in
theorem c_inDoubt (F : List qE) (out : Nat → Int64) {n : Nat} {A : qA} (hG : GA n A) {o : List qE} {w : Fin 16 → qw} (hA : RA A o w) {x : Int32} {code : Nat} {v : Int32} {A2 : qA} (hS : S_inDoubt A x code v A2) : Ct mL_inDoubt 8 1 6 [qR 0 0, qI x, qR 12 0] 132 (hL o w F out) (WP A2 F code v.toInt64) qNo := by
  refine ct_ofH (by decide +kernel) rfl rfl (Nat.le_of_ble_eq_true rfl) ?_
  show Ev mL_inDoubt 8 0 [some (qR 0 0), some (qI x), some (qR 12 0), none] [] 132 (hL o w F out) 1 6 _ _
  refine e_aload2 dL_inDoubt_0 ?_
  refine e_iconst (z := 0) dL_inDoubt_1 ?_
  refine e_aload0 dL_inDoubt_2 ?_
  refine e_iload1 dL_inDoubt_3 ?_
  refine e_callCl (as := [qI x]) (k_inDoubt (h1 F out) hG hA hS) hA fX2_inDoubt lkL_74 rfl dL_inDoubt_4 rfl (by decide) (Nat.le_of_ble_eq_true rfl) (by decide) (by decide) (fun hc0 o2 w2 hA2 => ?_) (fun j E hj hE => ?_)
  · refine e_i2l dL_inDoubt_7 ?_
    refine e_stOut dL_inDoubt_8 (fun out2 ho => ?_)
    refine e_goto 15 dL_inDoubt_9 (by decide) ?_
    refine e_iconst (z := 0) dL_inDoubt_15 ?_
    refine e_iret dL_inDoubt_16 rfl ?_
    exact ⟨_, _, _, by rw [hc0], rfl, hA2, fun _ => ho, rfl⟩
  · match j, hj, hE with
    | 0, hj, hE =>
      obtain rfl := Option.some.inj hE
      refine ⟨3, 13, ⟨[], ⟨0, 9, 12, 13⟩, [], _, rfl, (fun z hz => absurd hz (by simp)), by decide, by decide, w_L13, List.mem_of_getElem? (i := 5) rfl, Or.inl ⟨3, rfl, dL_inDoubt_12, rfl⟩⟩, rfl, by decide, fun o2 w2 hA2 => ?_⟩
      refine e_iconst (z := 1) dL_inDoubt_13 ?_
      refine e_iret dL_inDoubt_14 rfl ?_
      exact ⟨_, _, _, by rw [hj], rfl, hA2, fun q => absurd q (by omega), rfl⟩
    | j + 1, hj, hE => exact absurd hE (by simp)
theorem g_inDoubt : q_MSW mL_inDoubt 3 := ⟨⟨_, _, rfl⟩, fL_inDoubt.1, ⟨by decide, by decide⟩, by decide +kernel, by decide, List.mem_filter.mpr ⟨List.mem_append_right _ (List.mem_append_left _ (List.mem_of_getElem? (i := 0) rfl)), rfl⟩, fL_inDoubt.2⟩
set_option maxRecDepth 20000 in
set_option maxHeartbeats 4000000 in
theorem c_outcome (F : List qE) (out : Nat → Int64) {n : Nat} {A : qA} (hG : GA n A) {o : List qE} {w : Fin 16 → qw} (hA : RA A o w) {x : Int32} {code : Nat} {v : Int32} {A2 : qA} (hS : S_outcome A x code v A2) : Ct mL_outcome 8 1 6 [qR 0 0, qI x, qR 12 0] 132 (hL o w F out) (WP A2 F code v.toInt64) qNo := by
  refine ct_ofH (by decide +kernel) rfl rfl (Nat.le_of_ble_eq_true rfl) ?_
  show Ev mL_outcome 8 0 [some (qR 0 0), some (qI x), some (qR 12 0), none] [] 132 (hL o w F out) 1 6 _ _
  refine e_aload2 dL_outcome_0 ?_
  refine e_iconst (z := 0) dL_outcome_1 ?_
  refine e_aload0 dL_outcome_2 ?_
  refine e_iload1 dL_outcome_3 ?_
  refine e_callCl (as := [qI x]) (k_outcome (h1 F out) hG hA hS) hA fX2_outcome lkL_77 rfl dL_outcome_4 rfl (by decide) (Nat.le_of_ble_eq_true rfl) (by decide) (by decide) (fun hc0 o2 w2 hA2 => ?_) (fun j E hj hE => ?_)
  · refine e_i2l dL_outcome_7 ?_
    refine e_stOut dL_outcome_8 (fun out2 ho => ?_)
    refine e_goto 15 dL_outcome_9 (by decide) ?_
    refine e_iconst (z := 0) dL_outcome_15 ?_
    refine e_iret dL_outcome_16 rfl ?_
    exact ⟨_, _, _, by rw [hc0], rfl, hA2, fun _ => ho, rfl⟩
  · match j, hj, hE with
    | 0, hj, hE =>
      obtain rfl := Option.some.inj hE
      refine ⟨3, 13, ⟨[], ⟨0, 9, 12, 13⟩, [], _, rfl, (fun z hz => absurd hz (by simp)), by decide, by decide, w_L13, List.mem_of_getElem? (i := 5) rfl, Or.inl ⟨3, rfl, dL_outcome_12, rfl⟩⟩, rfl, by decide, fun o2 w2 hA2 => ?_⟩
      refine e_iconst (z := 1) dL_outcome_13 ?_
      refine e_iret dL_outcome_14 rfl ?_
      exact ⟨_, _, _, by rw [hj], rfl, hA2, fun q => absurd q (by omega), rfl⟩
    | j + 1, hj, hE => exact absurd hE (by simp)
theorem g_outcome : q_MSW mL_outcome 3 := ⟨⟨_, _, rfl⟩, fL_outcome.1, ⟨by decide, by decide⟩, by decide +kernel, by decide, List.mem_filter.mpr ⟨List.mem_append_right _ (List.mem_append_left _ (List.mem_of_getElem? (i := 0) rfl)), rfl⟩, fL_outcome.2⟩
set_option maxRecDepth 20000 in
set_option maxHeartbeats 4000000 in
theorem c_outcomeByStores (F : List qE) (out : Nat → Int64) {n : Nat} {A : qA} (hG : GA n A) {o : List qE} {w : Fin 16 → qw} (hA : RA A o w) {x : Int32} {code : Nat} {v : Int32} {A2 : qA} (hS : S_outcomeByStores A x code v A2) : Ct mL_outcomeByStores 8 1 6 [qR 0 0, qI x, qR 12 0] 132 (hL o w F out) (WP A2 F code v.toInt64) qNo := by
  refine ct_ofH (by decide +kernel) rfl rfl (Nat.le_of_ble_eq_true rfl) ?_
  show Ev mL_outcomeByStores 8 0 [some (qR 0 0), some (qI x), some (qR 12 0), none] [] 132 (hL o w F out) 1 6 _ _
  refine e_aload2 dL_outcomeByStores_0 ?_
  refine e_iconst (z := 0) dL_outcomeByStores_1 ?_
  refine e_aload0 dL_outcomeByStores_2 ?_
  refine e_iload1 dL_outcomeByStores_3 ?_
  refine e_callCl (as := [qI x]) (k_outcomeByStores (h1 F out) hG hA hS) hA fX2_outcomeByStores lkL_80 rfl dL_outcomeByStores_4 rfl (by decide) (Nat.le_of_ble_eq_true rfl) (by decide) (by decide) (fun hc0 o2 w2 hA2 => ?_) (fun j E hj hE => ?_)
  · refine e_i2l dL_outcomeByStores_7 ?_
    refine e_stOut dL_outcomeByStores_8 (fun out2 ho => ?_)
    refine e_goto 15 dL_outcomeByStores_9 (by decide) ?_
    refine e_iconst (z := 0) dL_outcomeByStores_15 ?_
    refine e_iret dL_outcomeByStores_16 rfl ?_
    exact ⟨_, _, _, by rw [hc0], rfl, hA2, fun _ => ho, rfl⟩
  · match j, hj, hE with
    | 0, hj, hE =>
      obtain rfl := Option.some.inj hE
      refine ⟨3, 13, ⟨[], ⟨0, 9, 12, 13⟩, [], _, rfl, (fun z hz => absurd hz (by simp)), by decide, by decide, w_L13, List.mem_of_getElem? (i := 5) rfl, Or.inl ⟨3, rfl, dL_outcomeByStores_12, rfl⟩⟩, rfl, by decide, fun o2 w2 hA2 => ?_⟩
      refine e_iconst (z := 1) dL_outcomeByStores_13 ?_
      refine e_iret dL_outcomeByStores_14 rfl ?_
      exact ⟨_, _, _, by rw [hj], rfl, hA2, fun q => absurd q (by omega), rfl⟩
    | j + 1, hj, hE => exact absurd hE (by simp)
theorem g_outcomeByStores : q_MSW mL_outcomeByStores 3 := ⟨⟨_, _, rfl⟩, fL_outcomeByStores.1, ⟨by decide, by decide⟩, by decide +kernel, by decide, List.mem_filter.mpr ⟨List.mem_append_right _ (List.mem_append_left _ (List.mem_of_getElem? (i := 0) rfl)), rfl⟩, fL_outcomeByStores.2⟩
set_option maxRecDepth 20000 in
set_option maxHeartbeats 4000000 in
theorem c_hasEnded (F : List qE) (out : Nat → Int64) {n : Nat} {A : qA} (hG : GA n A) {o : List qE} {w : Fin 16 → qw} (hA : RA A o w) {x : Int32} {code : Nat} {v : Int32} {A2 : qA} (hS : S_hasEnded A x code v A2) : Ct mL_hasEnded 8 1 6 [qR 0 0, qI x, qR 12 0] 132 (hL o w F out) (WP A2 F code (if v = 0 then 0 else 1)) qNo := by
  refine ct_ofH (by decide +kernel) rfl rfl (Nat.le_of_ble_eq_true rfl) ?_
  show Ev mL_hasEnded 8 0 [some (qR 0 0), some (qI x), some (qR 12 0), none] [] 132 (hL o w F out) 1 6 _ _
  refine e_aload2 dL_hasEnded_0 ?_
  refine e_iconst (z := 0) dL_hasEnded_1 ?_
  refine e_aload0 dL_hasEnded_2 ?_
  refine e_iload1 dL_hasEnded_3 ?_
  refine e_callCl (as := [qI x]) (k_hasEnded (h1 F out) hG hA hS) hA fX2_hasEnded lkL_83 rfl dL_hasEnded_4 rfl (by decide) (Nat.le_of_ble_eq_true rfl) (by decide) (by decide) (fun hc0 o2 w2 hA2 => ?_) (fun j E hj hE => ?_)
  · refine e_if_eq 14 dL_hasEnded_7 (by decide) (fun hq => ?_) (fun hq => ?_)
    · refine e_lconst (v := 0) dL_hasEnded_14 (by decide) ?_
      refine e_stOut dL_hasEnded_15 (fun out2 ho => ?_)
      refine e_goto 22 dL_hasEnded_16 (by decide) ?_
      refine e_iconst (z := 0) dL_hasEnded_22 ?_
      refine e_iret dL_hasEnded_23 rfl ?_
      exact ⟨_, _, _, by rw [hc0], rfl, hA2, fun _ => by rw [ho, if_pos hq], rfl⟩
    · refine e_lconst (v := 1) dL_hasEnded_10 (by decide) ?_
      refine e_goto 15 dL_hasEnded_11 (by decide) ?_
      refine e_stOut dL_hasEnded_15 (fun out2 ho => ?_)
      refine e_goto 22 dL_hasEnded_16 (by decide) ?_
      refine e_iconst (z := 0) dL_hasEnded_22 ?_
      refine e_iret dL_hasEnded_23 rfl ?_
      exact ⟨_, _, _, by rw [hc0], rfl, hA2, fun _ => by rw [ho, if_neg hq], rfl⟩
  · match j, hj, hE with
    | 0, hj, hE =>
      obtain rfl := Option.some.inj hE
      refine ⟨3, 20, ⟨[], ⟨0, 16, 19, 13⟩, [], _, rfl, (fun z hz => absurd hz (by simp)), by decide, by decide, w_L13, List.mem_of_getElem? (i := 5) rfl, Or.inl ⟨3, rfl, dL_hasEnded_19, rfl⟩⟩, rfl, by decide, fun o2 w2 hA2 => ?_⟩
      refine e_iconst (z := 1) dL_hasEnded_20 ?_
      refine e_iret dL_hasEnded_21 rfl ?_
      exact ⟨_, _, _, by rw [hj], rfl, hA2, fun q => absurd q (by omega), rfl⟩
    | j + 1, hj, hE => exact absurd hE (by simp)
theorem g_hasEnded : q_MSW mL_hasEnded 3 := ⟨⟨_, _, rfl⟩, fL_hasEnded.1, ⟨by decide, by decide⟩, by decide +kernel, by decide, List.mem_filter.mpr ⟨List.mem_append_right _ (List.mem_append_left _ (List.mem_of_getElem? (i := 0) rfl)), rfl⟩, fL_hasEnded.2⟩
set_option maxRecDepth 20000 in
set_option maxHeartbeats 4000000 in
theorem c_saidYes (F : List qE) (out : Nat → Int64) {n : Nat} {A : qA} (hG : GA n A) {o : List qE} {w : Fin 16 → qw} (hA : RA A o w) {x : Int32} {code : Nat} {v : Int32} {A2 : qA} (hS : S_saidYes A x code v A2) : Ct mL_saidYes 8 1 6 [qR 0 0, qI x, qR 12 0] 132 (hL o w F out) (WP A2 F code v.toInt64) qNo := by
  refine ct_ofH (by decide +kernel) rfl rfl (Nat.le_of_ble_eq_true rfl) ?_
  show Ev mL_saidYes 8 0 [some (qR 0 0), some (qI x), some (qR 12 0), none] [] 132 (hL o w F out) 1 6 _ _
  refine e_aload2 dL_saidYes_0 ?_
  refine e_iconst (z := 0) dL_saidYes_1 ?_
  refine e_aload0 dL_saidYes_2 ?_
  refine e_iload1 dL_saidYes_3 ?_
  refine e_callCl (as := [qI x]) (k_saidYes (h1 F out) hG hA hS) hA fX2_saidYes lkL_86 rfl dL_saidYes_4 rfl (by decide) (Nat.le_of_ble_eq_true rfl) (by decide) (by decide) (fun hc0 o2 w2 hA2 => ?_) (fun j E hj hE => ?_)
  · refine e_i2l dL_saidYes_7 ?_
    refine e_stOut dL_saidYes_8 (fun out2 ho => ?_)
    refine e_goto 15 dL_saidYes_9 (by decide) ?_
    refine e_iconst (z := 0) dL_saidYes_15 ?_
    refine e_iret dL_saidYes_16 rfl ?_
    exact ⟨_, _, _, by rw [hc0], rfl, hA2, fun _ => ho, rfl⟩
  · match j, hj, hE with
    | 0, hj, hE =>
      obtain rfl := Option.some.inj hE
      refine ⟨3, 13, ⟨[], ⟨0, 9, 12, 13⟩, [], _, rfl, (fun z hz => absurd hz (by simp)), by decide, by decide, w_L13, List.mem_of_getElem? (i := 5) rfl, Or.inl ⟨3, rfl, dL_saidYes_12, rfl⟩⟩, rfl, by decide, fun o2 w2 hA2 => ?_⟩
      refine e_iconst (z := 1) dL_saidYes_13 ?_
      refine e_iret dL_saidYes_14 rfl ?_
      exact ⟨_, _, _, by rw [hj], rfl, hA2, fun q => absurd q (by omega), rfl⟩
    | j + 1, hj, hE => exact absurd hE (by simp)
theorem g_saidYes : q_MSW mL_saidYes 3 := ⟨⟨_, _, rfl⟩, fL_saidYes.1, ⟨by decide, by decide⟩, by decide +kernel, by decide, List.mem_filter.mpr ⟨List.mem_append_right _ (List.mem_append_left _ (List.mem_of_getElem? (i := 0) rfl)), rfl⟩, fL_saidYes.2⟩
set_option maxRecDepth 20000 in
set_option maxHeartbeats 4000000 in
theorem c_saidDone (F : List qE) (out : Nat → Int64) {n : Nat} {A : qA} (hG : GA n A) {o : List qE} {w : Fin 16 → qw} (hA : RA A o w) {x : Int32} {code : Nat} {v : Int32} {A2 : qA} (hS : S_saidDone A x code v A2) : Ct mL_saidDone 8 1 6 [qR 0 0, qI x, qR 12 0] 132 (hL o w F out) (WP A2 F code v.toInt64) qNo := by
  refine ct_ofH (by decide +kernel) rfl rfl (Nat.le_of_ble_eq_true rfl) ?_
  show Ev mL_saidDone 8 0 [some (qR 0 0), some (qI x), some (qR 12 0), none] [] 132 (hL o w F out) 1 6 _ _
  refine e_aload2 dL_saidDone_0 ?_
  refine e_iconst (z := 0) dL_saidDone_1 ?_
  refine e_aload0 dL_saidDone_2 ?_
  refine e_iload1 dL_saidDone_3 ?_
  refine e_callCl (as := [qI x]) (k_saidDone (h1 F out) hG hA hS) hA fX2_saidDone lkL_89 rfl dL_saidDone_4 rfl (by decide) (Nat.le_of_ble_eq_true rfl) (by decide) (by decide) (fun hc0 o2 w2 hA2 => ?_) (fun j E hj hE => ?_)
  · refine e_i2l dL_saidDone_7 ?_
    refine e_stOut dL_saidDone_8 (fun out2 ho => ?_)
    refine e_goto 15 dL_saidDone_9 (by decide) ?_
    refine e_iconst (z := 0) dL_saidDone_15 ?_
    refine e_iret dL_saidDone_16 rfl ?_
    exact ⟨_, _, _, by rw [hc0], rfl, hA2, fun _ => ho, rfl⟩
  · match j, hj, hE with
    | 0, hj, hE =>
      obtain rfl := Option.some.inj hE
      refine ⟨3, 13, ⟨[], ⟨0, 9, 12, 13⟩, [], _, rfl, (fun z hz => absurd hz (by simp)), by decide, by decide, w_L13, List.mem_of_getElem? (i := 5) rfl, Or.inl ⟨3, rfl, dL_saidDone_12, rfl⟩⟩, rfl, by decide, fun o2 w2 hA2 => ?_⟩
      refine e_iconst (z := 1) dL_saidDone_13 ?_
      refine e_iret dL_saidDone_14 rfl ?_
      exact ⟨_, _, _, by rw [hj], rfl, hA2, fun q => absurd q (by omega), rfl⟩
    | j + 1, hj, hE => exact absurd hE (by simp)
theorem g_saidDone : q_MSW mL_saidDone 3 := ⟨⟨_, _, rfl⟩, fL_saidDone.1, ⟨by decide, by decide⟩, by decide +kernel, by decide, List.mem_filter.mpr ⟨List.mem_append_right _ (List.mem_append_left _ (List.mem_of_getElem? (i := 0) rfl)), rfl⟩, fL_saidDone.2⟩
set_option maxRecDepth 20000 in
set_option maxHeartbeats 4000000 in
theorem c_records (F : List qE) (out : Nat → Int64) {n : Nat} {A : qA} (hG : GA n A) {o : List qE} {w : Fin 16 → qw} (hA : RA A o w) {x : Int32} {code : Nat} {v : Int32} {A2 : qA} (hS : S_records A x code v A2) : Ct mL_records 8 1 6 [qR 0 0, qI x, qR 12 0] 132 (hL o w F out) (WP A2 F code v.toInt64) qNo := by
  refine ct_ofH (by decide +kernel) rfl rfl (Nat.le_of_ble_eq_true rfl) ?_
  show Ev mL_records 8 0 [some (qR 0 0), some (qI x), some (qR 12 0), none] [] 132 (hL o w F out) 1 6 _ _
  refine e_aload2 dL_records_0 ?_
  refine e_iconst (z := 0) dL_records_1 ?_
  refine e_aload0 dL_records_2 ?_
  refine e_iload1 dL_records_3 ?_
  refine e_callCl (as := [qI x]) (k_records (h1 F out) hG hA hS) hA fX2_records lkL_92 rfl dL_records_4 rfl (by decide) (Nat.le_of_ble_eq_true rfl) (by decide) (by decide) (fun hc0 o2 w2 hA2 => ?_) (fun j E hj hE => ?_)
  · refine e_i2l dL_records_7 ?_
    refine e_stOut dL_records_8 (fun out2 ho => ?_)
    refine e_goto 15 dL_records_9 (by decide) ?_
    refine e_iconst (z := 0) dL_records_15 ?_
    refine e_iret dL_records_16 rfl ?_
    exact ⟨_, _, _, by rw [hc0], rfl, hA2, fun _ => ho, rfl⟩
  · match j, hj, hE with
    | 0, hj, hE =>
      obtain rfl := Option.some.inj hE
      refine ⟨3, 13, ⟨[], ⟨0, 9, 12, 13⟩, [], _, rfl, (fun z hz => absurd hz (by simp)), by decide, by decide, w_L13, List.mem_of_getElem? (i := 5) rfl, Or.inl ⟨3, rfl, dL_records_12, rfl⟩⟩, rfl, by decide, fun o2 w2 hA2 => ?_⟩
      refine e_iconst (z := 1) dL_records_13 ?_
      refine e_iret dL_records_14 rfl ?_
      exact ⟨_, _, _, by rw [hj], rfl, hA2, fun q => absurd q (by omega), rfl⟩
    | j + 1, hj, hE => exact absurd hE (by simp)
theorem g_records : q_MSW mL_records 3 := ⟨⟨_, _, rfl⟩, fL_records.1, ⟨by decide, by decide⟩, by decide +kernel, by decide, List.mem_filter.mpr ⟨List.mem_append_right _ (List.mem_append_left _ (List.mem_of_getElem? (i := 0) rfl)), rfl⟩, fL_records.2⟩
set_option maxRecDepth 20000 in
set_option maxHeartbeats 4000000 in
theorem c_recordKind (F : List qE) (out : Nat → Int64) {n : Nat} {A : qA} (hG : GA n A) {o : List qE} {w : Fin 16 → qw} (hA : RA A o w) {x y : Int32} {code : Nat} {v : Int32} {A2 : qA} (hS : S_recordKind A x y code v A2) : Ct mL_recordKind 8 1 6 [qR 0 0, qI x, qI y, qR 12 0] 132 (hL o w F out) (WP A2 F code v.toInt64) qNo := by
  refine ct_ofH (by decide +kernel) rfl rfl (Nat.le_of_ble_eq_true rfl) ?_
  show Ev mL_recordKind 8 0 [some (qR 0 0), some (qI x), some (qI y), some (qR 12 0), none] [] 132 (hL o w F out) 1 6 _ _
  refine e_aload3 dL_recordKind_0 ?_
  refine e_iconst (z := 0) dL_recordKind_1 ?_
  refine e_aload0 dL_recordKind_2 ?_
  refine e_iload1 dL_recordKind_3 ?_
  refine e_iload2 dL_recordKind_4 ?_
  refine e_callCl (as := [qI x, qI y]) (k_recordKind (h1 F out) hG hA hS) hA fX2_recordKind lkL_95 rfl dL_recordKind_5 rfl (by decide) (Nat.le_of_ble_eq_true rfl) (by decide) (by decide) (fun hc0 o2 w2 hA2 => ?_) (fun j E hj hE => ?_)
  · refine e_i2l dL_recordKind_8 ?_
    refine e_stOut dL_recordKind_9 (fun out2 ho => ?_)
    refine e_goto 17 dL_recordKind_10 (by decide) ?_
    refine e_iconst (z := 0) dL_recordKind_17 ?_
    refine e_iret dL_recordKind_18 rfl ?_
    exact ⟨_, _, _, by rw [hc0], rfl, hA2, fun _ => ho, rfl⟩
  · match j, hj, hE with
    | 0, hj, hE =>
      obtain rfl := Option.some.inj hE
      refine ⟨4, 15, ⟨[], ⟨0, 10, 13, 13⟩, [], _, rfl, (fun z hz => absurd hz (by simp)), by decide, by decide, w_L13, List.mem_of_getElem? (i := 5) rfl, Or.inr ⟨dL_recordKind_13, rfl⟩⟩, rfl, by decide, fun o2 w2 hA2 => ?_⟩
      refine e_iconst (z := 1) dL_recordKind_15 ?_
      refine e_iret dL_recordKind_16 rfl ?_
      exact ⟨_, _, _, by rw [hj], rfl, hA2, fun q => absurd q (by omega), rfl⟩
    | j + 1, hj, hE => exact absurd hE (by simp)
theorem g_recordKind : q_MSW mL_recordKind 4 := ⟨⟨_, _, rfl⟩, fL_recordKind.1, ⟨by decide, by decide⟩, by decide +kernel, by decide, List.mem_filter.mpr ⟨List.mem_append_right _ (List.mem_append_left _ (List.mem_of_getElem? (i := 0) rfl)), rfl⟩, fL_recordKind.2⟩
set_option maxRecDepth 20000 in
set_option maxHeartbeats 4000000 in
theorem c_recordTransfer (F : List qE) (out : Nat → Int64) {n : Nat} {A : qA} (hG : GA n A) {o : List qE} {w : Fin 16 → qw} (hA : RA A o w) {x y : Int32} {code : Nat} {v : Int32} {A2 : qA} (hS : S_recordTransfer A x y code v A2) : Ct mL_recordTransfer 8 1 6 [qR 0 0, qI x, qI y, qR 12 0] 132 (hL o w F out) (WP A2 F code v.toInt64) qNo := by
  refine ct_ofH (by decide +kernel) rfl rfl (Nat.le_of_ble_eq_true rfl) ?_
  show Ev mL_recordTransfer 8 0 [some (qR 0 0), some (qI x), some (qI y), some (qR 12 0), none] [] 132 (hL o w F out) 1 6 _ _
  refine e_aload3 dL_recordTransfer_0 ?_
  refine e_iconst (z := 0) dL_recordTransfer_1 ?_
  refine e_aload0 dL_recordTransfer_2 ?_
  refine e_iload1 dL_recordTransfer_3 ?_
  refine e_iload2 dL_recordTransfer_4 ?_
  refine e_callCl (as := [qI x, qI y]) (k_recordTransfer (h1 F out) hG hA hS) hA fX2_recordTransfer lkL_98 rfl dL_recordTransfer_5 rfl (by decide) (Nat.le_of_ble_eq_true rfl) (by decide) (by decide) (fun hc0 o2 w2 hA2 => ?_) (fun j E hj hE => ?_)
  · refine e_i2l dL_recordTransfer_8 ?_
    refine e_stOut dL_recordTransfer_9 (fun out2 ho => ?_)
    refine e_goto 17 dL_recordTransfer_10 (by decide) ?_
    refine e_iconst (z := 0) dL_recordTransfer_17 ?_
    refine e_iret dL_recordTransfer_18 rfl ?_
    exact ⟨_, _, _, by rw [hc0], rfl, hA2, fun _ => ho, rfl⟩
  · match j, hj, hE with
    | 0, hj, hE =>
      obtain rfl := Option.some.inj hE
      refine ⟨4, 15, ⟨[], ⟨0, 10, 13, 13⟩, [], _, rfl, (fun z hz => absurd hz (by simp)), by decide, by decide, w_L13, List.mem_of_getElem? (i := 5) rfl, Or.inr ⟨dL_recordTransfer_13, rfl⟩⟩, rfl, by decide, fun o2 w2 hA2 => ?_⟩
      refine e_iconst (z := 1) dL_recordTransfer_15 ?_
      refine e_iret dL_recordTransfer_16 rfl ?_
      exact ⟨_, _, _, by rw [hj], rfl, hA2, fun q => absurd q (by omega), rfl⟩
    | j + 1, hj, hE => exact absurd hE (by simp)
theorem g_recordTransfer : q_MSW mL_recordTransfer 4 := ⟨⟨_, _, rfl⟩, fL_recordTransfer.1, ⟨by decide, by decide⟩, by decide +kernel, by decide, List.mem_filter.mpr ⟨List.mem_append_right _ (List.mem_append_left _ (List.mem_of_getElem? (i := 0) rfl)), rfl⟩, fL_recordTransfer.2⟩
set_option maxRecDepth 20000 in
set_option maxHeartbeats 4000000 in
theorem c_kindOf (F : List qE) (out : Nat → Int64) {n : Nat} {A : qA} (hG : GA n A) {o : List qE} {w : Fin 16 → qw} (hA : RA A o w) {x : Int32} {code : Nat} {v : Int32} {A2 : qA} (hS : S_kindOf A x code v A2) : Ct mL_kindOf 8 1 6 [qR 0 0, qI x, qR 12 0] 132 (hL o w F out) (WP A2 F code v.toInt64) qNo := by
  refine ct_ofH (by decide +kernel) rfl rfl (Nat.le_of_ble_eq_true rfl) ?_
  show Ev mL_kindOf 8 0 [some (qR 0 0), some (qI x), some (qR 12 0), none] [] 132 (hL o w F out) 1 6 _ _
  refine e_aload2 dL_kindOf_0 ?_
  refine e_iconst (z := 0) dL_kindOf_1 ?_
  refine e_aload0 dL_kindOf_2 ?_
  refine e_iload1 dL_kindOf_3 ?_
  refine e_callCl (as := [qI x]) (k_kindOf (h1 F out) hG hA hS) hA fX2_kindOf lkL_101 rfl dL_kindOf_4 rfl (by decide) (Nat.le_of_ble_eq_true rfl) (by decide) (by decide) (fun hc0 o2 w2 hA2 => ?_) (fun j E hj hE => ?_)
  · refine e_i2l dL_kindOf_7 ?_
    refine e_stOut dL_kindOf_8 (fun out2 ho => ?_)
    refine e_goto 15 dL_kindOf_9 (by decide) ?_
    refine e_iconst (z := 0) dL_kindOf_15 ?_
    refine e_iret dL_kindOf_16 rfl ?_
    exact ⟨_, _, _, by rw [hc0], rfl, hA2, fun _ => ho, rfl⟩
  · match j, hj, hE with
    | 0, hj, hE =>
      obtain rfl := Option.some.inj hE
      refine ⟨3, 13, ⟨[], ⟨0, 9, 12, 13⟩, [], _, rfl, (fun z hz => absurd hz (by simp)), by decide, by decide, w_L13, List.mem_of_getElem? (i := 5) rfl, Or.inl ⟨3, rfl, dL_kindOf_12, rfl⟩⟩, rfl, by decide, fun o2 w2 hA2 => ?_⟩
      refine e_iconst (z := 1) dL_kindOf_13 ?_
      refine e_iret dL_kindOf_14 rfl ?_
      exact ⟨_, _, _, by rw [hj], rfl, hA2, fun q => absurd q (by omega), rfl⟩
    | j + 1, hj, hE => exact absurd hE (by simp)
theorem g_kindOf : q_MSW mL_kindOf 3 := ⟨⟨_, _, rfl⟩, fL_kindOf.1, ⟨by decide, by decide⟩, by decide +kernel, by decide, List.mem_filter.mpr ⟨List.mem_append_right _ (List.mem_append_left _ (List.mem_of_getElem? (i := 0) rfl)), rfl⟩, fL_kindOf.2⟩
set_option maxRecDepth 20000 in
set_option maxHeartbeats 4000000 in
theorem c_transferOf (F : List qE) (out : Nat → Int64) {n : Nat} {A : qA} (hG : GA n A) {o : List qE} {w : Fin 16 → qw} (hA : RA A o w) {x : Int32} {code : Nat} {v : Int32} {A2 : qA} (hS : S_transferOf A x code v A2) : Ct mL_transferOf 8 1 6 [qR 0 0, qI x, qR 12 0] 132 (hL o w F out) (WP A2 F code v.toInt64) qNo := by
  refine ct_ofH (by decide +kernel) rfl rfl (Nat.le_of_ble_eq_true rfl) ?_
  show Ev mL_transferOf 8 0 [some (qR 0 0), some (qI x), some (qR 12 0), none] [] 132 (hL o w F out) 1 6 _ _
  refine e_aload2 dL_transferOf_0 ?_
  refine e_iconst (z := 0) dL_transferOf_1 ?_
  refine e_aload0 dL_transferOf_2 ?_
  refine e_iload1 dL_transferOf_3 ?_
  refine e_callCl (as := [qI x]) (k_transferOf (h1 F out) hG hA hS) hA fX2_transferOf lkL_104 rfl dL_transferOf_4 rfl (by decide) (Nat.le_of_ble_eq_true rfl) (by decide) (by decide) (fun hc0 o2 w2 hA2 => ?_) (fun j E hj hE => ?_)
  · refine e_i2l dL_transferOf_7 ?_
    refine e_stOut dL_transferOf_8 (fun out2 ho => ?_)
    refine e_goto 15 dL_transferOf_9 (by decide) ?_
    refine e_iconst (z := 0) dL_transferOf_15 ?_
    refine e_iret dL_transferOf_16 rfl ?_
    exact ⟨_, _, _, by rw [hc0], rfl, hA2, fun _ => ho, rfl⟩
  · match j, hj, hE with
    | 0, hj, hE =>
      obtain rfl := Option.some.inj hE
      refine ⟨3, 13, ⟨[], ⟨0, 9, 12, 13⟩, [], _, rfl, (fun z hz => absurd hz (by simp)), by decide, by decide, w_L13, List.mem_of_getElem? (i := 5) rfl, Or.inl ⟨3, rfl, dL_transferOf_12, rfl⟩⟩, rfl, by decide, fun o2 w2 hA2 => ?_⟩
      refine e_iconst (z := 1) dL_transferOf_13 ?_
      refine e_iret dL_transferOf_14 rfl ?_
      exact ⟨_, _, _, by rw [hj], rfl, hA2, fun q => absurd q (by omega), rfl⟩
    | j + 1, hj, hE => exact absurd hE (by simp)
theorem g_transferOf : q_MSW mL_transferOf 3 := ⟨⟨_, _, rfl⟩, fL_transferOf.1, ⟨by decide, by decide⟩, by decide +kernel, by decide, List.mem_filter.mpr ⟨List.mem_append_right _ (List.mem_append_left _ (List.mem_of_getElem? (i := 0) rfl)), rfl⟩, fL_transferOf.2⟩
set_option maxRecDepth 20000 in
set_option maxHeartbeats 4000000 in
theorem c_storeOf (F : List qE) (out : Nat → Int64) {n : Nat} {A : qA} (hG : GA n A) {o : List qE} {w : Fin 16 → qw} (hA : RA A o w) {x : Int32} {code : Nat} {v : Int32} {A2 : qA} (hS : S_storeOf A x code v A2) : Ct mL_storeOf 8 1 6 [qR 0 0, qI x, qR 12 0] 132 (hL o w F out) (WP A2 F code v.toInt64) qNo := by
  refine ct_ofH (by decide +kernel) rfl rfl (Nat.le_of_ble_eq_true rfl) ?_
  show Ev mL_storeOf 8 0 [some (qR 0 0), some (qI x), some (qR 12 0), none] [] 132 (hL o w F out) 1 6 _ _
  refine e_aload2 dL_storeOf_0 ?_
  refine e_iconst (z := 0) dL_storeOf_1 ?_
  refine e_aload0 dL_storeOf_2 ?_
  refine e_iload1 dL_storeOf_3 ?_
  refine e_callCl (as := [qI x]) (k_storeOf (h1 F out) hG hA hS) hA fX2_storeOf lkL_107 rfl dL_storeOf_4 rfl (by decide) (Nat.le_of_ble_eq_true rfl) (by decide) (by decide) (fun hc0 o2 w2 hA2 => ?_) (fun j E hj hE => ?_)
  · refine e_i2l dL_storeOf_7 ?_
    refine e_stOut dL_storeOf_8 (fun out2 ho => ?_)
    refine e_goto 15 dL_storeOf_9 (by decide) ?_
    refine e_iconst (z := 0) dL_storeOf_15 ?_
    refine e_iret dL_storeOf_16 rfl ?_
    exact ⟨_, _, _, by rw [hc0], rfl, hA2, fun _ => ho, rfl⟩
  · match j, hj, hE with
    | 0, hj, hE =>
      obtain rfl := Option.some.inj hE
      refine ⟨3, 13, ⟨[], ⟨0, 9, 12, 13⟩, [], _, rfl, (fun z hz => absurd hz (by simp)), by decide, by decide, w_L13, List.mem_of_getElem? (i := 5) rfl, Or.inl ⟨3, rfl, dL_storeOf_12, rfl⟩⟩, rfl, by decide, fun o2 w2 hA2 => ?_⟩
      refine e_iconst (z := 1) dL_storeOf_13 ?_
      refine e_iret dL_storeOf_14 rfl ?_
      exact ⟨_, _, _, by rw [hj], rfl, hA2, fun q => absurd q (by omega), rfl⟩
    | j + 1, hj, hE => exact absurd hE (by simp)
theorem g_storeOf : q_MSW mL_storeOf 3 := ⟨⟨_, _, rfl⟩, fL_storeOf.1, ⟨by decide, by decide⟩, by decide +kernel, by decide, List.mem_filter.mpr ⟨List.mem_append_right _ (List.mem_append_left _ (List.mem_of_getElem? (i := 0) rfl)), rfl⟩, fL_storeOf.2⟩
set_option maxRecDepth 20000 in
set_option maxHeartbeats 4000000 in
theorem c_wouldSend (F : List qE) (out : Nat → Int64) {n : Nat} {A : qA} (hG : GA n A) {o : List qE} {w : Fin 16 → qw} (hA : RA A o w) {x : Int32} {code : Nat} {v : Int32} {A2 : qA} (hS : S_wouldSend A x code v A2) : Ct mL_wouldSend 8 1 6 [qR 0 0, qI x, qR 12 0] 132 (hL o w F out) (WP A2 F code v.toInt64) qNo := by
  refine ct_ofH (by decide +kernel) rfl rfl (Nat.le_of_ble_eq_true rfl) ?_
  show Ev mL_wouldSend 8 0 [some (qR 0 0), some (qI x), some (qR 12 0), none] [] 132 (hL o w F out) 1 6 _ _
  refine e_aload2 dL_wouldSend_0 ?_
  refine e_iconst (z := 0) dL_wouldSend_1 ?_
  refine e_aload0 dL_wouldSend_2 ?_
  refine e_iload1 dL_wouldSend_3 ?_
  refine e_callCl (as := [qI x]) (k_wouldSend (h1 F out) hG hA hS) hA fX2_wouldSend lkL_110 rfl dL_wouldSend_4 rfl (by decide) (Nat.le_of_ble_eq_true rfl) (by decide) (by decide) (fun hc0 o2 w2 hA2 => ?_) (fun j E hj hE => ?_)
  · refine e_i2l dL_wouldSend_7 ?_
    refine e_stOut dL_wouldSend_8 (fun out2 ho => ?_)
    refine e_goto 15 dL_wouldSend_9 (by decide) ?_
    refine e_iconst (z := 0) dL_wouldSend_15 ?_
    refine e_iret dL_wouldSend_16 rfl ?_
    exact ⟨_, _, _, by rw [hc0], rfl, hA2, fun _ => ho, rfl⟩
  · match j, hj, hE with
    | 0, hj, hE =>
      obtain rfl := Option.some.inj hE
      refine ⟨3, 13, ⟨[], ⟨0, 9, 12, 13⟩, [], _, rfl, (fun z hz => absurd hz (by simp)), by decide, by decide, w_L13, List.mem_of_getElem? (i := 5) rfl, Or.inl ⟨3, rfl, dL_wouldSend_12, rfl⟩⟩, rfl, by decide, fun o2 w2 hA2 => ?_⟩
      refine e_iconst (z := 1) dL_wouldSend_13 ?_
      refine e_iret dL_wouldSend_14 rfl ?_
      exact ⟨_, _, _, by rw [hj], rfl, hA2, fun q => absurd q (by omega), rfl⟩
    | j + 1, hj, hE => exact absurd hE (by simp)
theorem g_wouldSend : q_MSW mL_wouldSend 3 := ⟨⟨_, _, rfl⟩, fL_wouldSend.1, ⟨by decide, by decide⟩, by decide +kernel, by decide, List.mem_filter.mpr ⟨List.mem_append_right _ (List.mem_append_left _ (List.mem_of_getElem? (i := 0) rfl)), rfl⟩, fL_wouldSend.2⟩
set_option maxRecDepth 20000 in
set_option maxHeartbeats 4000000 in
theorem c_outcomeIfSettled (F : List qE) (out : Nat → Int64) {n : Nat} {A : qA} (hG : GA n A) {o : List qE} {w : Fin 16 → qw} (hA : RA A o w) {x : Int32} {code : Nat} {v : Int32} {A2 : qA} (hS : S_outcomeIfSettled A x code v A2) : Ct mL_outcomeIfSettled 8 1 6 [qR 0 0, qI x, qR 12 0] 132 (hL o w F out) (WP A2 F code v.toInt64) qNo := by
  refine ct_ofH (by decide +kernel) rfl rfl (Nat.le_of_ble_eq_true rfl) ?_
  show Ev mL_outcomeIfSettled 8 0 [some (qR 0 0), some (qI x), some (qR 12 0), none] [] 132 (hL o w F out) 1 6 _ _
  refine e_aload2 dL_outcomeIfSettled_0 ?_
  refine e_iconst (z := 0) dL_outcomeIfSettled_1 ?_
  refine e_aload0 dL_outcomeIfSettled_2 ?_
  refine e_iload1 dL_outcomeIfSettled_3 ?_
  refine e_callCl (as := [qI x]) (k_outcomeIfSettled (h1 F out) hG hA hS) hA fX2_outcomeIfSettled lkL_113 rfl dL_outcomeIfSettled_4 rfl (by decide) (Nat.le_of_ble_eq_true rfl) (by decide) (by decide) (fun hc0 o2 w2 hA2 => ?_) (fun j E hj hE => ?_)
  · refine e_i2l dL_outcomeIfSettled_7 ?_
    refine e_stOut dL_outcomeIfSettled_8 (fun out2 ho => ?_)
    refine e_goto 15 dL_outcomeIfSettled_9 (by decide) ?_
    refine e_iconst (z := 0) dL_outcomeIfSettled_15 ?_
    refine e_iret dL_outcomeIfSettled_16 rfl ?_
    exact ⟨_, _, _, by rw [hc0], rfl, hA2, fun _ => ho, rfl⟩
  · match j, hj, hE with
    | 0, hj, hE =>
      obtain rfl := Option.some.inj hE
      refine ⟨3, 13, ⟨[], ⟨0, 9, 12, 13⟩, [], _, rfl, (fun z hz => absurd hz (by simp)), by decide, by decide, w_L13, List.mem_of_getElem? (i := 5) rfl, Or.inl ⟨3, rfl, dL_outcomeIfSettled_12, rfl⟩⟩, rfl, by decide, fun o2 w2 hA2 => ?_⟩
      refine e_iconst (z := 1) dL_outcomeIfSettled_13 ?_
      refine e_iret dL_outcomeIfSettled_14 rfl ?_
      exact ⟨_, _, _, by rw [hj], rfl, hA2, fun q => absurd q (by omega), rfl⟩
    | j + 1, hj, hE => exact absurd hE (by simp)
theorem g_outcomeIfSettled : q_MSW mL_outcomeIfSettled 3 := ⟨⟨_, _, rfl⟩, fL_outcomeIfSettled.1, ⟨by decide, by decide⟩, by decide +kernel, by decide, List.mem_filter.mpr ⟨List.mem_append_right _ (List.mem_append_left _ (List.mem_of_getElem? (i := 0) rfl)), rfl⟩, fL_outcomeIfSettled.2⟩
set_option maxRecDepth 20000 in
set_option maxHeartbeats 4000000 in
theorem c_amountIfSettled (F : List qE) (out : Nat → Int64) {n : Nat} {A : qA} (hG : GA n A) {o : List qE} {w : Fin 16 → qw} (hA : RA A o w) {x : Int32} {code : Nat} {v : Int32} {A2 : qA} (hS : S_amountIfSettled A x code v A2) : Ct mL_amountIfSettled 8 1 6 [qR 0 0, qI x, qR 12 0] 132 (hL o w F out) (WP A2 F code v.toInt64) qNo := by
  refine ct_ofH (by decide +kernel) rfl rfl (Nat.le_of_ble_eq_true rfl) ?_
  show Ev mL_amountIfSettled 8 0 [some (qR 0 0), some (qI x), some (qR 12 0), none] [] 132 (hL o w F out) 1 6 _ _
  refine e_aload2 dL_amountIfSettled_0 ?_
  refine e_iconst (z := 0) dL_amountIfSettled_1 ?_
  refine e_aload0 dL_amountIfSettled_2 ?_
  refine e_iload1 dL_amountIfSettled_3 ?_
  refine e_callCl (as := [qI x]) (k_amountIfSettled (h1 F out) hG hA hS) hA fX2_amountIfSettled lkL_116 rfl dL_amountIfSettled_4 rfl (by decide) (Nat.le_of_ble_eq_true rfl) (by decide) (by decide) (fun hc0 o2 w2 hA2 => ?_) (fun j E hj hE => ?_)
  · refine e_i2l dL_amountIfSettled_7 ?_
    refine e_stOut dL_amountIfSettled_8 (fun out2 ho => ?_)
    refine e_goto 15 dL_amountIfSettled_9 (by decide) ?_
    refine e_iconst (z := 0) dL_amountIfSettled_15 ?_
    refine e_iret dL_amountIfSettled_16 rfl ?_
    exact ⟨_, _, _, by rw [hc0], rfl, hA2, fun _ => ho, rfl⟩
  · match j, hj, hE with
    | 0, hj, hE =>
      obtain rfl := Option.some.inj hE
      refine ⟨3, 13, ⟨[], ⟨0, 9, 12, 13⟩, [], _, rfl, (fun z hz => absurd hz (by simp)), by decide, by decide, w_L13, List.mem_of_getElem? (i := 5) rfl, Or.inl ⟨3, rfl, dL_amountIfSettled_12, rfl⟩⟩, rfl, by decide, fun o2 w2 hA2 => ?_⟩
      refine e_iconst (z := 1) dL_amountIfSettled_13 ?_
      refine e_iret dL_amountIfSettled_14 rfl ?_
      exact ⟨_, _, _, by rw [hj], rfl, hA2, fun q => absurd q (by omega), rfl⟩
    | j + 1, hj, hE => exact absurd hE (by simp)
theorem g_amountIfSettled : q_MSW mL_amountIfSettled 3 := ⟨⟨_, _, rfl⟩, fL_amountIfSettled.1, ⟨by decide, by decide⟩, by decide +kernel, by decide, List.mem_filter.mpr ⟨List.mem_append_right _ (List.mem_append_left _ (List.mem_of_getElem? (i := 0) rfl)), rfl⟩, fL_amountIfSettled.2⟩
set_option maxRecDepth 20000 in
set_option maxHeartbeats 4000000 in
theorem c_greatestSize (F : List qE) (out : Nat → Int64) {n : Nat} {A : qA} (hG : GA n A) {o : List qE} {w : Fin 16 → qw} (hA : RA A o w) {x y : Int32} {code : Nat} {v : Int32} {A2 : qA} (hS : S_greatestSize A x y code v A2) : Ct mL_greatestSize 8 1 6 [qR 0 0, qI x, qI y, qR 12 0] 132 (hL o w F out) (WP A2 F code v.toInt64) qNo := by
  refine ct_ofH (by decide +kernel) rfl rfl (Nat.le_of_ble_eq_true rfl) ?_
  show Ev mL_greatestSize 8 0 [some (qR 0 0), some (qI x), some (qI y), some (qR 12 0), none] [] 132 (hL o w F out) 1 6 _ _
  refine e_aload3 dL_greatestSize_0 ?_
  refine e_iconst (z := 0) dL_greatestSize_1 ?_
  refine e_aload0 dL_greatestSize_2 ?_
  refine e_iload1 dL_greatestSize_3 ?_
  refine e_iload2 dL_greatestSize_4 ?_
  refine e_callCl (as := [qI x, qI y]) (k_greatestSize (h1 F out) hG hA hS) hA fX2_greatestSize lkL_119 rfl dL_greatestSize_5 rfl (by decide) (Nat.le_of_ble_eq_true rfl) (by decide) (by decide) (fun hc0 o2 w2 hA2 => ?_) (fun j E hj hE => ?_)
  · refine e_i2l dL_greatestSize_8 ?_
    refine e_stOut dL_greatestSize_9 (fun out2 ho => ?_)
    refine e_goto 21 dL_greatestSize_10 (by decide) ?_
    refine e_iconst (z := 0) dL_greatestSize_21 ?_
    refine e_iret dL_greatestSize_22 rfl ?_
    exact ⟨_, _, _, by rw [hc0], rfl, hA2, fun _ => ho, rfl⟩
  · match j, hj, hE with
    | 0, hj, hE =>
      obtain rfl := Option.some.inj hE
      refine ⟨4, 15, ⟨[], ⟨0, 10, 13, 13⟩, [⟨0, 10, 17, 15⟩], _, rfl, (fun z hz => absurd hz (by simp)), by decide, by decide, w_L13, List.mem_of_getElem? (i := 5) rfl, Or.inr ⟨dL_greatestSize_13, rfl⟩⟩, rfl, by decide, fun o2 w2 hA2 => ?_⟩
      refine e_iconst (z := 1) dL_greatestSize_15 ?_
      refine e_iret dL_greatestSize_16 rfl ?_
      exact ⟨_, _, _, by rw [hj], rfl, hA2, fun q => absurd q (by omega), rfl⟩
    | 1, hj, hE =>
      obtain rfl := Option.some.inj hE
      refine ⟨4, 19, ⟨[⟨0, 10, 13, 13⟩], ⟨0, 10, 17, 15⟩, [], _, rfl, (fun z hz => by
          rcases List.mem_singleton.mp hz with rfl
          · exact Or.inr ⟨by decide, _, w_L13, List.mem_of_getElem? (i := 0) rfl⟩), by decide, by decide, w_L15, List.mem_of_getElem? (i := 12) rfl, Or.inr ⟨dL_greatestSize_17, rfl⟩⟩, rfl, by decide, fun o2 w2 hA2 => ?_⟩
      refine e_iconst (z := 2) dL_greatestSize_19 ?_
      refine e_iret dL_greatestSize_20 rfl ?_
      exact ⟨_, _, _, by rw [hj], rfl, hA2, fun q => absurd q (by omega), rfl⟩
    | j + 2, hj, hE => exact absurd hE (by simp)
theorem g_greatestSize : q_MSW mL_greatestSize 4 := ⟨⟨_, _, rfl⟩, fL_greatestSize.1, ⟨by decide, by decide⟩, by decide +kernel, by decide, List.mem_filter.mpr ⟨List.mem_append_right _ (List.mem_append_left _ (List.mem_of_getElem? (i := 0) rfl)), rfl⟩, fL_greatestSize.2⟩
