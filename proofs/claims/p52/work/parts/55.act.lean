/-! WHAT THE LAW DOES TO A STATE -/
def l_and (y : Int32) (m : Nat) : Nat := (y &&& nI m).toNatClampNeg
theorem l_and_eq (y : Int32) {m : Nat} (hm : m < 2 ^ 31) : y &&& nI m = nI (l_and y m) ∧ l_and y m ≤ m := by
  have h : ∃ k, k ≤ m ∧ y &&& nI m = nI k := by
    refine ⟨(y &&& nI m).toBitVec.toNat, ?_, ?_⟩
    · rw [Int32.toBitVec_and, BitVec.toNat_and]
      refine Nat.le_trans Nat.and_le_right ?_
      show (BitVec.ofNat 32 m).toNat ≤ m
      rw [BitVec.toNat_ofNat]
      exact Nat.mod_le _ _
    · apply Int32.toBitVec_inj.mp
      show (y &&& nI m).toBitVec = BitVec.ofNat 32 _
      rw [BitVec.ofNat_toNat]
      simp
  obtain ⟨k, h1, h2⟩ := h
  have e : l_and y m = k := by
    unfold l_and
    rw [h2, nI_clamp (by omega)]
  rw [e]
  exact ⟨h2, h1⟩
def l_low (v : Int32) (n : Nat) : Nat := l_and v 2147483647 % n
theorem l_low_lt (v : Int32) {n : Nat} (h : 0 < n) : l_low v n < n := Nat.mod_lt _ h
theorem l_rem {k n : Nat} (hk : k < 2 ^ 31) (h0 : 0 < n) (hn : n < 2 ^ 31) : nI k - nI k / nI n * nI n = nI (k % n) := by
  have h1 : k / n * n ≤ k := Nat.div_mul_le_self k n
  have h2 := Nat.div_add_mod k n
  have h3 : n * (k / n) = k / n * n := Nat.mul_comm _ _
  rw [pk_div hk h0 hn, pk_mul, pk_sub h1, show k - k / n * n = k % n by omega]
set_option maxRecDepth 20000 in
set_option maxHeartbeats 4000000 in
theorem w_low (h : qB) (v : Int32) {n : Nat} (h0 : 0 < n) (hn : n < 2 ^ 31) : CtI mL_low 0 [qI v, qI (nI n)] h (fun r h2 => r = nI (l_low v n) ∧ h2 = h) := by
  refine ct_of (by decide +kernel) rfl rfl (Nat.le_of_ble_eq_true rfl) ?_
  show Ev mL_low 0 0 [some (qI v), some (qI (nI n))] [] 124 h 0 0 _ _
  refine e_iload0 dL_low_0 ?_
  refine e_ldcI ckL_7 dL_low_1 ?_
  refine e_iand dL_low_3 ?_
  refine e_iload1 dL_low_4 ?_
  have e := l_and_eq v (m := 2147483647) (by decide)
  rw [show (2147483647 : Int32) = nI 2147483647 from rfl, e.1]
  refine e_irem dL_low_5 (fun q => by have := (nI_eq (b := 0) hn (by decide)).mp q; omega) ?_
  rw [l_rem (by omega) h0 hn]
  refine e_iret dL_low_6 rfl ?_
  exact ⟨_, rfl, rfl, rfl, rfl⟩
abbrev mL_cellX (N : Nat) (xs : Nat → Int32) : qM := (yL_cell, cL_cell, 2, some .int, [], some (N, xs))
set_option maxRecDepth 20000 in
set_option maxHeartbeats 4000000 in
theorem w_cell {N : Nat} {xs : Nat → Int32} (h : qB) (hN : N ≤ 260) {i : Nat} (hi : i ≤ 100) : CtY (N, xs) (mL_cellX N xs) 0 [qS, qI (nI i)] h (fun _ h2 => h2 = h) := by
  refine ctY_of (show plainName RL = true by decide +kernel) rfl rfl (Nat.le_of_ble_eq_true rfl) ?_
  show Ev (mL_cellX N xs) 0 0 [some qS, some (qI (nI i))] [] 124 h 0 0 _ _
  refine e_iload1 dL_cell_0 ?_
  refine e_aloadS dL_cell_1 ?_
  refine e_slen rfl dL_cell_2 ?_
  refine e_icmp_geN 12 dL_cell_3 (by decide) (by omega) (by omega) (fun _ => ?_) (fun hc => ?_)
  · refine e_sipush (v := nI 7919) dL_cell_12 (by decide) ?_
    refine e_iload1 dL_cell_15 ?_
    refine e_iconst (z := 3) dL_cell_16 ?_
    refine e_iadd dL_cell_17 ?_
    refine e_imul dL_cell_18 ?_
    refine e_iload1 dL_cell_19 ?_
    refine e_bipush (v := nI 11) dL_cell_20 (by decide) ?_
    refine e_iadd dL_cell_22 ?_
    refine e_imul dL_cell_23 ?_
    refine e_iret dL_cell_24 rfl ?_
    exact ⟨_, rfl, rfl, rfl⟩
  · refine e_aloadS dL_cell_6 ?_
    refine e_iload1 dL_cell_7 ?_
    refine e_sld (N := N) (xs := xs) rfl dL_cell_8 (vp_in_nI hc (by omega)) ?_
    refine e_goto 24 dL_cell_9 (by decide) ?_
    refine e_iret dL_cell_24 rfl ?_
    exact ⟨_, rfl, rfl, rfl⟩
theorem e_if_gtN {M : qM} {d pc : Nat} {L : List (Option qV)} {st : List qV} {n : Nat} {h : qB} {kc ks : Nat} {P : qP} {X : qX} {x : Nat} {off : Int} (tgt : Nat) (dg : decode M.2.1 pc = .ok (.ifCond .gt off, 3)) (ht : (pc : Int) + off = (tgt : Int)) (hx : x < 2 ^ 31) (kt : 0 < x → Ev M d tgt L (st) n h kc ks P X) (kf : x = 0 → Ev M d (pc + 3) L (st) n h kc ks P X) : Ev M d pc L (qI (nI x) :: st) n h kc ks P X :=
  e_if_gt tgt dg ht (fun q => kt ((nI_ltI (a := 0) (by decide) hx).mp q)) (fun q => kf (by rcases Nat.eq_zero_or_pos x with c | c; exact c; exact absurd ((nI_ltI (a := 0) (by decide) hx).mpr c) q))
theorem e_if_leN {M : qM} {d pc : Nat} {L : List (Option qV)} {st : List qV} {n : Nat} {h : qB} {kc ks : Nat} {P : qP} {X : qX} {x : Nat} {off : Int} (tgt : Nat) (dg : decode M.2.1 pc = .ok (.ifCond .le off, 3)) (ht : (pc : Int) + off = (tgt : Int)) (hx : x < 2 ^ 31) (kt : x = 0 → Ev M d tgt L (st) n h kc ks P X) (kf : 0 < x → Ev M d (pc + 3) L (st) n h kc ks P X) : Ev M d pc L (qI (nI x) :: st) n h kc ks P X :=
  e_if_le tgt dg ht (fun q => kt (by have := (nI_leI (b := 0) hx (by decide)).mp q; omega)) (fun q => kf (by rcases Nat.eq_zero_or_pos x with c | c; exact absurd ((nI_leI (b := 0) hx (by decide)).mpr (by omega)) q; exact c))
def l_to (a s : Nat) : Nat := if a / 2 ^ s % 2 = 1 then a - 2 ^ s else a
theorem z_to : ∀ a, a < 16 → ∀ s, s < 4 → nI a &&& ((nI 1 <<< (nI s &&& 31)) ^^^ (-1)) = nI (l_to a s) ∧ l_to a s < 16 ∧ l_to a s / 2 ^ s % 2 = 0 := by decide +kernel
def l_t (X : qm) (v : Int32) : Nat := l_low (v >>> (nI 4 &&& 31)) (X.1 0 0)
def l_a1 (x : Int32) : Nat := 1 + l_low (x >>> (nI 2 &&& 31)) 15
def l_sz (x : Int32) : Nat := 1 + l_low (x >>> (nI 6 &&& 31)) 50
def l_k3 (x : Int32) : Nat := l_and (x >>> (nI 2 &&& 31)) 3
def l_k1 (x : Int32) : Nat := l_and (x >>> (nI 20 &&& 31)) 1
def l_begin (X : qm) (x : Int32) : Bool × qm := if X.1 0 0 = 8 then (false, X) else if X.1 1 4 = 1 then (if l_to (l_a1 x) (l_low x 4) = 0 then (false, X) else (true, m_begin X (l_low x 4) (l_to (l_a1 x) (l_low x 4)) (l_sz x))) else (false, X)
def l_giveUp (X : qm) (v x : Int32) : Bool × qm := if X.1 0 0 = 0 then (false, X) else if X.1 1 4 = 1 then (if X.1 7 (l_t X v) = 0 then (if l_k3 x = 0 then (true, m_decide X (l_t X v) 2) else (false, X)) else (false, X)) else (false, X)
def l_ask (X : qm) (v x : Int32) : Bool × qm := if X.1 0 0 = 0 then (false, X) else if X.1 1 (l_low x 4) = 1 then (if X.1 9 (8 * l_low x 4 + l_t X v) = 1 then (true, m_send X 6 (l_t X v) (l_low x 4)) else (false, X)) else (false, X)
def l_lose (X : qm) (x : Int32) : Bool × qm := if X.1 0 4 = 0 then (false, X) else (true, m_lose X (l_low x (X.1 0 4)))
def l_crash (X : qm) (x : Int32) : Bool × qm := if X.1 1 (l_low x 5) = 1 then (true, m_crash X (l_low x 5)) else (true, m_recover X (l_low x 5))
def l_rec (X : qm) (x : Int32) : Bool × qm := if X.1 1 (l_low x 5) = 1 then (false, X) else (true, m_recover X (l_low x 5))
def l_dlv (X : qm) (x : Int32) : Bool × qm := if X.1 0 4 = 0 then (false, X) else if l_k1 x = 0 then (true, m_deliver X (l_low x 1)) else (true, m_deliver X (l_low x (X.1 0 4)))
def l_act (X : qm) (v x : Int32) : Bool × qm :=
  if l_and v 15 ≤ 1 then l_begin X x else if l_and v 15 = 2 then l_giveUp X v x else if l_and v 15 = 3 then l_ask X v x else if l_and v 15 = 4 then l_lose X x else if l_and v 15 = 5 then l_crash X x else if l_and v 15 ≤ 7 then l_rec X x else if l_and v 15 = 8 then (true, m_run X) else l_dlv X x
/-- the heap behind: the state, and whether something was done -/
def AQ (h : qB) (buf : Nat → Int32) (sn len : Int32) (rd : Nat → Int32) (X : qm) (R : Bool × qm) : Int32 → qB → Prop := fun r h2 => r = q_b R.1 ∧ ∃ (pi : Nat → Option qK) (c : Nat) (Sv : Nat → qm) (w : Fin 16 → qw), h2 = hK h (oC pi buf (nI c) sn len rd) w 10 ∧ RelC (w 1) R.2 ∧ c ≤ 6 ∧ RelL pi w c Sv ∧ (R.1 = true → 1 ≤ c ∧ Sv (c - 1) = X)
theorem aq_no {h : qB} {pi : Nat → Option qK} {buf : Nat → Int32} {c : Nat} {sn len : Int32} {rd : Nat → Int32} {w : Fin 16 → qw} {X : qm} {Sv : Nat → qm} (hR : RelC (w 1) X) (hc : c ≤ 6) (hL : RelL pi w c Sv) : AQ h buf sn len rd X (false, X) (nI 0) (hK h (oC pi buf (nI c) sn len rd) w 10) :=
  ⟨rfl, pi, c, Sv, w, rfl, hR, hc, hL, fun q => by cases q⟩
theorem aq_yes {h : qB} {pi' : Nat → Option qK} {buf : Nat → Int32} {c : Nat} {sn len : Int32} {rd : Nat → Int32} {w' : Fin 16 → qw} {X Y : qm} {Sv : Nat → qm} (hc : c ≤ 6) (hR : RelC (w' 1) Y) (hL : RelL pi' w' (m_svC c) (m_sv c Sv X)) : AQ h buf sn len rd X (true, Y) (nI 1) (hK h (oC pi' buf (nI (m_svC c)) sn len rd) w' 10) := by
  refine ⟨rfl, pi', m_svC c, m_sv c Sv X, w', rfl, hR, ?_, hL, fun _ => ⟨?_, ?_⟩⟩
  · unfold m_svC; split <;> omega
  · unfold m_svC; split <;> omega
  · unfold m_svC m_sv
    by_cases q : c = 6
    · rw [if_pos q, if_pos q]; rfl
    · rw [if_neg q, if_neg q]; exact if_pos (by omega)
set_option maxRecDepth 20000 in
set_option maxHeartbeats 4000000 in
theorem a_begin (h : qB) (pi : Nat → Option qK) (buf : Nat → Int32) (c : Nat) (sn len : Int32) (rd : Nat → Int32) (w : Fin 16 → qw) (X : qm) (hR : RelC (w 1) X) (hJ : J X) (Sv : Nat → qm) (hc : c ≤ 6) (hL : RelL pi w c Sv) (v x l_tv : Int32) : Ev mL_act 6 92 [some (qR 0 0), some (qI v), some (qI x), some (qI (nI (X.1 0 0))), some (qI (l_tv)), some (qI (nI (l_low x 4))), some (qI (nI (l_low x 5))), none] [] 124 (hK h (oC pi buf (nI c) sn len rd) w 10) 0 0 (fun r n h' => ∃ y, r = some (qI y) ∧ n = 124 ∧ AQ h buf sn len rd X (l_begin X x) y h') qNo := by
  have i1 := iV1 hJ.1
  have i2 := iV2 hJ.1
  have hs := l_low_lt x (n := 4) (by decide)
  have hk := l_low_lt x (n := 5) (by decide)
  have ha : l_a1 x < 16 := by unfold l_a1; have := l_low_lt (x >>> (nI 2 &&& 31)) (n := 15) (by decide); omega
  have hsz : l_sz x ≤ 50 := by unfold l_sz; have := l_low_lt (x >>> (nI 6 &&& 31)) (n := 50) (by decide); omega
  obtain ⟨z1, z2, z3⟩ := z_to _ ha _ hs
  refine e_iconst (z := 1) dL_act_92 ?_
  refine e_iload2 dL_act_93 ?_
  refine e_iconst (z := 2) dL_act_94 ?_
  refine e_ishr dL_act_95 ?_
  refine e_bipush (v := nI 15) dL_act_96 (by decide) ?_
  refine e_sI (M' := mL_low) fL_low lkL_60 (w_low _ (x >>> (nI 2 &&& 31)) (n := 15) (by decide) (by decide)) rfl rfl dL_act_98 (by decide) (Nat.le_of_ble_eq_true rfl) rfl ?_
  rintro _ _ ⟨rfl, rfl⟩
  refine e_iaddN dL_act_101 ?_
  show Ev mL_act 6 102 _ [qI (nI (l_a1 x))] _ _ _ _ _ _
  refine e_iconst (z := 1) dL_act_102 ?_
  refine e_iload5 dL_act_103 ?_
  refine e_ishl dL_act_105 ?_
  refine e_iconstM dL_act_106 ?_
  refine e_ixor dL_act_107 ?_
  refine e_iand dL_act_108 ?_
  rw [z1]
  refine e_istore7 dL_act_109 rfl (by decide) ?_
  refine e_iload3 dL_act_111 ?_
  refine e_bipush (v := nI 8) dL_act_112 (by decide) ?_
  first | refine e_icmp_eqN 130 dL_act_114 (by decide) (by omega) (by omega) (fun hc114 => ?_) (fun hc114 => ?_) | refine e_icmp_eq 130 dL_act_114 (by decide) (fun hc114 => ?_) (fun hc114 => ?_)
  · refine e_iconst (z := 0) dL_act_130 ?_
    refine e_zret dL_act_131 rfl (by first | rfl | exact q_nar _) ?_
    refine ⟨_, rfl, rfl, ?_⟩
    unfold l_begin
    (repeat' split) <;> first | exact aq_no hR hc hL | omega
  · refine e_aload0 dL_act_117 ?_
    refine e_iconst (z := 4) dL_act_118 ?_
    refine e_vI (M' := mX2_isUp) fX2_isUp lkL_30 (v_isUp h pi buf (nI c) sn len rd w X hR hJ (k := 4) (by decide)) rfl rfl dL_act_119 (by rw [hK_0]; rfl) rfl (by decide) (Nat.le_of_ble_eq_true rfl) rfl ?_
    rintro _ _ ⟨rfl, rfl⟩
    generalize hB : decide (X.1 1 4 = 1) = B1
    have hb1 : B1.toNat < 2 := by cases B1 <;> decide
    have hb2 : B1.toNat = 1 ↔ X.1 1 4 = 1 := by rw [← hB]; by_cases q : X.1 1 4 = 1 <;> simp [q]
    first | refine e_if_eqN 130 dL_act_122 (by decide) (by omega) (fun hc122 => ?_) (fun hc122 => ?_) | refine e_if_eq 130 dL_act_122 (by decide) (fun hc122 => ?_) (fun hc122 => ?_)
    · refine e_iconst (z := 0) dL_act_130 ?_
      refine e_zret dL_act_131 rfl (by first | rfl | exact q_nar _) ?_
      refine ⟨_, rfl, rfl, ?_⟩
      unfold l_begin
      (repeat' split) <;> first | exact aq_no hR hc hL | omega
    · refine e_iload7 dL_act_125 ?_
      first | refine e_if_neN 132 dL_act_127 (by decide) (by omega) (fun hc127 => ?_) (fun hc127 => ?_) | refine e_if_ne 132 dL_act_127 (by decide) (fun hc127 => ?_) (fun hc127 => ?_)
      · refine e_aload0 dL_act_132 ?_
        refine e_iload5 dL_act_133 ?_
        refine e_iload7 dL_act_135 ?_
        refine e_iconst (z := 1) dL_act_137 ?_
        refine e_iload2 dL_act_138 ?_
        refine e_bipush (v := nI 6) dL_act_139 (by decide) ?_
        refine e_ishr dL_act_141 ?_
        refine e_bipush (v := nI 50) dL_act_142 (by decide) ?_
        refine e_sI (M' := mL_low) fL_low lkL_60 (w_low _ (x >>> (nI 6 &&& 31)) (n := 50) (by decide) (by decide)) rfl rfl dL_act_144 (by decide) (Nat.le_of_ble_eq_true rfl) rfl ?_
        rintro _ _ ⟨rfl, rfl⟩
        refine e_iaddN dL_act_147 ?_
        show Ev mL_act 6 148 _ [qI (nI (l_sz x)), qI (nI (l_to (l_a1 x) (l_low x 4))), qI (nI (l_low x 4)), qR 0 0] _ _ _ _ _ _
        refine e_vI (M' := mX2_begin) fX2_begin lkL_65 (v_begin h pi buf c sn len rd w X hR hJ Sv hc hL (f := l_low x 4) (to := l_to (l_a1 x) (l_low x 4)) (sz := l_sz x) hs (by omega) z2 z3 (by unfold l_sz; omega) hsz ⟨by omega, by omega⟩) rfl rfl dL_act_148 (by rw [hK_0]; rfl) rfl (by decide) (Nat.le_of_ble_eq_true rfl) rfl ?_
        rintro _ _ ⟨rfl, pi2, w2, rfl, r1, r2, r3⟩
        refine e_pop dL_act_151 rfl ?_
        refine e_iconst (z := 1) dL_act_152 ?_
        refine e_zret dL_act_153 rfl (by first | rfl | exact q_nar _) ?_
        refine ⟨_, rfl, rfl, ?_⟩
        unfold l_begin
        (repeat' split) <;> first | exact aq_yes hc r1 r3 | omega
      · refine e_iconst (z := 0) dL_act_130 ?_
        refine e_zret dL_act_131 rfl (by first | rfl | exact q_nar _) ?_
        refine ⟨_, rfl, rfl, ?_⟩
        unfold l_begin
        (repeat' split) <;> first | exact aq_no hR hc hL | omega
set_option maxRecDepth 20000 in
set_option maxHeartbeats 4000000 in
theorem a_giveUp (h : qB) (pi : Nat → Option qK) (buf : Nat → Int32) (c : Nat) (sn len : Int32) (rd : Nat → Int32) (w : Fin 16 → qw) (X : qm) (hR : RelC (w 1) X) (hJ : J X) (Sv : Nat → qm) (hc : c ≤ 6) (hL : RelL pi w c Sv) (v x : Int32) (hT : ¬ X.1 0 0 = 0) : Ev mL_act 6 154 [some (qR 0 0), some (qI v), some (qI x), some (qI (nI (X.1 0 0))), some (qI (nI (l_t X v))), some (qI (nI (l_low x 4))), some (qI (nI (l_low x 5))), none] [] 124 (hK h (oC pi buf (nI c) sn len rd) w 10) 0 0 (fun r n h' => ∃ y, r = some (qI y) ∧ n = 124 ∧ AQ h buf sn len rd X (l_giveUp X v x) y h') qNo := by
  have i1 := iV1 hJ.1
  have i2 := iV2 hJ.1
  have hs := l_low_lt x (n := 4) (by decide)
  have hk := l_low_lt x (n := 5) (by decide)
  have ht : l_t X v < X.1 0 0 := l_low_lt _ (by omega)
  have h7 := (iV4 hJ.1 (l_t X v) (by omega)).2.2.2.2.2.1
  refine e_iload4 dL_act_154 ?_
  refine e_if_lt 184 dL_act_156 (by decide) (fun hc => absurd hc (nI_pos (by omega))) (fun hc156 => ?_)
  refine e_aload0 dL_act_159 ?_
  refine e_iconst (z := 4) dL_act_160 ?_
  refine e_vI (M' := mX2_isUp) fX2_isUp lkL_30 (v_isUp h pi buf (nI c) sn len rd w X hR hJ (k := 4) (by decide)) rfl rfl dL_act_161 (by rw [hK_0]; rfl) rfl (by decide) (Nat.le_of_ble_eq_true rfl) rfl ?_
  rintro _ _ ⟨rfl, rfl⟩
  generalize hB : decide (X.1 1 4 = 1) = B1
  have hb1 : B1.toNat < 2 := by cases B1 <;> decide
  have hb2 : B1.toNat = 1 ↔ X.1 1 4 = 1 := by rw [← hB]; by_cases q : X.1 1 4 = 1 <;> simp [q]
  first | refine e_if_eqN 184 dL_act_164 (by decide) (by omega) (fun hc164 => ?_) (fun hc164 => ?_) | refine e_if_eq 184 dL_act_164 (by decide) (fun hc164 => ?_) (fun hc164 => ?_)
  · refine e_iconst (z := 0) dL_act_184 ?_
    refine e_zret dL_act_185 rfl (by first | rfl | exact q_nar _) ?_
    refine ⟨_, rfl, rfl, ?_⟩
    unfold l_giveUp
    (repeat' split) <;> first | exact aq_no hR hc hL | omega
  · refine e_aload0 dL_act_167 ?_
    refine e_iload4 dL_act_168 ?_
    refine e_vI (M' := mX2_outcome) fX2_outcome lkL_38 (v_outcome h pi buf (nI c) sn len rd w X hR hJ (t := l_t X v) ht) rfl rfl dL_act_170 (by rw [hK_0]; rfl) rfl (by decide) (Nat.le_of_ble_eq_true rfl) rfl ?_
    rintro _ _ ⟨rfl, rfl⟩
    refine e_if_gtN 184 dL_act_173 (by decide) (by omega) (fun hc173 => ?_) (fun hc173 => ?_)
    · refine e_iconst (z := 0) dL_act_184 ?_
      refine e_zret dL_act_185 rfl (by first | rfl | exact q_nar _) ?_
      refine ⟨_, rfl, rfl, ?_⟩
      unfold l_giveUp
      (repeat' split) <;> first | exact aq_no hR hc hL | omega
    · refine e_iload2 dL_act_176 ?_
      refine e_iconst (z := 2) dL_act_177 ?_
      refine e_ishr dL_act_178 ?_
      refine e_iconst (z := 3) dL_act_179 ?_
      refine e_iand dL_act_180 ?_
      have e3 := l_and_eq (x >>> (nI 2 &&& 31)) (m := 3) (by decide)
      rw [e3.1]
      show Ev mL_act 6 181 _ [qI (nI (l_k3 x))] _ _ _ _ _ _
      have e3l : l_k3 x ≤ 3 := e3.2
      refine e_if_leN 186 dL_act_181 (by decide) (by omega) (fun hc181 => ?_) (fun hc181 => ?_)
      · refine e_aload0 dL_act_186 ?_
        refine e_iload4 dL_act_187 ?_
        refine e_vI (M' := mX2_giveUp) fX2_giveUp lkL_69 (v_giveUp h pi buf c sn len rd w X hR hJ Sv hc hL (t := l_t X v) ht ⟨by omega, by omega⟩) rfl rfl dL_act_189 (by rw [hK_0]; rfl) rfl (by decide) (Nat.le_of_ble_eq_true rfl) rfl ?_
        rintro _ _ ⟨rfl, pi2, w2, rfl, r1, r2, r3⟩
        refine e_pop dL_act_192 rfl ?_
        refine e_iconst (z := 1) dL_act_193 ?_
        refine e_zret dL_act_194 rfl (by first | rfl | exact q_nar _) ?_
        refine ⟨_, rfl, rfl, ?_⟩
        unfold l_giveUp
        (repeat' split) <;> first | exact aq_yes hc r1 r3 | omega
      · refine e_iconst (z := 0) dL_act_184 ?_
        refine e_zret dL_act_185 rfl (by first | rfl | exact q_nar _) ?_
        refine ⟨_, rfl, rfl, ?_⟩
        unfold l_giveUp
        (repeat' split) <;> first | exact aq_no hR hc hL | omega
set_option maxRecDepth 20000 in
set_option maxHeartbeats 4000000 in
theorem a_giveUp0 (h : qB) (pi : Nat → Option qK) (buf : Nat → Int32) (c : Nat) (sn len : Int32) (rd : Nat → Int32) (w : Fin 16 → qw) (X : qm) (hR : RelC (w 1) X) (hJ : J X) (Sv : Nat → qm) (hc : c ≤ 6) (hL : RelL pi w c Sv) (v x : Int32) (hT : X.1 0 0 = 0) : Ev mL_act 6 154 [some (qR 0 0), some (qI v), some (qI x), some (qI (nI (X.1 0 0))), some (qI (-1)), some (qI (nI (l_low x 4))), some (qI (nI (l_low x 5))), none] [] 124 (hK h (oC pi buf (nI c) sn len rd) w 10) 0 0 (fun r n h' => ∃ y, r = some (qI y) ∧ n = 124 ∧ AQ h buf sn len rd X (l_giveUp X v x) y h') qNo := by
  have i1 := iV1 hJ.1
  have i2 := iV2 hJ.1
  have hs := l_low_lt x (n := 4) (by decide)
  have hk := l_low_lt x (n := 5) (by decide)
  refine e_iload4 dL_act_154 ?_
  refine e_if_lt 184 dL_act_156 (by decide) (fun hc156 => ?_) (fun hc => absurd (by decide) hc)
  refine e_iconst (z := 0) dL_act_184 ?_
  refine e_zret dL_act_185 rfl (by first | rfl | exact q_nar _) ?_
  refine ⟨_, rfl, rfl, ?_⟩
  unfold l_giveUp
  rw [if_pos hT]
  exact aq_no hR hc hL
set_option maxRecDepth 20000 in
set_option maxHeartbeats 4000000 in
theorem a_ask (h : qB) (pi : Nat → Option qK) (buf : Nat → Int32) (c : Nat) (sn len : Int32) (rd : Nat → Int32) (w : Fin 16 → qw) (X : qm) (hR : RelC (w 1) X) (hJ : J X) (Sv : Nat → qm) (hc : c ≤ 6) (hL : RelL pi w c Sv) (v x : Int32) (hT : ¬ X.1 0 0 = 0) : Ev mL_act 6 195 [some (qR 0 0), some (qI v), some (qI x), some (qI (nI (X.1 0 0))), some (qI (nI (l_t X v))), some (qI (nI (l_low x 4))), some (qI (nI (l_low x 5))), none] [] 124 (hK h (oC pi buf (nI c) sn len rd) w 10) 0 0 (fun r n h' => ∃ y, r = some (qI y) ∧ n = 124 ∧ AQ h buf sn len rd X (l_ask X v x) y h') qNo := by
  have i1 := iV1 hJ.1
  have i2 := iV2 hJ.1
  have hs := l_low_lt x (n := 4) (by decide)
  have hk := l_low_lt x (n := 5) (by decide)
  have ht : l_t X v < X.1 0 0 := l_low_lt _ (by omega)
  have h9 := (iV6 hJ.1 (l_low x 4) (l_t X v) hs (by omega)).1
  refine e_iload4 dL_act_195 ?_
  refine e_if_lt 221 dL_act_197 (by decide) (fun hc => absurd hc (nI_pos (by omega))) (fun hc197 => ?_)
  refine e_aload0 dL_act_200 ?_
  refine e_iload5 dL_act_201 ?_
  refine e_vI (M' := mX2_isUp) fX2_isUp lkL_30 (v_isUp h pi buf (nI c) sn len rd w X hR hJ (k := l_low x 4) (by omega)) rfl rfl dL_act_203 (by rw [hK_0]; rfl) rfl (by decide) (Nat.le_of_ble_eq_true rfl) rfl ?_
  rintro _ _ ⟨rfl, rfl⟩
  generalize hB : decide (X.1 1 (l_low x 4) = 1) = B1
  have hb1 : B1.toNat < 2 := by cases B1 <;> decide
  have hb2 : B1.toNat = 1 ↔ X.1 1 (l_low x 4) = 1 := by rw [← hB]; by_cases q : X.1 1 (l_low x 4) = 1 <;> simp [q]
  first | refine e_if_eqN 221 dL_act_206 (by decide) (by omega) (fun hc206 => ?_) (fun hc206 => ?_) | refine e_if_eq 221 dL_act_206 (by decide) (fun hc206 => ?_) (fun hc206 => ?_)
  · refine e_iconst (z := 0) dL_act_221 ?_
    refine e_zret dL_act_222 rfl (by first | rfl | exact q_nar _) ?_
    refine ⟨_, rfl, rfl, ?_⟩
    unfold l_ask
    (repeat' split) <;> first | exact aq_no hR hc hL | omega
  · refine e_aload0 dL_act_209 ?_
    refine e_iload5 dL_act_210 ?_
    refine e_iload4 dL_act_212 ?_
    refine e_vI (M' := mX2_state) fX2_state lkL_47 (v_state h pi buf (nI c) sn len rd w X hR hJ (s := l_low x 4) hs (t := l_t X v) ht) rfl rfl dL_act_214 (by rw [hK_0]; rfl) rfl (by decide) (Nat.le_of_ble_eq_true rfl) rfl ?_
    rintro _ _ ⟨rfl, rfl⟩
    refine e_iconst (z := 1) dL_act_217 ?_
    first | refine e_icmp_eqN 223 dL_act_218 (by decide) (by omega) (by omega) (fun hc218 => ?_) (fun hc218 => ?_) | refine e_icmp_eq 223 dL_act_218 (by decide) (fun hc218 => ?_) (fun hc218 => ?_)
    · refine e_aload0 dL_act_223 ?_
      refine e_iload5 dL_act_224 ?_
      refine e_iload4 dL_act_226 ?_
      refine e_vI (M' := mX2_ask) fX2_ask lkL_72 (v_ask h pi buf c sn len rd w X hR hJ Sv hc hL (s := l_low x 4) hs (t := l_t X v) ht ⟨by omega, by omega⟩) rfl rfl dL_act_228 (by rw [hK_0]; rfl) rfl (by decide) (Nat.le_of_ble_eq_true rfl) rfl ?_
      rintro _ _ ⟨rfl, pi2, w2, rfl, r1, r2, r3⟩
      refine e_pop dL_act_231 rfl ?_
      refine e_iconst (z := 1) dL_act_232 ?_
      refine e_zret dL_act_233 rfl (by first | rfl | exact q_nar _) ?_
      refine ⟨_, rfl, rfl, ?_⟩
      unfold l_ask
      (repeat' split) <;> first | exact aq_yes hc r1 r3 | omega
    · refine e_iconst (z := 0) dL_act_221 ?_
      refine e_zret dL_act_222 rfl (by first | rfl | exact q_nar _) ?_
      refine ⟨_, rfl, rfl, ?_⟩
      unfold l_ask
      (repeat' split) <;> first | exact aq_no hR hc hL | omega
set_option maxRecDepth 20000 in
set_option maxHeartbeats 4000000 in
theorem a_ask0 (h : qB) (pi : Nat → Option qK) (buf : Nat → Int32) (c : Nat) (sn len : Int32) (rd : Nat → Int32) (w : Fin 16 → qw) (X : qm) (hR : RelC (w 1) X) (hJ : J X) (Sv : Nat → qm) (hc : c ≤ 6) (hL : RelL pi w c Sv) (v x : Int32) (hT : X.1 0 0 = 0) : Ev mL_act 6 195 [some (qR 0 0), some (qI v), some (qI x), some (qI (nI (X.1 0 0))), some (qI (-1)), some (qI (nI (l_low x 4))), some (qI (nI (l_low x 5))), none] [] 124 (hK h (oC pi buf (nI c) sn len rd) w 10) 0 0 (fun r n h' => ∃ y, r = some (qI y) ∧ n = 124 ∧ AQ h buf sn len rd X (l_ask X v x) y h') qNo := by
  have i1 := iV1 hJ.1
  have i2 := iV2 hJ.1
  have hs := l_low_lt x (n := 4) (by decide)
  have hk := l_low_lt x (n := 5) (by decide)
  refine e_iload4 dL_act_195 ?_
  refine e_if_lt 221 dL_act_197 (by decide) (fun hc197 => ?_) (fun hc => absurd (by decide) hc)
  refine e_iconst (z := 0) dL_act_221 ?_
  refine e_zret dL_act_222 rfl (by first | rfl | exact q_nar _) ?_
  refine ⟨_, rfl, rfl, ?_⟩
  unfold l_ask
  rw [if_pos hT]
  exact aq_no hR hc hL
set_option maxRecDepth 20000 in
set_option maxHeartbeats 4000000 in
theorem a_lose (h : qB) (pi : Nat → Option qK) (buf : Nat → Int32) (c : Nat) (sn len : Int32) (rd : Nat → Int32) (w : Fin 16 → qw) (X : qm) (hR : RelC (w 1) X) (hJ : J X) (Sv : Nat → qm) (hc : c ≤ 6) (hL : RelL pi w c Sv) (v x l_tv : Int32) : Ev mL_act 6 234 [some (qR 0 0), some (qI v), some (qI x), some (qI (nI (X.1 0 0))), some (qI (l_tv)), some (qI (nI (l_low x 4))), some (qI (nI (l_low x 5))), none] [] 124 (hK h (oC pi buf (nI c) sn len rd) w 10) 0 0 (fun r n h' => ∃ y, r = some (qI y) ∧ n = 124 ∧ AQ h buf sn len rd X (l_lose X x) y h') qNo := by
  have i1 := iV1 hJ.1
  have i2 := iV2 hJ.1
  have hs := l_low_lt x (n := 4) (by decide)
  have hk := l_low_lt x (n := 5) (by decide)
  refine e_aload0 dL_act_234 ?_
  refine e_vI (M' := mX2_waiting) fX2_waiting lkL_18 (v_waiting h pi buf (nI c) sn len rd w X hR hJ) rfl rfl dL_act_235 (by rw [hK_0]; rfl) rfl (by decide) (Nat.le_of_ble_eq_true rfl) rfl ?_
  rintro _ _ ⟨rfl, rfl⟩
  first | refine e_if_neN 243 dL_act_238 (by decide) (by omega) (fun hc238 => ?_) (fun hc238 => ?_) | refine e_if_ne 243 dL_act_238 (by decide) (fun hc238 => ?_) (fun hc238 => ?_)
  · refine e_aload0 dL_act_243 ?_
    refine e_iload2 dL_act_244 ?_
    refine e_aload0 dL_act_245 ?_
    refine e_vI (M' := mX2_waiting) fX2_waiting lkL_18 (v_waiting h pi buf (nI c) sn len rd w X hR hJ) rfl rfl dL_act_246 (by rw [hK_0]; rfl) rfl (by decide) (Nat.le_of_ble_eq_true rfl) rfl ?_
    rintro _ _ ⟨rfl, rfl⟩
    refine e_sI (M' := mL_low) fL_low lkL_60 (w_low _ (x) (n := X.1 0 4) (by omega) (by omega)) rfl rfl dL_act_249 (by decide) (Nat.le_of_ble_eq_true rfl) rfl ?_
    rintro _ _ ⟨rfl, rfl⟩
    refine e_vI (M' := mX2_lose) fX2_lose lkL_75 (v_lose h pi buf c sn len rd w X hR hJ Sv hc hL (p := l_low x (X.1 0 4)) (l_low_lt x (by omega))) rfl rfl dL_act_252 (by rw [hK_0]; rfl) rfl (by decide) (Nat.le_of_ble_eq_true rfl) rfl ?_
    rintro _ _ ⟨rfl, pi2, w2, rfl, r1, r2, r3⟩
    refine e_pop dL_act_255 rfl ?_
    refine e_iconst (z := 1) dL_act_256 ?_
    refine e_zret dL_act_257 rfl (by first | rfl | exact q_nar _) ?_
    refine ⟨_, rfl, rfl, ?_⟩
    unfold l_lose
    (repeat' split) <;> first | exact aq_yes hc r1 r3 | omega
  · refine e_iconst (z := 0) dL_act_241 ?_
    refine e_zret dL_act_242 rfl (by first | rfl | exact q_nar _) ?_
    refine ⟨_, rfl, rfl, ?_⟩
    unfold l_lose
    (repeat' split) <;> first | exact aq_no hR hc hL | omega
set_option maxRecDepth 20000 in
set_option maxHeartbeats 4000000 in
theorem a_crash (h : qB) (pi : Nat → Option qK) (buf : Nat → Int32) (c : Nat) (sn len : Int32) (rd : Nat → Int32) (w : Fin 16 → qw) (X : qm) (hR : RelC (w 1) X) (hJ : J X) (Sv : Nat → qm) (hc : c ≤ 6) (hL : RelL pi w c Sv) (v x l_tv : Int32) : Ev mL_act 6 258 [some (qR 0 0), some (qI v), some (qI x), some (qI (nI (X.1 0 0))), some (qI (l_tv)), some (qI (nI (l_low x 4))), some (qI (nI (l_low x 5))), none] [] 124 (hK h (oC pi buf (nI c) sn len rd) w 10) 0 0 (fun r n h' => ∃ y, r = some (qI y) ∧ n = 124 ∧ AQ h buf sn len rd X (l_crash X x) y h') qNo := by
  have i1 := iV1 hJ.1
  have i2 := iV2 hJ.1
  have hs := l_low_lt x (n := 4) (by decide)
  have hk := l_low_lt x (n := 5) (by decide)
  refine e_aload0 dL_act_258 ?_
  refine e_iload6 dL_act_259 ?_
  refine e_vI (M' := mX2_isUp) fX2_isUp lkL_30 (v_isUp h pi buf (nI c) sn len rd w X hR hJ (k := l_low x 5) hk) rfl rfl dL_act_261 (by rw [hK_0]; rfl) rfl (by decide) (Nat.le_of_ble_eq_true rfl) rfl ?_
  rintro _ _ ⟨rfl, rfl⟩
  generalize hB : decide (X.1 1 (l_low x 5) = 1) = B1
  have hb1 : B1.toNat < 2 := by cases B1 <;> decide
  have hb2 : B1.toNat = 1 ↔ X.1 1 (l_low x 5) = 1 := by rw [← hB]; by_cases q : X.1 1 (l_low x 5) = 1 <;> simp [q]
  first | refine e_if_eqN 277 dL_act_264 (by decide) (by omega) (fun hc264 => ?_) (fun hc264 => ?_) | refine e_if_eq 277 dL_act_264 (by decide) (fun hc264 => ?_) (fun hc264 => ?_)
  · refine e_aload0 dL_act_277 ?_
    refine e_iload6 dL_act_278 ?_
    refine e_vI (M' := mX2_recover) fX2_recover lkL_81 (v_recover h pi buf c sn len rd w X hR hJ Sv hc hL (k := l_low x 5) hk (by omega)) rfl rfl dL_act_280 (by rw [hK_0]; rfl) rfl (by decide) (Nat.le_of_ble_eq_true rfl) rfl ?_
    rintro _ _ ⟨rfl, pi2, w2, rfl, r1, r2, r3⟩
    refine e_pop dL_act_283 rfl ?_
    refine e_iconst (z := 1) dL_act_284 ?_
    refine e_zret dL_act_285 rfl (by first | rfl | exact q_nar _) ?_
    refine ⟨_, rfl, rfl, ?_⟩
    unfold l_crash
    (repeat' split) <;> first | exact aq_yes hc r1 r3 | omega
  · refine e_aload0 dL_act_267 ?_
    refine e_iload6 dL_act_268 ?_
    refine e_vI (M' := mX2_crash) fX2_crash lkL_78 (v_crash h pi buf c sn len rd w X hR hJ Sv hc hL (k := l_low x 5) hk (by omega)) rfl rfl dL_act_270 (by rw [hK_0]; rfl) rfl (by decide) (Nat.le_of_ble_eq_true rfl) rfl ?_
    rintro _ _ ⟨rfl, pi2, w2, rfl, r1, r2, r3⟩
    refine e_pop dL_act_273 rfl ?_
    refine e_goto 284 dL_act_274 (by decide) ?_
    refine e_iconst (z := 1) dL_act_284 ?_
    refine e_zret dL_act_285 rfl (by first | rfl | exact q_nar _) ?_
    refine ⟨_, rfl, rfl, ?_⟩
    unfold l_crash
    (repeat' split) <;> first | exact aq_yes hc r1 r3 | omega
set_option maxRecDepth 20000 in
set_option maxHeartbeats 4000000 in
theorem a_rec (h : qB) (pi : Nat → Option qK) (buf : Nat → Int32) (c : Nat) (sn len : Int32) (rd : Nat → Int32) (w : Fin 16 → qw) (X : qm) (hR : RelC (w 1) X) (hJ : J X) (Sv : Nat → qm) (hc : c ≤ 6) (hL : RelL pi w c Sv) (v x l_tv : Int32) : Ev mL_act 6 286 [some (qR 0 0), some (qI v), some (qI x), some (qI (nI (X.1 0 0))), some (qI (l_tv)), some (qI (nI (l_low x 4))), some (qI (nI (l_low x 5))), none] [] 124 (hK h (oC pi buf (nI c) sn len rd) w 10) 0 0 (fun r n h' => ∃ y, r = some (qI y) ∧ n = 124 ∧ AQ h buf sn len rd X (l_rec X x) y h') qNo := by
  have i1 := iV1 hJ.1
  have i2 := iV2 hJ.1
  have hs := l_low_lt x (n := 4) (by decide)
  have hk := l_low_lt x (n := 5) (by decide)
  refine e_aload0 dL_act_286 ?_
  refine e_iload6 dL_act_287 ?_
  refine e_vI (M' := mX2_isUp) fX2_isUp lkL_30 (v_isUp h pi buf (nI c) sn len rd w X hR hJ (k := l_low x 5) hk) rfl rfl dL_act_289 (by rw [hK_0]; rfl) rfl (by decide) (Nat.le_of_ble_eq_true rfl) rfl ?_
  rintro _ _ ⟨rfl, rfl⟩
  generalize hB : decide (X.1 1 (l_low x 5) = 1) = B1
  have hb1 : B1.toNat < 2 := by cases B1 <;> decide
  have hb2 : B1.toNat = 1 ↔ X.1 1 (l_low x 5) = 1 := by rw [← hB]; by_cases q : X.1 1 (l_low x 5) = 1 <;> simp [q]
  first | refine e_if_eqN 297 dL_act_292 (by decide) (by omega) (fun hc292 => ?_) (fun hc292 => ?_) | refine e_if_eq 297 dL_act_292 (by decide) (fun hc292 => ?_) (fun hc292 => ?_)
  · refine e_aload0 dL_act_297 ?_
    refine e_iload6 dL_act_298 ?_
    refine e_vI (M' := mX2_recover) fX2_recover lkL_81 (v_recover h pi buf c sn len rd w X hR hJ Sv hc hL (k := l_low x 5) hk (by omega)) rfl rfl dL_act_300 (by rw [hK_0]; rfl) rfl (by decide) (Nat.le_of_ble_eq_true rfl) rfl ?_
    rintro _ _ ⟨rfl, pi2, w2, rfl, r1, r2, r3⟩
    refine e_pop dL_act_303 rfl ?_
    refine e_iconst (z := 1) dL_act_304 ?_
    refine e_zret dL_act_305 rfl (by first | rfl | exact q_nar _) ?_
    refine ⟨_, rfl, rfl, ?_⟩
    unfold l_rec
    (repeat' split) <;> first | exact aq_yes hc r1 r3 | omega
  · refine e_iconst (z := 0) dL_act_295 ?_
    refine e_zret dL_act_296 rfl (by first | rfl | exact q_nar _) ?_
    refine ⟨_, rfl, rfl, ?_⟩
    unfold l_rec
    (repeat' split) <;> first | exact aq_no hR hc hL | omega
set_option maxRecDepth 20000 in
set_option maxHeartbeats 4000000 in
theorem a_run (h : qB) (pi : Nat → Option qK) (buf : Nat → Int32) (c : Nat) (sn len : Int32) (rd : Nat → Int32) (w : Fin 16 → qw) (X : qm) (hR : RelC (w 1) X) (hJ : J X) (Sv : Nat → qm) (hc : c ≤ 6) (hL : RelL pi w c Sv) (v x l_tv : Int32) : Ev mL_act 6 306 [some (qR 0 0), some (qI v), some (qI x), some (qI (nI (X.1 0 0))), some (qI (l_tv)), some (qI (nI (l_low x 4))), some (qI (nI (l_low x 5))), none] [] 124 (hK h (oC pi buf (nI c) sn len rd) w 10) 0 0 (fun r n h' => ∃ y, r = some (qI y) ∧ n = 124 ∧ AQ h buf sn len rd X ((true, m_run X)) y h') qNo := by
  have i1 := iV1 hJ.1
  have i2 := iV2 hJ.1
  have hs := l_low_lt x (n := 4) (by decide)
  have hk := l_low_lt x (n := 5) (by decide)
  refine e_aload0 dL_act_306 ?_
  refine e_vI (M' := mX2_deliverAll) fX2_deliverAll lkL_84 (v_deliverAll h pi buf c sn len rd w X hR hJ Sv hc hL) rfl rfl dL_act_307 (by rw [hK_0]; rfl) rfl (by decide) (Nat.le_of_ble_eq_true rfl) rfl ?_
  rintro _ _ ⟨rfl, pi2, w2, rfl, r1, r2, r3⟩
  refine e_pop dL_act_310 rfl ?_
  refine e_iconst (z := 1) dL_act_311 ?_
  refine e_zret dL_act_312 rfl (by first | rfl | exact q_nar _) ?_
  exact ⟨_, rfl, rfl, aq_yes hc r1 r3⟩
set_option maxRecDepth 20000 in
set_option maxHeartbeats 4000000 in
theorem a_dlv (h : qB) (pi : Nat → Option qK) (buf : Nat → Int32) (c : Nat) (sn len : Int32) (rd : Nat → Int32) (w : Fin 16 → qw) (X : qm) (hR : RelC (w 1) X) (hJ : J X) (Sv : Nat → qm) (hc : c ≤ 6) (hL : RelL pi w c Sv) (v x l_tv : Int32) : Ev mL_act 6 313 [some (qR 0 0), some (qI v), some (qI x), some (qI (nI (X.1 0 0))), some (qI (l_tv)), some (qI (nI (l_low x 4))), some (qI (nI (l_low x 5))), none] [] 124 (hK h (oC pi buf (nI c) sn len rd) w 10) 0 0 (fun r n h' => ∃ y, r = some (qI y) ∧ n = 124 ∧ AQ h buf sn len rd X (l_dlv X x) y h') qNo := by
  have i1 := iV1 hJ.1
  have i2 := iV2 hJ.1
  have hs := l_low_lt x (n := 4) (by decide)
  have hk := l_low_lt x (n := 5) (by decide)
  refine e_aload0 dL_act_313 ?_
  refine e_vI (M' := mX2_waiting) fX2_waiting lkL_18 (v_waiting h pi buf (nI c) sn len rd w X hR hJ) rfl rfl dL_act_314 (by rw [hK_0]; rfl) rfl (by decide) (Nat.le_of_ble_eq_true rfl) rfl ?_
  rintro _ _ ⟨rfl, rfl⟩
  first | refine e_if_neN 322 dL_act_317 (by decide) (by omega) (fun hc317 => ?_) (fun hc317 => ?_) | refine e_if_ne 322 dL_act_317 (by decide) (fun hc317 => ?_) (fun hc317 => ?_)
  · refine e_aload0 dL_act_322 ?_
    refine e_iload2 dL_act_323 ?_
    refine e_iload2 dL_act_324 ?_
    refine e_bipush (v := nI 20) dL_act_325 (by decide) ?_
    refine e_ishr dL_act_327 ?_
    refine e_iconst (z := 1) dL_act_328 ?_
    refine e_iand dL_act_329 ?_
    have e1 := l_and_eq (x >>> (nI 20 &&& 31)) (m := 1) (by decide)
    rw [e1.1]
    show Ev mL_act 6 330 _ [qI (nI (l_k1 x)), qI x, qR 0 0] _ _ _ _ _ _
    have e1l : l_k1 x ≤ 1 := e1.2
    first | refine e_if_neN 337 dL_act_330 (by decide) (by omega) (fun hc330 => ?_) (fun hc330 => ?_) | refine e_if_ne 337 dL_act_330 (by decide) (fun hc330 => ?_) (fun hc330 => ?_)
    · refine e_aload0 dL_act_337 ?_
      refine e_vI (M' := mX2_waiting) fX2_waiting lkL_18 (v_waiting h pi buf (nI c) sn len rd w X hR hJ) rfl rfl dL_act_338 (by rw [hK_0]; rfl) rfl (by decide) (Nat.le_of_ble_eq_true rfl) rfl ?_
      rintro _ _ ⟨rfl, rfl⟩
      refine e_sI (M' := mL_low) fL_low lkL_60 (w_low _ (x) (by omega) (by omega)) rfl rfl dL_act_341 (by decide) (Nat.le_of_ble_eq_true rfl) rfl ?_
      rintro _ _ ⟨rfl, rfl⟩
      refine e_vI (M' := mX2_deliver) fX2_deliver lkL_87 (v_deliver h pi buf c sn len rd w X hR hJ Sv hc hL (p := _) (Nat.lt_of_lt_of_le (l_low_lt x (by omega)) (by omega))) rfl rfl dL_act_344 (by rw [hK_0]; rfl) rfl (by decide) (Nat.le_of_ble_eq_true rfl) rfl ?_
      rintro _ _ ⟨rfl, pi2, w2, rfl, r1, r2, r3⟩
      refine e_pop dL_act_347 rfl ?_
      refine e_iconst (z := 1) dL_act_348 ?_
      refine e_zret dL_act_349 rfl (by first | rfl | exact q_nar _) ?_
      refine ⟨_, rfl, rfl, ?_⟩
      unfold l_dlv
      (repeat' split) <;> first | exact aq_yes hc r1 r3 | omega
    · refine e_iconst (z := 1) dL_act_333 ?_
      refine e_goto 341 dL_act_334 (by decide) ?_
      refine e_sI (M' := mL_low) fL_low lkL_60 (w_low _ (x) (by omega) (by omega)) rfl rfl dL_act_341 (by decide) (Nat.le_of_ble_eq_true rfl) rfl ?_
      rintro _ _ ⟨rfl, rfl⟩
      refine e_vI (M' := mX2_deliver) fX2_deliver lkL_87 (v_deliver h pi buf c sn len rd w X hR hJ Sv hc hL (p := _) (Nat.lt_of_lt_of_le (l_low_lt x (by omega)) (by omega))) rfl rfl dL_act_344 (by rw [hK_0]; rfl) rfl (by decide) (Nat.le_of_ble_eq_true rfl) rfl ?_
      rintro _ _ ⟨rfl, pi2, w2, rfl, r1, r2, r3⟩
      refine e_pop dL_act_347 rfl ?_
      refine e_iconst (z := 1) dL_act_348 ?_
      refine e_zret dL_act_349 rfl (by first | rfl | exact q_nar _) ?_
      refine ⟨_, rfl, rfl, ?_⟩
      unfold l_dlv
      (repeat' split) <;> first | exact aq_yes hc r1 r3 | omega
  · refine e_iconst (z := 0) dL_act_320 ?_
    refine e_zret dL_act_321 rfl (by first | rfl | exact q_nar _) ?_
    refine ⟨_, rfl, rfl, ?_⟩
    unfold l_dlv
    (repeat' split) <;> first | exact aq_no hR hc hL | omega
set_option maxRecDepth 20000 in
set_option maxHeartbeats 4000000 in
theorem w_act (h : qB) (pi : Nat → Option qK) (buf : Nat → Int32) (c : Nat) (sn len : Int32) (rd : Nat → Int32) (w : Fin 16 → qw) (X : qm) (hR : RelC (w 1) X) (hJ : J X) (Sv : Nat → qm) (hc : c ≤ 6) (hL : RelL pi w c Sv) (v x : Int32) : CtI mL_act 6 [qR 0 0, qI v, qI x] (hK h (oC pi buf (nI c) sn len rd) w 10) (AQ h buf sn len rd X (l_act X v x)) := by
  have i1 := iV1 hJ.1
  refine ct_of (by decide +kernel) rfl rfl (Nat.le_of_ble_eq_true rfl) ?_
  show Ev mL_act 6 0 [some (qR 0 0), some (qI v), some (qI x), none, none, none, none, none] [] 124 (hK h (oC pi buf (nI c) sn len rd) w 10) 0 0 _ _
  have H : ∀ tv : Int32, tv = (if X.1 0 0 = 0 then -1 else nI (l_t X v)) → Ev mL_act 6 20 [some (qR 0 0), some (qI v), some (qI x), some (qI (nI (X.1 0 0))), none, none, none, none] [qI tv] 124 (hK h (oC pi buf (nI c) sn len rd) w 10) 0 0 (fun r n h' => ∃ y, r = some (qI y) ∧ n = 124 ∧ AQ h buf sn len rd X (l_act X v x) y h') qNo := by
    intro tv htv
    refine e_istore4 dL_act_20 rfl (by decide) ?_
    refine e_iload2 dL_act_22 ?_
    refine e_iconst (z := 4) dL_act_23 ?_
    refine e_sI (M' := mL_low) fL_low lkL_60 (w_low _ (x) (n := 4) (by decide) (by decide)) rfl rfl dL_act_24 (by decide) (Nat.le_of_ble_eq_true rfl) rfl ?_
    rintro _ _ ⟨rfl, rfl⟩
    refine e_istore5 dL_act_27 rfl (by decide) ?_
    refine e_iload2 dL_act_29 ?_
    refine e_iconst (z := 5) dL_act_30 ?_
    refine e_sI (M' := mL_low) fL_low lkL_60 (w_low _ (x) (n := 5) (by decide) (by decide)) rfl rfl dL_act_31 (by decide) (Nat.le_of_ble_eq_true rfl) rfl ?_
    rintro _ _ ⟨rfl, rfl⟩
    refine e_istore6 dL_act_34 rfl (by decide) ?_
    refine e_iload1 dL_act_36 ?_
    refine e_bipush (v := nI 15) dL_act_37 (by decide) ?_
    refine e_iand dL_act_39 ?_
    have ek := l_and_eq v (m := 15) (by decide)
    rw [ek.1]
    unfold l_act
    have hk15 := ek.2
    generalize l_and v 15 = k at hk15 ⊢
    rcases (show k = 0 ∨ k = 1 ∨ k = 2 ∨ k = 3 ∨ k = 4 ∨ k = 5 ∨ k = 6 ∨ k = 7 ∨ k = 8 ∨ 9 ≤ k by omega) with rfl | rfl | rfl | rfl | rfl | rfl | rfl | rfl | rfl | hk9
    · exact e_tableIn 92 dL_act_40 (by decide) (by decide) (off := 52) (by decide) (by decide) (a_begin h pi buf c sn len rd w X hR hJ Sv hc hL v x tv)
    · exact e_tableIn 92 dL_act_40 (by decide) (by decide) (off := 52) (by decide) (by decide) (a_begin h pi buf c sn len rd w X hR hJ Sv hc hL v x tv)
    · refine e_tableIn 154 dL_act_40 (by decide) (by decide) (off := 114) (by decide) (by decide) ?_
      by_cases q : X.1 0 0 = 0
      · rw [if_pos q] at htv; subst htv; exact a_giveUp0 h pi buf c sn len rd w X hR hJ Sv hc hL v x q
      · rw [if_neg q] at htv; subst htv; exact a_giveUp h pi buf c sn len rd w X hR hJ Sv hc hL v x q
    · refine e_tableIn 195 dL_act_40 (by decide) (by decide) (off := 155) (by decide) (by decide) ?_
      by_cases q : X.1 0 0 = 0
      · rw [if_pos q] at htv; subst htv; exact a_ask0 h pi buf c sn len rd w X hR hJ Sv hc hL v x q
      · rw [if_neg q] at htv; subst htv; exact a_ask h pi buf c sn len rd w X hR hJ Sv hc hL v x q
    · exact e_tableIn 234 dL_act_40 (by decide) (by decide) (off := 194) (by decide) (by decide) (a_lose h pi buf c sn len rd w X hR hJ Sv hc hL v x tv)
    · exact e_tableIn 258 dL_act_40 (by decide) (by decide) (off := 218) (by decide) (by decide) (a_crash h pi buf c sn len rd w X hR hJ Sv hc hL v x tv)
    · exact e_tableIn 286 dL_act_40 (by decide) (by decide) (off := 246) (by decide) (by decide) (a_rec h pi buf c sn len rd w X hR hJ Sv hc hL v x tv)
    · exact e_tableIn 286 dL_act_40 (by decide) (by decide) (off := 246) (by decide) (by decide) (a_rec h pi buf c sn len rd w X hR hJ Sv hc hL v x tv)
    · exact e_tableIn 306 dL_act_40 (by decide) (by decide) (off := 266) (by decide) (by decide) (a_run h pi buf c sn len rd w X hR hJ Sv hc hL v x tv)
    · rw [if_neg (by omega), if_neg (by omega), if_neg (by omega), if_neg (by omega), if_neg (by omega), if_neg (by omega), if_neg (by omega)]
      exact e_tableOut 313 dL_act_40 (Or.inr (by rw [nI_toInt (by omega)]; omega)) (by decide) (a_dlv h pi buf c sn len rd w X hR hJ Sv hc hL v x tv)
  refine e_aload0 dL_act_0 ?_
  refine e_vI (M' := mX2_transfers) fX2_transfers lkL_12 (v_transfers h pi buf (nI c) sn len rd w X hR hJ) rfl rfl dL_act_1 (by rw [hK_0]; rfl) rfl (by decide) (Nat.le_of_ble_eq_true rfl) rfl ?_
  rintro _ _ ⟨rfl, rfl⟩
  refine e_istore3 dL_act_4 rfl (by decide) ?_
  refine e_iload3 dL_act_5 ?_
  first | refine e_if_neN 13 dL_act_6 (by decide) (by omega) (fun hc6 => ?_) (fun hc6 => ?_) | refine e_if_ne 13 dL_act_6 (by decide) (fun hc6 => ?_) (fun hc6 => ?_)
  · refine e_iload1 dL_act_13 ?_
    refine e_iconst (z := 4) dL_act_14 ?_
    refine e_ishr dL_act_15 ?_
    refine e_iload3 dL_act_16 ?_
    refine e_sI (M' := mL_low) fL_low lkL_60 (w_low _ (v >>> (nI 4 &&& 31)) (n := X.1 0 0) (by omega) (by omega)) rfl rfl dL_act_17 (by decide) (Nat.le_of_ble_eq_true rfl) rfl ?_
    rintro _ _ ⟨rfl, rfl⟩
    first | exact H _ (by rw [if_pos (by assumption)]) | exact H _ (by rw [if_neg (by assumption)]; rfl)
  · refine e_iconstM dL_act_9 ?_
    refine e_goto 20 dL_act_10 (by decide) ?_
    first | exact H _ (by rw [if_pos (by assumption)]) | exact H _ (by rw [if_neg (by assumption)]; rfl)
