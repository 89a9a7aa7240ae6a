/-! THE LAW -/
theorem act_no (X : qm) (v x : Int32) : (l_act X v x).1 = false → (l_act X v x).2 = X := by
  unfold l_act l_begin l_giveUp l_ask l_lose l_crash l_rec l_dlv
  (repeat' split) <;> intro h <;> first | rfl | cases h
theorem gz_act {n : Nat} {X : qm} (h : GZ n X) (v x : Int32) : GZ (n + 2400) (l_act X v x).2 := by
  have i1 := iV1 h.1.1
  have hs := l_low_lt x (n := 4) (by decide)
  have hk := l_low_lt x (n := 5) (by decide)
  have ha : l_a1 x < 16 := by unfold l_a1; have := l_low_lt (x >>> (nI 2 &&& 31)) (n := 15) (by decide); omega
  have hsz : 1 ≤ l_sz x ∧ l_sz x ≤ 50 := by unfold l_sz; have := l_low_lt (x >>> (nI 6 &&& 31)) (n := 50) (by decide); omega
  obtain ⟨-, z2, z3⟩ := z_to _ ha _ hs
  have h0 : GZ (n + 2400) X := gz_mono h (by omega)
  have ht : ¬ X.1 0 0 = 0 → l_t X v < X.1 0 0 := fun q => l_low_lt _ (by omega)
  unfold l_act
  split
  · unfold l_begin
    (repeat' split) <;> first | exact h0 | exact gz_begin h (by omega) hs (by omega) z2 z3 hsz.1 hsz.2
  split
  · unfold l_giveUp
    (repeat' split) <;> first | exact h0 | exact gz_giveUp h (ht (by assumption)) (by assumption)
  split
  · unfold l_ask
    (repeat' split) <;> first | exact h0 | exact gz_ask h (ht (by assumption)) hs (by assumption)
  split
  · unfold l_lose
    split
    · exact h0
    · exact gz_lose h (l_low_lt x (by omega))
  split
  · unfold l_crash
    split
    · exact gz_crash h _
    · exact gz_recover h hk
  split
  · unfold l_rec
    split
    · exact h0
    · exact gz_recover h hk
  split
  · exact gz_run h
  · unfold l_dlv
    split
    · exact h0
    · split
      · exact gz_deliver h (Nat.lt_of_lt_of_le (l_low_lt x (by decide)) (by omega))
      · exact gz_deliver h (l_low_lt x (by omega))
def PZ : qP := fun r _ _ => r = some (qI (nI 1))
abbrev mL_law (N : Nat) (xs : Nat → Int32) : qM := (yL_law, cL_law, 10, some .boolean, [], some (N, xs))
set_option maxRecDepth 20000 in
set_option maxHeartbeats 4000000 in
theorem L_no {N : Nat} {xs : Nat → Int32} (h : qB) (buf : Nat → Int32) (sn len : Int32) (rd : Nat → Int32) (X X2 : qm) {i : Nat} (v x : Int32) {l8 l9 : Option qV} {pi2 : Nat → Option qK} {c2 : Nat} {Sv2 : Nat → qm} {w2 : Fin 16 → qw} (hX : X2 = X) (hJ2 : J X2) (hR2 : RelC (w2 1) X2) (hc2 : c2 ≤ 6) (hL2 : RelL pi2 w2 c2 Sv2) (K : ∀ (pi : Nat → Option qK) (c : Nat) (Sv : Nat → qm) (w : Fin 16 → qw), RelC (w 1) X2 → c ≤ 6 → RelL pi w c Sv → ∀ l7 l8 l9 : Option qV, Ev (mL_law N xs) 7 188 [some qS, some (qR 0 0), some (qI (nI i)), some (qI v), some (qI x), some (qL (l_told X)), none, l7, l8, l9] [] 124 (hK h (oC pi buf (nI c) sn len rd) w 10) 0 0 PZ qNo) : Ev (mL_law N xs) 7 116 [some qS, some (qR 0 0), some (qI (nI i)), some (qI v), some (qI x), some (qL (l_told X)), none, some (qI (nI 0)), l8, l9] [] 124 (hK h (oC pi2 buf (nI c2) sn len rd) w2 10) 0 0 PZ qNo := by
  refine e_aload1 dL_law_116 ?_
  refine e_sL (M' := mL_told) fL_told lkL_137 (w_told h pi2 buf (nI c2) sn len rd w2 X2 hR2 hJ2) rfl rfl dL_law_117 (by decide) (Nat.le_of_ble_eq_true rfl) rfl ?_
  rintro _ _ ⟨rfl, rfl⟩
  refine e_lstore8 dL_law_120 rfl (Nat.le_of_ble_eq_true rfl) ?_
  refine e_iload7 dL_law_122 ?_
  refine e_if_ne 137 dL_law_124 (by decide) (fun hc => absurd rfl hc) (fun hc124 => ?_)
  refine e_lload8 dL_law_127 ?_
  refine e_lload5 dL_law_129 ?_
  refine e_lcmp dL_law_131 ?_
  rw [hX, lg_cmp_self]
  refine e_if_eq 137 dL_law_132 (by decide) (fun hc132 => ?_) (fun hc => absurd rfl hc)
  refine e_iload7 dL_law_137 ?_
  refine e_if_eq 188 dL_law_139 (by decide) (fun hc139 => ?_) (fun hc => absurd rfl hc)
  exact K _ _ _ _ hR2 hc2 hL2 _ _ _
set_option maxRecDepth 20000 in
set_option maxHeartbeats 4000000 in
theorem L_yes {N : Nat} {xs : Nat → Int32} (h : qB) (buf : Nat → Int32) (sn len : Int32) (rd : Nat → Int32) (X X2 : qm) {i : Nat} (v x : Int32) {l8 l9 : Option qV} {pi2 : Nat → Option qK} {c2 : Nat} {Sv2 : Nat → qm} {w2 : Fin 16 → qw} (hE : l_act X v x = (true, X2)) (hJ : J X) (hJ2 : J X2) (hR2 : RelC (w2 1) X2) (hc2 : c2 ≤ 6) (hL2 : RelL pi2 w2 c2 Sv2) (hy1 : 1 ≤ c2) (hy2 : Sv2 (c2 - 1) = X) (K : ∀ (pi : Nat → Option qK) (c : Nat) (Sv : Nat → qm) (w : Fin 16 → qw), RelC (w 1) X2 → c ≤ 6 → RelL pi w c Sv → ∀ l7 l8 l9 : Option qV, Ev (mL_law N xs) 7 188 [some qS, some (qR 0 0), some (qI (nI i)), some (qI v), some (qI x), some (qL (l_told X)), none, l7, l8, l9] [] 124 (hK h (oC pi buf (nI c) sn len rd) w 10) 0 0 PZ qNo) : Ev (mL_law N xs) 7 116 [some qS, some (qR 0 0), some (qI (nI i)), some (qI v), some (qI x), some (qL (l_told X)), none, some (qI (nI 1)), l8, l9] [] 124 (hK h (oC pi2 buf (nI c2) sn len rd) w2 10) 0 0 PZ qNo := by
  refine e_aload1 dL_law_116 ?_
  refine e_sL (M' := mL_told) fL_told lkL_137 (w_told h pi2 buf (nI c2) sn len rd w2 X2 hR2 hJ2) rfl rfl dL_law_117 (by decide) (Nat.le_of_ble_eq_true rfl) rfl ?_
  rintro _ _ ⟨rfl, rfl⟩
  refine e_lstore8 dL_law_120 rfl (Nat.le_of_ble_eq_true rfl) ?_
  refine e_iload7 dL_law_122 ?_
  refine e_if_ne 137 dL_law_124 (by decide) (fun hc124 => ?_) (fun hc => absurd hc (by decide))
  refine e_iload7 dL_law_137 ?_
  refine e_if_eq 188 dL_law_139 (by decide) (fun hc => absurd hc (by decide)) (fun hc139 => ?_)
  refine e_iload3 dL_law_142 ?_
  refine e_bipush (v := nI 20) dL_law_143 (by decide) ?_
  refine e_ishr dL_law_145 ?_
  refine e_iconst (z := 1) dL_law_146 ?_
  refine e_iand dL_law_147 ?_
  first | refine e_if_neN 188 dL_law_148 (by decide) (by omega) (fun hc148 => ?_) (fun hc148 => ?_) | refine e_if_ne 188 dL_law_148 (by decide) (fun hc148 => ?_) (fun hc148 => ?_)
  · first | exact K _ _ _ _ hR4 hc4 hL4 _ _ _ | exact K _ _ _ _ hR2 hc2 hL2 _ _ _
  · refine e_aload1 dL_law_151 ?_
    refine e_vI (M' := mX2_undo) fX2_undo lkL_145 (v_undo h pi2 buf c2 sn len rd w2 X2 hR2 hJ2 Sv2 hc2 hL2 hy1) rfl rfl dL_law_152 (by rw [hK_0]; rfl) rfl (by decide) (Nat.le_of_ble_eq_true rfl) rfl ?_
    rintro _ _ ⟨rfl, w3, rfl, hR3, -, hL3⟩
    rw [hy2] at hR3
    refine e_pop dL_law_155 rfl ?_
    refine e_aload1 dL_law_156 ?_
    refine e_sL (M' := mL_told) fL_told lkL_137 (w_told h pi2 buf (nI (c2 - 1)) sn len rd w3 X hR3 hJ) rfl rfl dL_law_157 (by decide) (Nat.le_of_ble_eq_true rfl) rfl ?_
    rintro _ _ ⟨rfl, rfl⟩
    refine e_lload5 dL_law_160 ?_
    refine e_lcmp dL_law_162 ?_
    rw [lg_cmp_self]
    refine e_if_ne 186 dL_law_163 (by decide) (fun hc => absurd rfl hc) (fun hc163 => ?_)
    refine e_aload1 dL_law_166 ?_
    refine e_iload3 dL_law_167 ?_
    refine e_iload4 dL_law_168 ?_
    refine e_sI (M' := mL_act) fL_act lkL_141 (w_act h pi2 buf (c2 - 1) sn len rd w3 X hR3 hJ Sv2 (by omega) hL3 v x) rfl rfl dL_law_170 (by decide) (Nat.le_of_ble_eq_true rfl) rfl ?_
    rintro _ _ ⟨rfl, pi4, c4, Sv4, w4, rfl, hR4, hc4, hL4, -⟩
    rw [hE] at hR4 ⊢
    show Ev (mL_law N xs) 7 173 _ [qI (nI 1)] _ _ _ _ _ _
    refine e_if_eq 186 dL_law_173 (by decide) (fun hc => absurd hc (by decide)) (fun hc173 => ?_)
    refine e_aload1 dL_law_176 ?_
    refine e_sL (M' := mL_told) fL_told lkL_137 (w_told h pi4 buf (nI c4) sn len rd w4 X2 hR4 hJ2) rfl rfl dL_law_177 (by decide) (Nat.le_of_ble_eq_true rfl) rfl ?_
    rintro _ _ ⟨rfl, rfl⟩
    refine e_lload8 dL_law_180 ?_
    refine e_lcmp dL_law_182 ?_
    rw [lg_cmp_self]
    refine e_if_eq 188 dL_law_183 (by decide) (fun hc183 => ?_) (fun hc => absurd rfl hc)
    first | exact K _ _ _ _ hR4 hc4 hL4 _ _ _ | exact K _ _ _ _ hR2 hc2 hL2 _ _ _
set_option maxRecDepth 20000 in
set_option maxHeartbeats 4000000 in
theorem L_loop {N : Nat} {xs : Nat → Int32} (hN : N ≤ 260) (h : qB) (buf : Nat → Int32) (sn len : Int32) (rd : Nat → Int32) : ∀ (m i : Nat), i ≤ 42 → m = 42 - i → ∀ (pi : Nat → Option qK) (c : Nat) (Sv : Nat → qm) (w : Fin 16 → qw) (X : qm) (l3 l4 l5 l6 l7 l8 l9 : Option qV), GZ (2400 * i) X → RelC (w 1) X → c ≤ 6 → RelL pi w c Sv → Ev (mL_law N xs) 7 62 [some qS, some (qR 0 0), some (qI (nI i)), l3, l4, l5, l6, l7, l8, l9] [] 124 (hK h (oC pi buf (nI c) sn len rd) w 10) 0 0 PZ qNo := by
  intro m
  induction m using Nat.strongRecOn with
  | _ m ih =>
    intro i hi hm pi c Sv w X l3 l4 l5 l6 l7 l8 l9 hZ hR hc hL
    refine e_iload2 dL_law_62 ?_
    refine e_bipush (v := nI 42) dL_law_63 (by decide) ?_
    first | refine e_icmp_geN 203 dL_law_65 (by decide) (by omega) (by omega) (fun hc65 => ?_) (fun hc65 => ?_) | refine e_icmp_ge 203 dL_law_65 (by decide) (fun hc65 => ?_) (fun hc65 => ?_)
    · refine e_iconst (z := 1) dL_law_203 ?_
      refine e_zret dL_law_204 rfl (by first | rfl | exact q_nar _) ?_
      exact rfl
    · refine e_aloadS dL_law_68 ?_
      refine e_iconst (z := 2) dL_law_69 ?_
      refine e_iload2 dL_law_70 ?_
      first | refine e_imulN dL_law_71 ?_ | refine e_imul dL_law_71 ?_
      refine e_sY (M' := mL_cellX N xs) fL_cell lkL_133 rfl (w_cell _ hN (i := 2 * i) (by omega)) rfl rfl dL_law_72 (by decide) (Nat.le_of_ble_eq_true rfl) rfl ?_
      rintro a0 _ rfl
      refine e_istore3 dL_law_75 rfl (Nat.le_of_ble_eq_true rfl) ?_
      have K89 : ∀ v : Int32, Ev (mL_law N xs) 7 89 [some qS, some (qR 0 0), some (qI (nI i)), some (qI a0), l4, l5, l6, l7, l8, l9] [qI v] 124 (hK h (oC pi buf (nI c) sn len rd) w 10) 0 0 PZ qNo := by
        intro v
        refine e_istore3 dL_law_89 rfl (Nat.le_of_ble_eq_true rfl) ?_
        refine e_aloadS dL_law_90 ?_
        refine e_iconst (z := 2) dL_law_91 ?_
        refine e_iload2 dL_law_92 ?_
        first | refine e_imulN dL_law_93 ?_ | refine e_imul dL_law_93 ?_
        refine e_iconst (z := 1) dL_law_94 ?_
        first | refine e_iaddN dL_law_95 ?_ | refine e_iadd dL_law_95 ?_
        refine e_sY (M' := mL_cellX N xs) fL_cell lkL_133 rfl (w_cell _ hN (i := 2 * i + 1) (by omega)) rfl rfl dL_law_96 (by decide) (Nat.le_of_ble_eq_true rfl) rfl ?_
        rintro x _ rfl
        refine e_istore4 dL_law_99 rfl (Nat.le_of_ble_eq_true rfl) ?_
        refine e_aload1 dL_law_101 ?_
        refine e_sL (M' := mL_told) fL_told lkL_137 (w_told h pi buf (nI c) sn len rd w X hR hZ.1) rfl rfl dL_law_102 (by decide) (Nat.le_of_ble_eq_true rfl) rfl ?_
        rintro _ _ ⟨rfl, rfl⟩
        refine e_lstore5 dL_law_105 rfl (Nat.le_of_ble_eq_true rfl) ?_
        refine e_aload1 dL_law_107 ?_
        refine e_iload3 dL_law_108 ?_
        refine e_iload4 dL_law_109 ?_
        refine e_sI (M' := mL_act) fL_act lkL_141 (w_act h pi buf c sn len rd w X hR hZ.1 Sv hc hL v x) rfl rfl dL_law_111 (by decide) (Nat.le_of_ble_eq_true rfl) rfl ?_
        rintro _ _ ⟨rfl, pi2, c2, Sv2, w2, rfl, hR2, hc2, hL2, hy⟩
        have hZ2 := gz_act hZ v x
        have hno := act_no X v x
        rcases hE : l_act X v x with ⟨B, X2⟩
        rw [hE] at hR2 hy hZ2 hno
        have hZ2 : GZ (2400 * i + 2400) X2 := hZ2
        have hR2 : RelC (w2 1) X2 := hR2
        have K : ∀ (pi3 : Nat → Option qK) (c3 : Nat) (Sv3 : Nat → qm) (w3 : Fin 16 → qw), RelC (w3 1) X2 → c3 ≤ 6 → RelL pi3 w3 c3 Sv3 → ∀ l7 l8 l9 : Option qV, Ev (mL_law N xs) 7 188 [some qS, some (qR 0 0), some (qI (nI i)), some (qI v), some (qI x), some (qL (l_told X)), none, l7, l8, l9] [] 124 (hK h (oC pi3 buf (nI c3) sn len rd) w3 10) 0 0 PZ qNo := by
          intro pi3 c3 Sv3 w3 hR3 hc3 hL3 l7 l8 l9
          refine e_aload1 dL_law_188 ?_
          refine e_sI (M' := mL_holds) fL_holds lkL_148 (w_holds h pi3 buf (nI c3) sn len rd w3 X2 hR3 hZ2 (by omega)) rfl rfl dL_law_189 (by decide) (Nat.le_of_ble_eq_true rfl) rfl ?_
          rintro _ _ ⟨rfl, rfl⟩
          refine e_if_ne 197 dL_law_192 (by decide) (fun hc192 => ?_) (fun hc => absurd hc (by decide))
          first | refine e_iinc2N (z := 1) dL_law_197 rfl (Nat.le_of_ble_eq_true rfl) ?_ | refine e_iinc2 dL_law_197 rfl rfl (Nat.le_of_ble_eq_true rfl) ?_
          refine e_goto 62 dL_law_200 (by decide) ?_
          exact ih _ (by omega) (i + 1) (by omega) rfl pi3 c3 Sv3 w3 X2 _ _ _ _ _ _ _ (by rw [Nat.mul_add]; exact hZ2) hR3 hc3 hL3
        refine e_istore7 dL_law_114 rfl (Nat.le_of_ble_eq_true rfl) ?_
        cases B with
        | false => exact L_no h buf sn len rd X X2 v x (hno rfl) hZ2.1 hR2 hc2 hL2 K
        | true => exact L_yes h buf sn len rd X X2 v x hE hZ.1 hZ2.1 hR2 hc2 hL2 (hy rfl).1 (hy rfl).2 K
      refine e_iload2 dL_law_76 ?_
      refine e_iconst (z := 2) dL_law_77 ?_
      first | refine e_icmp_geN 88 dL_law_78 (by decide) (by omega) (by omega) (fun hc78 => ?_) (fun hc78 => ?_) | refine e_icmp_ge 88 dL_law_78 (by decide) (fun hc78 => ?_) (fun hc78 => ?_)
      · refine e_iload3 dL_law_88 ?_
        exact K89 _
      · refine e_iload3 dL_law_81 ?_
        refine e_bipush (v := (-16)) dL_law_82 (by decide) ?_
        refine e_iand dL_law_84 ?_
        refine e_goto 89 dL_law_85 (by decide) ?_
        exact K89 _
theorem relL_new {w : Fin 16 → qw} {Sv : Nat → qm} : RelL p_new w 0 Sv := by
  refine ⟨fun i => if i = 5 then 10 else if i = 4 then 9 else if i = 3 then 8 else if i = 2 then 7 else if i = 1 then 6 else 5, fun i hi => ?_, fun i j hi hj => ?_, fun i hi => absurd hi (Nat.not_lt_zero i)⟩
  · rcases (show i = 0 ∨ i = 1 ∨ i = 2 ∨ i = 3 ∨ i = 4 ∨ i = 5 by omega) with rfl | rfl | rfl | rfl | rfl | rfl <;> exact ⟨rfl, by decide, by decide⟩
  · rcases (show i = 0 ∨ i = 1 ∨ i = 2 ∨ i = 3 ∨ i = 4 ∨ i = 5 by omega) with rfl | rfl | rfl | rfl | rfl | rfl <;> rcases (show j = 0 ∨ j = 1 ∨ j = 2 ∨ j = 3 ∨ j = 4 ∨ j = 5 by omega) with rfl | rfl | rfl | rfl | rfl | rfl <;> decide
theorem hK_start (e : qE) (w0 : Fin 16 → qw) : q_push (fun _ => []) 0 e = hK (fun _ => []) [e] w0 0 := by
  funext j
  unfold q_push hK
  by_cases q : j = 0
  · rw [if_pos q, if_pos q]; rfl
  · have q2 : ¬ j.val ≤ 0 := fun h9 => q (Fin.ext (Nat.le_zero.mp h9))
    rw [if_neg q, if_neg q, if_neg q2]
theorem n_tot : m_tot m_new 4 = nI 400 := by decide +kernel
theorem n_gr : m_gr m_new 0 2 50 = 50 := by decide +kernel
theorem n_set : m_settleN m_new = 0 := by decide +kernel
set_option maxRecDepth 20000 in
set_option maxHeartbeats 4000000 in
theorem L_law {N : Nat} {xs : Nat → Int32} (hN : N ≤ 260) : Ev (mL_law N xs) 7 0 [some qS, none, none, none, none, none, none, none, none, none] [] 0 (fun _ => []) 600130 7301080 PZ qNo := by
  refine e_new 0 0 cnL_13 dL_law_0 fs_new2 (by decide) (by decide) rfl (by decide) (by decide) ?_
  refine e_dup dL_law_3 rfl ?_
  rw [hK_start _ (fun _ _ _ => 0)]
  refine e_callI (b := 0) (o := 0) (M' := mX2_init) (as := []) fX2_init lkL_126 (w_initLogs (fun _ => []) _ (fun _ _ _ => rfl)) rfl dL_law_4 (by decide) (by decide) (by decide) (by decide) (q_noh rfl) (fun v n' h' q => by have := q.2.1; omega) (fun _ _ _ q => q.elim) (fun v n' h' q => ?_)
  obtain ⟨rfl, rfl, w, hw, rfl⟩ := q
  have hR : RelC (w 1) m_new := hw 1 (by decide) (by decide)
  refine e_astore1 dL_law_7 rfl (Nat.le_of_ble_eq_true rfl) ?_
  refine e_aload1 dL_law_8 ?_
  refine e_vI (M' := mX2_transfers) fX2_transfers lkL_12 (v_transfers (fun _ => []) p_new (fun _ => 0) (nI 0) (nI 0) (nI 0) (fun j => if j = 0 then nI 0 else 0) w m_new hR j_new) rfl rfl dL_law_9 (by rw [hK_0]; rfl) rfl (by decide) (Nat.le_of_ble_eq_true rfl) rfl ?_
  rintro _ _ ⟨rfl, rfl⟩
  rw [show m_new.1 0 0 = 0 from rfl]
  refine e_if_ne 58 dL_law_12 (by decide) (fun hc => absurd rfl hc) (fun hc12 => ?_)
  refine e_aload1 dL_law_15 ?_
  refine e_vI (M' := mX2_waiting) fX2_waiting lkL_18 (v_waiting (fun _ => []) p_new (fun _ => 0) (nI 0) (nI 0) (nI 0) (fun j => if j = 0 then nI 0 else 0) w m_new hR j_new) rfl rfl dL_law_16 (by rw [hK_0]; rfl) rfl (by decide) (Nat.le_of_ble_eq_true rfl) rfl ?_
  rintro _ _ ⟨rfl, rfl⟩
  rw [show m_new.1 0 4 = 0 from rfl]
  refine e_if_ne 58 dL_law_19 (by decide) (fun hc => absurd rfl hc) (fun hc19 => ?_)
  refine e_aload1 dL_law_22 ?_
  refine e_vI (M' := mX2_total) fX2_total lkL_27 (v_total (fun _ => []) p_new (fun _ => 0) (nI 0) (nI 0) (nI 0) (fun j => if j = 0 then nI 0 else 0) w m_new hR j_new) rfl rfl dL_law_23 (by rw [hK_0]; rfl) rfl (by decide) (Nat.le_of_ble_eq_true rfl) rfl ?_
  rintro _ _ ⟨rfl, rfl⟩
  rw [n_tot]
  refine e_sipush (v := nI 400) dL_law_26 (by decide) ?_
  refine e_icmp_ne 58 dL_law_29 (by decide) (fun hc => absurd rfl hc) (fun hc29 => ?_)
  refine e_aload1 dL_law_32 ?_
  refine e_iconst (z := 4) dL_law_33 ?_
  refine e_vI (M' := mX2_isUp) fX2_isUp lkL_30 (v_isUp (fun _ => []) p_new (fun _ => 0) (nI 0) (nI 0) (nI 0) (fun j => if j = 0 then nI 0 else 0) w m_new hR j_new (k := 4) (by decide)) rfl rfl dL_law_34 (by rw [hK_0]; rfl) rfl (by decide) (Nat.le_of_ble_eq_true rfl) rfl ?_
  rintro _ _ ⟨rfl, rfl⟩
  rw [show q_b (decide (m_new.1 1 4 = 1)) = nI 1 from rfl]
  refine e_if_eq 58 dL_law_37 (by decide) (fun hc => absurd hc (by decide)) (fun hc37 => ?_)
  refine e_aload1 dL_law_40 ?_
  refine e_iconst (z := 0) dL_law_41 ?_
  refine e_iconst (z := 2) dL_law_42 ?_
  refine e_vI (M' := mX2_greatestSize) fX2_greatestSize lkL_127 (v_greatestSize (fun _ => []) p_new (fun _ => 0) (nI 0) (nI 0) (nI 0) (fun j => if j = 0 then nI 0 else 0) w m_new hR j_new (f := 0) (to := 2) (by decide) (by decide) (by decide) (by decide)) rfl rfl dL_law_43 (by rw [hK_0]; rfl) rfl (by decide) (Nat.le_of_ble_eq_true rfl) rfl ?_
  rintro _ _ ⟨rfl, rfl⟩
  rw [n_gr]
  refine e_bipush (v := nI 50) dL_law_46 (by decide) ?_
  refine e_icmp_ne 58 dL_law_48 (by decide) (fun hc => absurd rfl hc) (fun hc48 => ?_)
  refine e_aload1 dL_law_51 ?_
  refine e_vI (M' := mX2_messagesToSettle) fX2_messagesToSettle lkL_130 (v_messagesToSettle (fun _ => []) p_new (fun _ => 0) (nI 0) (nI 0) (nI 0) (fun j => if j = 0 then nI 0 else 0) w m_new hR j_new) rfl rfl dL_law_52 (by rw [hK_0]; rfl) rfl (by decide) (Nat.le_of_ble_eq_true rfl) rfl ?_
  rintro _ _ ⟨rfl, x4, rfl⟩
  rw [n_set]
  refine e_if_eq 60 dL_law_55 (by decide) (fun hc55 => ?_) (fun hc => absurd rfl hc)
  refine e_iconst (z := 0) dL_law_60 ?_
  refine e_istore2 dL_law_61 rfl (Nat.le_of_ble_eq_true rfl) ?_
  refine ev_room (L_loop hN (fun _ => []) (fun _ => 0) (nI 0) (nI 0) (fun j => if j = 0 then nI 0 else 0) (42 - 0) 0 (by decide) rfl p_new 0 (fun _ => m_new) _ m_new _ _ _ _ _ _ _ gz_new ?_ (by decide) relL_new) (by omega) (by omega)
  rw [uw_ne _ _ (by decide)]
  exact hR
