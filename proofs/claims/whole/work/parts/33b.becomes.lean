theorem m_write_xs {X : qm} {f i v s kd t : Nat} (h10 : f ≠ 10) (h11 : f ≠ 11) : m_write (xs X f i v) s kd t = xs (m_write X s kd t) f i v := by
  have h10s : (xs X f i v).1 10 s = X.1 10 s := if_neg (fun c => h10 c.1.symm)
  have hL : ∀ Z : qm, Z.1 10 s = X.1 10 s → m_write Z s kd t = (fun g j => if g = 10 ∧ j = s then X.1 10 s + 1 else if g = 11 ∧ j = 32 * s + X.1 10 s then 8 * kd + t else Z.1 g j, Z.2) := fun Z q => by unfold m_write; rw [q]; rfl
  rw [hL _ h10s, hL X rfl]
  refine Prod.ext (funext fun g => funext fun j => ?_) rfl
  show (if g = 10 ∧ j = s then X.1 10 s + 1 else if g = 11 ∧ j = 32 * s + X.1 10 s then 8 * kd + t else if g = f ∧ j = i then v else X.1 g j) = (if g = f ∧ j = i then v else if g = 10 ∧ j = s then X.1 10 s + 1 else if g = 11 ∧ j = 32 * s + X.1 10 s then 8 * kd + t else X.1 g j)
  by_cases e : g = f
  · rw [if_neg (c := g = 10 ∧ j = s) (fun c => h10 (e.symm.trans c.1)), if_neg (c := g = 11 ∧ j = 32 * s + X.1 10 s) (fun c => h11 (e.symm.trans c.1)), if_neg (c := g = 10 ∧ j = s) (fun c => h10 (e.symm.trans c.1)), if_neg (c := g = 11 ∧ j = 32 * s + X.1 10 s) (fun c => h11 (e.symm.trans c.1))]
  · rw [if_neg (c := g = f ∧ j = i) (fun c => e c.1), if_neg (c := g = f ∧ j = i) (fun c => e c.1)]
theorem upd_self {f : Nat → Int32} {i : Nat} : upd f i (f i) = f := by
  funext j
  by_cases q : j = i
  · rw [q, upd_same]
  · rw [upd_ne q]
theorem m_share_write {X : qm} (s kd t t2 s2 : Nat) : m_share (m_write X s kd t) t2 s2 = m_share X t2 s2 := by
  unfold m_share
  rw [m_write_f _ _ _ (by decide) (by decide), m_write_f _ _ _ (by decide) (by decide), m_write_f _ _ _ (by decide) (by decide)]
theorem m_share_xs {X : qm} {f i v : Nat} (t2 s2 : Nat) (h2 : f ≠ 2) (h3 : f ≠ 3) (h4 : f ≠ 4) : m_share (xs X f i v) t2 s2 = m_share X t2 s2 := by
  have e : ∀ g j, g ≠ f → (xs X f i v).1 g j = X.1 g j := fun g j q => if_neg (fun c => q c.1)
  unfold m_share
  rw [e 2 t2 (Ne.symm h2), e 3 t2 (Ne.symm h3), e 4 t2 (Ne.symm h4)]
theorem wk_become {X : qm} (hW : WK X) {s t st : Nat} (hl : X.1 10 s < 24) (hl4 : s < 4 → X.1 10 s < 16) : WK (m_become X s t st) := by
  unfold m_become
  split
  · exact wk_xa (wk_xs (wk_write hW hl hl4) (by decide) (by decide) (by decide) (by decide))
  · exact wk_xs (wk_write hW hl hl4) (by decide) (by decide) (by decide) (by decide)
set_option maxRecDepth 20000 in
set_option maxHeartbeats 4000000 in
theorem r_becomes (h : qB) (th : Int32) (sf asd sts snp txt rdd : Nat → Int32) (cnt hq len pt iw rm : Int32) (X : qm) (hR : RelR sf X) (hW : WK X) {s t st : Nat} (hs : s < 4) (ht : t < 8) (hst : st = 1 ∨ st = 2 ∨ st = 3) (hl : X.1 10 s < 16) : CtV mX3_becomes 3 [qR 11 0, qI (nI s), qI (nI t), qI (nI st)] (q_put h 11 (oR th sf asd sts snp txt rdd cnt hq len pt iw rm)) (fun h2 => ∃ sf', RelR sf' (m_become X s t st) ∧ h2 = q_put h 11 (oR th sf' asd sts snp txt rdd cnt hq len pt iw rm)) := by
  refine ct_of (by decide +kernel) rfl rfl (Nat.le_of_ble_eq_true rfl) ?_
  show Ev mX3_becomes 3 0 [some (qR 11 0), some (qI (nI s)), some (qI (nI t)), some (qI (nI st))] [] 132 (q_put h 11 (oR th sf asd sts snp txt rdd cnt hq len pt iw rm)) 0 0 _ _
  rcases hst with hst1 | hst1 | hst1
  · subst hst1
    refine e_aload0 dX3_becomes_0 ?_
    refine e_getfieldF flX3_7 dX3_becomes_1 rfl rfl ?_
    refine e_bipush (v := nI 70) dX3_becomes_4 (by decide) ?_
    refine e_bipush (v := nI 8) dX3_becomes_6 (by decide) ?_
    refine e_iload1 dX3_becomes_8 ?_
    first | refine e_imulN dX3_becomes_9 ?_ | refine e_imul dX3_becomes_9 ?_
    first | refine e_iaddN dX3_becomes_10 ?_ | refine e_iadd dX3_becomes_10 ?_
    refine e_iload2 dX3_becomes_11 ?_
    first | refine e_iaddN dX3_becomes_12 ?_ | refine e_iadd dX3_becomes_12 ?_
    refine e_iload3 dX3_becomes_13 ?_
    refine e_iastoreN dX3_becomes_14 rfl (by omega) (by decide) ?_
    have hR1 : RelR (upd sf (70 + 8 * s + t) (nI 1)) (xs X 9 (8 * s + t) 1) := relR_state hR (v := 1) hs ht
    have hW1 : WK (xs X 9 (8 * s + t) 1) := wk_xs hW (by decide) (by decide) (by decide) (by decide)
    refine e_aload0 dX3_becomes_15 ?_
    refine e_iload1 dX3_becomes_16 ?_
    refine e_iload3 dX3_becomes_17 ?_
    refine e_iconst (z := 1) dX3_becomes_18 ?_
    refine e_icmp_neN 26 dX3_becomes_19 (by decide) (by first | omega | decide) (by first | omega | decide) (fun q => absurd rfl q) (fun hc19 => ?_)
    refine e_iconst (z := 4) dX3_becomes_22 ?_
    refine e_goto 29 dX3_becomes_23 (by decide) ?_
    refine e_iload2 dX3_becomes_29 ?_
    refine e_vVF (M' := mX3_writes) fX3_writes lkX3_67 (r_writes h th (upd sf (70 + 8 * s + t) (nI 1)) asd sts snp txt rdd cnt hq len pt iw rm (xs X 9 (8 * s + t) 1) hR1 hW1 (s := s) (kd := 4) (t := t) (by omega) (Nat.lt_of_lt_of_le hl (by decide)) (fun _ => hl)) rfl rfl dX3_becomes_30 rfl rfl (by decide) (Nat.le_of_ble_eq_true rfl) rfl ?_
    rintro _ ⟨sf2, hR2, rfl⟩
    rw [m_write_xs (by decide) (by decide)] at hR2
    refine e_aload0 dX3_becomes_33 ?_
    refine e_getfieldF flX3_7 dX3_becomes_34 rfl rfl ?_
    refine e_iconst (z := 5) dX3_becomes_37 ?_
    refine e_iload1 dX3_becomes_38 ?_
    first | refine e_iaddN dX3_becomes_39 ?_ | refine e_iadd dX3_becomes_39 ?_
    refine e_dup2 dX3_becomes_40 rfl rfl ?_
    refine e_ialoadN dX3_becomes_41 rfl (by omega) (by decide) ?_
    refine e_iload3 dX3_becomes_42 ?_
    refine e_iconst (z := 2) dX3_becomes_43 ?_
    refine e_icmp_neN 56 dX3_becomes_44 (by decide) (by first | omega | decide) (by first | omega | decide) (fun hc44 => ?_) (fun q => absurd q (by decide))
    refine e_iconst (z := 0) dX3_becomes_56 ?_
    refine e_iadd dX3_becomes_57 ?_
    rw [show sf2 (5 + s) + nI 0 = sf2 (5 + s) from Int32.add_zero _]
    refine e_iastoreN dX3_becomes_58 rfl (by omega) (by decide) ?_
    show Ev _ _ _ _ _ _ (q_put h 11 (oR th (upd sf2 (5 + s) (sf2 (5 + s))) asd sts snp txt rdd cnt hq len pt iw rm)) _ _ _ _
    rw [upd_self]
    refine e_vret dX3_becomes_59 rfl ?_
    exact ⟨rfl, rfl, sf2, hR2, rfl⟩
  · subst hst1
    refine e_aload0 dX3_becomes_0 ?_
    refine e_getfieldF flX3_7 dX3_becomes_1 rfl rfl ?_
    refine e_bipush (v := nI 70) dX3_becomes_4 (by decide) ?_
    refine e_bipush (v := nI 8) dX3_becomes_6 (by decide) ?_
    refine e_iload1 dX3_becomes_8 ?_
    first | refine e_imulN dX3_becomes_9 ?_ | refine e_imul dX3_becomes_9 ?_
    first | refine e_iaddN dX3_becomes_10 ?_ | refine e_iadd dX3_becomes_10 ?_
    refine e_iload2 dX3_becomes_11 ?_
    first | refine e_iaddN dX3_becomes_12 ?_ | refine e_iadd dX3_becomes_12 ?_
    refine e_iload3 dX3_becomes_13 ?_
    refine e_iastoreN dX3_becomes_14 rfl (by omega) (by decide) ?_
    have hR1 : RelR (upd sf (70 + 8 * s + t) (nI 2)) (xs X 9 (8 * s + t) 2) := relR_state hR (v := 2) hs ht
    have hW1 : WK (xs X 9 (8 * s + t) 2) := wk_xs hW (by decide) (by decide) (by decide) (by decide)
    refine e_aload0 dX3_becomes_15 ?_
    refine e_iload1 dX3_becomes_16 ?_
    refine e_iload3 dX3_becomes_17 ?_
    refine e_iconst (z := 1) dX3_becomes_18 ?_
    refine e_icmp_neN 26 dX3_becomes_19 (by decide) (by first | omega | decide) (by first | omega | decide) (fun hc19 => ?_) (fun q => absurd q (by decide))
    refine e_iload3 dX3_becomes_26 ?_
    refine e_iconst (z := 1) dX3_becomes_27 ?_
    first | refine e_isubN dX3_becomes_28 (by omega) ?_ | refine e_isub dX3_becomes_28 ?_
    refine e_iload2 dX3_becomes_29 ?_
    refine e_vVF (M' := mX3_writes) fX3_writes lkX3_67 (r_writes h th (upd sf (70 + 8 * s + t) (nI 2)) asd sts snp txt rdd cnt hq len pt iw rm (xs X 9 (8 * s + t) 2) hR1 hW1 (s := s) (kd := 1) (t := t) (by omega) (Nat.lt_of_lt_of_le hl (by decide)) (fun _ => hl)) rfl rfl dX3_becomes_30 rfl rfl (by decide) (Nat.le_of_ble_eq_true rfl) rfl ?_
    rintro _ ⟨sf2, hR2, rfl⟩
    rw [m_write_xs (by decide) (by decide)] at hR2
    refine e_aload0 dX3_becomes_33 ?_
    refine e_getfieldF flX3_7 dX3_becomes_34 rfl rfl ?_
    refine e_iconst (z := 5) dX3_becomes_37 ?_
    refine e_iload1 dX3_becomes_38 ?_
    first | refine e_iaddN dX3_becomes_39 ?_ | refine e_iadd dX3_becomes_39 ?_
    refine e_dup2 dX3_becomes_40 rfl rfl ?_
    refine e_ialoadN dX3_becomes_41 rfl (by omega) (by decide) ?_
    refine e_iload3 dX3_becomes_42 ?_
    refine e_iconst (z := 2) dX3_becomes_43 ?_
    refine e_icmp_neN 56 dX3_becomes_44 (by decide) (by first | omega | decide) (by first | omega | decide) (fun q => absurd rfl q) (fun hc44 => ?_)
    refine e_aload0 dX3_becomes_47 ?_
    refine e_iload2 dX3_becomes_48 ?_
    refine e_iload1 dX3_becomes_49 ?_
    refine e_vIF (M' := mX3_shareIn) fX3_shareIn lkX3_54 (r_shareIn h th sf2 asd sts snp txt rdd cnt hq len pt iw rm (xs (m_write X s 1 t) 9 (8 * s + t) 2) hR2 (t := t) (s := s) (hW.2.2.2.2 t ht).1 (hW.2.2.2.2 t ht).2 ht hs) rfl rfl dX3_becomes_50 rfl rfl (by decide) (Nat.le_of_ble_eq_true rfl) rfl ?_
    rintro _ _ ⟨rfl, rfl⟩
    rw [rR1 hR2 _ hs, m_share_xs _ _ (by decide) (by decide) (by decide), m_share_write]
    refine e_goto 57 dX3_becomes_53 (by decide) ?_
    refine e_iadd dX3_becomes_57 ?_
    refine e_iastoreN dX3_becomes_58 rfl (by omega) (by decide) ?_
    refine e_vret dX3_becomes_59 rfl ?_
    have hR3 := relR_am hR2 (s := s) (v := X.2 s + m_share X t s) hs
    exact ⟨rfl, rfl, _, hR3, rfl⟩
  · subst hst1
    refine e_aload0 dX3_becomes_0 ?_
    refine e_getfieldF flX3_7 dX3_becomes_1 rfl rfl ?_
    refine e_bipush (v := nI 70) dX3_becomes_4 (by decide) ?_
    refine e_bipush (v := nI 8) dX3_becomes_6 (by decide) ?_
    refine e_iload1 dX3_becomes_8 ?_
    first | refine e_imulN dX3_becomes_9 ?_ | refine e_imul dX3_becomes_9 ?_
    first | refine e_iaddN dX3_becomes_10 ?_ | refine e_iadd dX3_becomes_10 ?_
    refine e_iload2 dX3_becomes_11 ?_
    first | refine e_iaddN dX3_becomes_12 ?_ | refine e_iadd dX3_becomes_12 ?_
    refine e_iload3 dX3_becomes_13 ?_
    refine e_iastoreN dX3_becomes_14 rfl (by omega) (by decide) ?_
    have hR1 : RelR (upd sf (70 + 8 * s + t) (nI 3)) (xs X 9 (8 * s + t) 3) := relR_state hR (v := 3) hs ht
    have hW1 : WK (xs X 9 (8 * s + t) 3) := wk_xs hW (by decide) (by decide) (by decide) (by decide)
    refine e_aload0 dX3_becomes_15 ?_
    refine e_iload1 dX3_becomes_16 ?_
    refine e_iload3 dX3_becomes_17 ?_
    refine e_iconst (z := 1) dX3_becomes_18 ?_
    refine e_icmp_neN 26 dX3_becomes_19 (by decide) (by first | omega | decide) (by first | omega | decide) (fun hc19 => ?_) (fun q => absurd q (by decide))
    refine e_iload3 dX3_becomes_26 ?_
    refine e_iconst (z := 1) dX3_becomes_27 ?_
    first | refine e_isubN dX3_becomes_28 (by omega) ?_ | refine e_isub dX3_becomes_28 ?_
    refine e_iload2 dX3_becomes_29 ?_
    refine e_vVF (M' := mX3_writes) fX3_writes lkX3_67 (r_writes h th (upd sf (70 + 8 * s + t) (nI 3)) asd sts snp txt rdd cnt hq len pt iw rm (xs X 9 (8 * s + t) 3) hR1 hW1 (s := s) (kd := 2) (t := t) (by omega) (Nat.lt_of_lt_of_le hl (by decide)) (fun _ => hl)) rfl rfl dX3_becomes_30 rfl rfl (by decide) (Nat.le_of_ble_eq_true rfl) rfl ?_
    rintro _ ⟨sf2, hR2, rfl⟩
    rw [m_write_xs (by decide) (by decide)] at hR2
    refine e_aload0 dX3_becomes_33 ?_
    refine e_getfieldF flX3_7 dX3_becomes_34 rfl rfl ?_
    refine e_iconst (z := 5) dX3_becomes_37 ?_
    refine e_iload1 dX3_becomes_38 ?_
    first | refine e_iaddN dX3_becomes_39 ?_ | refine e_iadd dX3_becomes_39 ?_
    refine e_dup2 dX3_becomes_40 rfl rfl ?_
    refine e_ialoadN dX3_becomes_41 rfl (by omega) (by decide) ?_
    refine e_iload3 dX3_becomes_42 ?_
    refine e_iconst (z := 2) dX3_becomes_43 ?_
    refine e_icmp_neN 56 dX3_becomes_44 (by decide) (by first | omega | decide) (by first | omega | decide) (fun hc44 => ?_) (fun q => absurd q (by decide))
    refine e_iconst (z := 0) dX3_becomes_56 ?_
    refine e_iadd dX3_becomes_57 ?_
    rw [show sf2 (5 + s) + nI 0 = sf2 (5 + s) from Int32.add_zero _]
    refine e_iastoreN dX3_becomes_58 rfl (by omega) (by decide) ?_
    show Ev _ _ _ _ _ _ (q_put h 11 (oR th (upd sf2 (5 + s) (sf2 (5 + s))) asd sts snp txt rdd cnt hq len pt iw rm)) _ _ _ _
    rw [upd_self]
    refine e_vret dX3_becomes_59 rfl ?_
    exact ⟨rfl, rfl, sf2, hR2, rfl⟩
