/-! THE MODEL'S PROGRAM: sends, writes -/
/-- what the model's program needs of a state -/
def WK (X : qm) : Prop := X.1 0 0 ≤ 8 ∧ X.1 0 4 ≤ 60 ∧ (∀ s, s < 4 → X.1 10 s ≤ 16) ∧ X.1 10 4 ≤ 24 ∧ ∀ t, t < 8 → X.1 2 t < 4 ∧ X.1 3 t < 16
theorem wk_J {X : qm} (hJ : J X) : WK X := ⟨iV1 hJ.1, iV2 hJ.1, iV7 hJ.1, iV8 hJ.1, fun t ht => ⟨(iV4 hJ.1 t ht).1, (iV4 hJ.1 t ht).2.1⟩⟩
theorem wk_xs {X : qm} (hW : WK X) {f i v : Nat} (h0 : f ≠ 0) (h10 : f ≠ 10) (h2 : f ≠ 2) (h3 : f ≠ 3) : WK (xs X f i v) := by
  have e : ∀ g j, g ≠ f → (xs X f i v).1 g j = X.1 g j := fun g j q => if_neg (fun c => q c.1)
  refine ⟨?_, ?_, fun s hs => ?_, ?_, fun t ht => ?_⟩
  · rw [e 0 0 (Ne.symm h0)]; exact hW.1
  · rw [e 0 4 (Ne.symm h0)]; exact hW.2.1
  · rw [e 10 s (Ne.symm h10)]; exact hW.2.2.1 s hs
  · rw [e 10 4 (Ne.symm h10)]; exact hW.2.2.2.1
  · rw [e 2 t (Ne.symm h2), e 3 t (Ne.symm h3)]; exact hW.2.2.2.2 t ht
theorem wk_cnt {X : qm} (hW : WK X) {j v : Nat} (hj : j = 1 ∨ j = 2 ∨ j = 3) : WK (xs X 0 j v) := by
  have e : ∀ g i, ¬ (g = 0 ∧ i = j) → (xs X 0 j v).1 g i = X.1 g i := fun g i q => if_neg q
  refine ⟨?_, ?_, fun s hs => ?_, ?_, fun t ht => ?_⟩
  · rw [e 0 0 (by omega)]; exact hW.1
  · rw [e 0 4 (by omega)]; exact hW.2.1
  · rw [e 10 s (by omega)]; exact hW.2.2.1 s hs
  · rw [e 10 4 (by omega)]; exact hW.2.2.2.1
  · rw [e 2 t (by omega), e 3 t (by omega)]; exact hW.2.2.2.2 t ht
theorem wk_xa {X : qm} (hW : WK X) {i : Nat} {v : Int32} : WK (xa X i v) := hW
theorem m_write_f {X : qm} (s kd t : Nat) {f i : Nat} (h10 : f ≠ 10) (h11 : f ≠ 11) : (m_write X s kd t).1 f i = X.1 f i := by
  unfold m_write
  show (if _ then _ else (if _ then _ else _)) = _
  rw [if_neg (fun c => h10 c.1), if_neg (fun c => h11 c.1)]
theorem m_write_10 {X : qm} (s kd t i : Nat) : (m_write X s kd t).1 10 i = if i = s then X.1 10 s + 1 else X.1 10 i := by
  unfold m_write xs
  simp
theorem wk_write {X : qm} (hW : WK X) {s kd t : Nat} (hl : X.1 10 s < 24) (hl4 : s < 4 → X.1 10 s < 16) : WK (m_write X s kd t) := by
  have hc := hW.2.2.1
  have h4 := hW.2.2.2.1
  refine ⟨?_, ?_, fun s2 hs => ?_, ?_, fun t2 ht => ?_⟩
  · rw [m_write_f _ _ _ (by decide) (by decide)]; exact hW.1
  · rw [m_write_f _ _ _ (by decide) (by decide)]; exact hW.2.1
  · rw [m_write_10]
    split
    · have := hl4 (by omega); omega
    · exact hc s2 hs
  · rw [m_write_10]
    split <;> omega
  · rw [m_write_f _ _ _ (by decide) (by decide), m_write_f _ _ _ (by decide) (by decide)]; exact hW.2.2.2.2 t2 ht
theorem m_send_10 {X : qm} (k t s i : Nat) : (m_send X k t s).1 10 i = X.1 10 i := m_send_f k t s (Or.inl (by decide)) (by decide)
theorem wk_send {X : qm} (hW : WK X) {k t s : Nat} : WK (m_send X k t s) := by
  refine ⟨?_, m_send_wn k t s hW.2.1, fun s2 hs => ?_, ?_, fun t2 ht => ?_⟩
  · rw [m_send_f _ _ _ (Or.inr (Or.inl rfl)) (by decide)]; exact hW.1
  · rw [m_send_10]; exact hW.2.2.1 s2 hs
  · rw [m_send_10]; exact hW.2.2.2.1
  · rw [m_send_f _ _ _ (Or.inl (by decide)) (by decide), m_send_f _ _ _ (Or.inl (by decide)) (by decide)]; exact hW.2.2.2.2 t2 ht
theorem wk_sendN {X : qm} (hW : WK X) {k t m : Nat} : ∀ n, WK (m_sendN X k t m n)
  | 0 => hW
  | n + 1 => by
    rw [m_sendN]
    split
    · exact wk_send (wk_sendN hW n)
    · exact wk_sendN hW n
theorem m_part_sendN {X : qm} (k t m n t2 : Nat) : m_part (m_sendN X k t m n) t2 = m_part X t2 := by
  unfold m_part
  rw [m_sendN_f _ _ _ _ (Or.inl (by decide)) (by decide), m_sendN_f _ _ _ _ (Or.inl (by decide)) (by decide)]
theorem m_part_wk {X : qm} (hW : WK X) {t : Nat} (ht : t < 8) : m_part X t < 16 := b_or4 _ (hW.2.2.2.2 t ht).2 _ (hW.2.2.2.2 t ht).1
theorem relR_sendA {sf : Nat → Int32} {X : qm} (hR : RelR sf X) (hW : WK X) {k t s : Nat} (h : X.1 0 4 < 60) : RelR (upd (upd (upd sf 10 (nI (X.1 0 1 + 1))) (195 + X.1 0 4) (nI (32 * k + 4 * t + s))) 13 (nI (X.1 0 4 + 1))) (m_send X k t s) := by
  rw [m_send, if_pos h]
  have h1 := relR_sent hR (v := X.1 0 1 + 1)
  have h2 : WK (xs X 0 1 (X.1 0 1 + 1)) := wk_cnt hW (Or.inl rfl)
  exact relR_msg (X := xs X 0 1 (X.1 0 1 + 1)) h1 h2.2.2.1 h2.2.2.2.1 (v := 32 * k + 4 * t + s)
theorem relR_sendB {sf : Nat → Int32} {X : qm} (hR : RelR sf X) {k t s : Nat} (h : ¬ X.1 0 4 < 60) : RelR (upd (upd sf 10 (nI (X.1 0 1 + 1))) 12 (nI (X.1 0 3 + 1))) (m_send X k t s) := by
  rw [m_send, if_neg h]
  exact relR_lost (relR_sent hR)
set_option maxRecDepth 20000 in
set_option maxHeartbeats 4000000 in
theorem r_writes (h : qB) (th : Int32) (sf asd sts snp txt rdd : Nat → Int32) (cnt hq len pt iw rm : Int32) (X : qm) (hR : RelR sf X) (hW : WK X) {s kd t : Nat} (hs5 : s < 5) (hl : X.1 10 s < 24) (hl4 : s < 4 → X.1 10 s < 16) : CtV mX3_writes 0 [qR 11 0, qI (nI s), qI (nI kd), qI (nI t)] (q_put h 11 (oR th sf asd sts snp txt rdd cnt hq len pt iw rm)) (fun h2 => ∃ sf', RelR sf' (m_write X s kd t) ∧ h2 = q_put h 11 (oR th sf' asd sts snp txt rdd cnt hq len pt iw rm)) := by
  refine ct_of (by decide +kernel) rfl rfl (Nat.le_of_ble_eq_true rfl) ?_
  show Ev mX3_writes 0 0 [some (qR 11 0), some (qI (nI s)), some (qI (nI kd)), some (qI (nI t))] [] 132 (q_put h 11 (oR th sf asd sts snp txt rdd cnt hq len pt iw rm)) 0 0 _ _
  refine e_aload0 dX3_writes_0 ?_
  refine e_getfieldF flX3_7 dX3_writes_1 rfl rfl ?_
  refine e_bipush (v := nI 107) dX3_writes_4 (by decide) ?_
  refine e_bipush (v := nI 16) dX3_writes_6 (by decide) ?_
  refine e_iload1 dX3_writes_8 ?_
  first | refine e_imulN dX3_writes_9 ?_ | refine e_imul dX3_writes_9 ?_
  first | refine e_iaddN dX3_writes_10 ?_ | refine e_iadd dX3_writes_10 ?_
  refine e_aload0 dX3_writes_11 ?_
  refine e_getfieldF flX3_7 dX3_writes_12 rfl rfl ?_
  refine e_bipush (v := nI 102) dX3_writes_15 (by decide) ?_
  refine e_iload1 dX3_writes_17 ?_
  first | refine e_iaddN dX3_writes_18 ?_ | refine e_iadd dX3_writes_18 ?_
  refine e_ialoadN dX3_writes_19 rfl (by omega) (by decide) ?_
  rw [rR9 hR _ hs5]
  first | refine e_iaddN dX3_writes_20 ?_ | refine e_iadd dX3_writes_20 ?_
  refine e_bipush (v := nI 8) dX3_writes_21 (by decide) ?_
  refine e_iload2 dX3_writes_23 ?_
  first | refine e_imulN dX3_writes_24 ?_ | refine e_imul dX3_writes_24 ?_
  refine e_iload3 dX3_writes_25 ?_
  first | refine e_iaddN dX3_writes_26 ?_ | refine e_iadd dX3_writes_26 ?_
  refine e_iastoreN dX3_writes_27 rfl (by omega) (by decide) ?_
  refine e_aload0 dX3_writes_28 ?_
  refine e_getfieldF flX3_7 dX3_writes_29 rfl rfl ?_
  refine e_bipush (v := nI 102) dX3_writes_32 (by decide) ?_
  refine e_iload1 dX3_writes_34 ?_
  first | refine e_iaddN dX3_writes_35 ?_ | refine e_iadd dX3_writes_35 ?_
  refine e_dup2 dX3_writes_36 rfl rfl ?_
  refine e_ialoadN dX3_writes_37 rfl (by omega) (by decide) ?_
  rw [upd_ne (by omega), rR9 hR _ hs5]
  refine e_iconst (z := 1) dX3_writes_38 ?_
  first | refine e_iaddN dX3_writes_39 ?_ | refine e_iadd dX3_writes_39 ?_
  refine e_iastoreN dX3_writes_40 rfl (by omega) (by decide) ?_
  refine e_vret dX3_writes_41 rfl ?_
  exact ⟨rfl, rfl, _, relR_write hR hW.2.2.1 hW.2.2.2.1 hs5 hl hl4, rfl⟩
set_option maxRecDepth 20000 in
set_option maxHeartbeats 4000000 in
theorem r_sends (h : qB) (th : Int32) (sf asd sts snp txt rdd : Nat → Int32) (cnt hq len pt iw rm : Int32) (X : qm) (hR : RelR sf X) (hW : WK X) {kd t s : Nat} : CtV mX3_sends 0 [qR 11 0, qI (nI kd), qI (nI t), qI (nI s)] (q_put h 11 (oR th sf asd sts snp txt rdd cnt hq len pt iw rm)) (fun h2 => ∃ sf', RelR sf' (m_send X kd t s) ∧ h2 = q_put h 11 (oR th sf' asd sts snp txt rdd cnt hq len pt iw rm)) := by
  refine ct_of (by decide +kernel) rfl rfl (Nat.le_of_ble_eq_true rfl) ?_
  show Ev mX3_sends 0 0 [some (qR 11 0), some (qI (nI kd)), some (qI (nI t)), some (qI (nI s))] [] 132 (q_put h 11 (oR th sf asd sts snp txt rdd cnt hq len pt iw rm)) 0 0 _ _
  refine e_aload0 dX3_sends_0 ?_
  refine e_getfieldF flX3_7 dX3_sends_1 rfl rfl ?_
  refine e_bipush (v := nI 10) dX3_sends_4 (by decide) ?_
  refine e_dup2 dX3_sends_6 rfl rfl ?_
  refine e_ialoadN dX3_sends_7 rfl (by omega) (by decide) ?_
  rw [rR3 hR]
  refine e_iconst (z := 1) dX3_sends_8 ?_
  first | refine e_iaddN dX3_sends_9 ?_ | refine e_iadd dX3_sends_9 ?_
  refine e_iastoreN dX3_sends_10 rfl (by omega) (by decide) ?_
  refine e_aload0 dX3_sends_11 ?_
  refine e_getfieldF flX3_7 dX3_sends_12 rfl rfl ?_
  refine e_bipush (v := nI 13) dX3_sends_15 (by decide) ?_
  refine e_ialoadN dX3_sends_17 rfl (by omega) (by decide) ?_
  rw [upd_ne (by decide), rR6 hR]
  have h60 := hW.2.1
  refine e_bipush (v := nI 60) dX3_sends_18 (by decide) ?_
  first | refine e_icmp_neN 37 dX3_sends_20 (by decide) (by omega) (by omega) (fun hc20 => ?_) (fun hc20 => ?_) | refine e_icmp_ne 37 dX3_sends_20 (by decide) (fun hc20 => ?_) (fun hc20 => ?_)
  · refine e_aload0 dX3_sends_37 ?_
    refine e_getfieldF flX3_7 dX3_sends_38 rfl rfl ?_
    refine e_sipush (v := nI 195) dX3_sends_41 (by decide) ?_
    refine e_aload0 dX3_sends_44 ?_
    refine e_getfieldF flX3_7 dX3_sends_45 rfl rfl ?_
    refine e_bipush (v := nI 13) dX3_sends_48 (by decide) ?_
    refine e_ialoadN dX3_sends_50 rfl (by omega) (by decide) ?_
    rw [upd_ne (by decide), rR6 hR]
    first | refine e_iaddN dX3_sends_51 ?_ | refine e_iadd dX3_sends_51 ?_
    refine e_bipush (v := nI 32) dX3_sends_52 (by decide) ?_
    refine e_iload1 dX3_sends_54 ?_
    first | refine e_imulN dX3_sends_55 ?_ | refine e_imul dX3_sends_55 ?_
    refine e_iconst (z := 4) dX3_sends_56 ?_
    refine e_iload2 dX3_sends_57 ?_
    first | refine e_imulN dX3_sends_58 ?_ | refine e_imul dX3_sends_58 ?_
    first | refine e_iaddN dX3_sends_59 ?_ | refine e_iadd dX3_sends_59 ?_
    refine e_iload3 dX3_sends_60 ?_
    first | refine e_iaddN dX3_sends_61 ?_ | refine e_iadd dX3_sends_61 ?_
    refine e_iastoreN dX3_sends_62 rfl (by omega) (by decide) ?_
    refine e_aload0 dX3_sends_63 ?_
    refine e_getfieldF flX3_7 dX3_sends_64 rfl rfl ?_
    refine e_bipush (v := nI 13) dX3_sends_67 (by decide) ?_
    refine e_dup2 dX3_sends_69 rfl rfl ?_
    refine e_ialoadN dX3_sends_70 rfl (by omega) (by decide) ?_
    rw [upd_ne (by omega), upd_ne (by decide), rR6 hR]
    refine e_iconst (z := 1) dX3_sends_71 ?_
    first | refine e_iaddN dX3_sends_72 ?_ | refine e_iadd dX3_sends_72 ?_
    refine e_iastoreN dX3_sends_73 rfl (by omega) (by decide) ?_
    refine e_vret dX3_sends_74 rfl ?_
    first
      | exact ⟨rfl, rfl, _, relR_sendB hR (by omega), rfl⟩
      | exact ⟨rfl, rfl, _, relR_sendA hR hW (by omega), rfl⟩
  · refine e_aload0 dX3_sends_23 ?_
    refine e_getfieldF flX3_7 dX3_sends_24 rfl rfl ?_
    refine e_bipush (v := nI 12) dX3_sends_27 (by decide) ?_
    refine e_dup2 dX3_sends_29 rfl rfl ?_
    refine e_ialoadN dX3_sends_30 rfl (by omega) (by decide) ?_
    rw [upd_ne (by decide), rR5 hR]
    refine e_iconst (z := 1) dX3_sends_31 ?_
    first | refine e_iaddN dX3_sends_32 ?_ | refine e_iadd dX3_sends_32 ?_
    refine e_iastoreN dX3_sends_33 rfl (by omega) (by decide) ?_
    refine e_goto 74 dX3_sends_34 (by decide) ?_
    refine e_vret dX3_sends_74 rfl ?_
    first
      | exact ⟨rfl, rfl, _, relR_sendB hR (by omega), rfl⟩
      | exact ⟨rfl, rfl, _, relR_sendA hR hW (by omega), rfl⟩
