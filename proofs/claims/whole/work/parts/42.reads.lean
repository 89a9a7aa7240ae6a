/-! THE MODEL'S PROGRAM: reading -/
def t_sg (tx : Nat → Nat) (nt a : Nat) : Nat := if a < nt then tx a else 0
theorem t_sg_le {tx : Nat → Nat} {nt : Nat} {txt : Nat → Int32} (htx : ∀ i, i < nt → txt i = nI (tx i) ∧ 33 ≤ tx i ∧ tx i ≤ 126) (a : Nat) : t_sg tx nt a ≤ 126 := by
  unfold t_sg
  split
  · exact (htx a (by assumption)).2.2
  · decide
theorem t_sg_in {tx : Nat → Nat} {nt a : Nat} (h : 0 < t_sg tx nt a) : a < nt ∧ t_sg tx nt a = tx a := by
  unfold t_sg at h ⊢
  by_cases q : a < nt
  · rw [if_pos q] at h ⊢; exact ⟨q, rfl⟩
  · rw [if_neg q] at h; exact absurd h (by decide)
theorem t_sg_tx {tx : Nat → Nat} {nt a : Nat} (h : a < nt) : t_sg tx nt a = tx a := if_pos h
theorem i_rngT {lo hi s : Nat} (hs : s ≤ 126) (hl : lo ≤ 126) (hh : hi ≤ 126) : decide (¬ nI s < nI lo ∧ ¬ nI hi < nI s) = decide (lo ≤ s ∧ s ≤ hi) := by
  refine decide_eq_decide.mpr ?_
  rw [nI_ltI (by omega) (by omega), nI_ltI (by omega) (by omega)]
  omega
theorem tp_next {tx : Nat → Nat} {nt a : Nat} {s s' : qt} {l : List qt} (h : TP tx nt a s l) (ha : a < nt) (hs : t_step s (tx a) = some s') (h59 : ¬ tx a = 59) : TP tx nt (a + 1) s' l := by
  have q := tp_step h ha hs
  rw [if_neg h59] at q
  exact q
theorem tp_semi {tx : Nat → Nat} {nt a : Nat} {s : qt} {l : List qt} (h : TP tx nt a s l) (ha : a < nt) (he : t_end s = true) (h59 : tx a = 59) : TP tx nt (a + 1) t_0 (l ++ [s]) := by
  have hs : t_step s (tx a) = some t_0 := by
    have e : s.1 = 6 ∨ s.1 = 8 := of_decide_eq_true he
    unfold t_step
    rw [h59]
    rcases e with e | e <;> simp [e]
  have q := tp_step h ha hs
  rw [if_pos h59] at q
  exact q
/-- the machine can't go on: an error, or an end that comes too soon -/
def t_bad (tx : Nat → Nat) (nt a : Nat) (s : qt) : Prop := (a < nt ∧ t_step s (tx a) = none) ∨ (a = nt ∧ t_end s = false)
theorem tp_bad {tx : Nat → Nat} {nt a : Nat} {s : qt} {l : List qt} (h : TP tx nt a s l) (hb : t_bad tx nt a s) : t_err tx nt = a ∧ t_ok tx nt = false := by
  rcases hb with ⟨h1, h2⟩ | ⟨h1, h2⟩
  · have e := tp_err h h1 h2
    unfold t_ok t_err
    rw [e]
    refine ⟨rfl, ?_⟩
    rw [decide_eq_false (by dsimp only; omega), Bool.false_and]
  · subst h1
    have e := (tp_end h).1
    unfold t_ok t_err
    rw [e]
    refine ⟨rfl, ?_⟩
    dsimp only
    rw [h2, Bool.and_false]
theorem tp_good {tx : Nat → Nat} {nt : Nat} {s : qt} {l : List qt} (h : TP tx nt nt s l) (he : t_end s = true) : t_err tx nt = nt ∧ t_ok tx nt = true := by
  have e := (tp_end h).1
  unfold t_ok t_err
  rw [e]
  exact ⟨rfl, by simp [he]⟩
/-- behind the end of a part nothing goes on but by a semicolon -/
def t_blk (tx : Nat → Nat) (nt a : Nat) (s : qt) : Prop := a < nt → ¬ tx a = 59 → t_step s (tx a) = none
theorem t_blk_8 {tx : Nat → Nat} {nt a : Nat} {s : qt} (h : s.1 = 8) : t_blk tx nt a s := by
  intro h1 h2
  unfold t_step
  simp [h, h2]
def e_ent (r : Nat → Int32) (k : Nat) (s : qt) : Prop := r k = nI s.2.1 ∧ r (k + 1) = nI s.2.2.1 ∧ (s.2.1 = 98 → r (k + 2) = nI s.2.2.2.1 ∧ r (k + 3) = nI s.2.2.2.2) ∧ (s.2.1 = 113 → r (k + 2) = nI s.2.2.2.2)
set_option maxRecDepth 20000 in
set_option maxHeartbeats 4000000 in
theorem r_sign (h : qB) (th : Int32) (sf asd sts snp txt rdd : Nat → Int32) (cnt hq : Int32) {tx : Nat → Nat} {nt : Nat} (hn : nt ≤ 60) (htx : ∀ i, i < nt → txt i = nI (tx i) ∧ 33 ≤ tx i ∧ tx i ≤ 126) (rm : Int32) {a : Nat} (ha : a ≤ 61) (iw : Int32) : CtI mX3_sign 0 [qR 11 0] (q_put h 11 (oR th sf asd sts snp txt rdd cnt hq (nI nt) (nI a) iw rm)) (fun r h2 => r = nI (t_sg tx nt a) ∧ h2 = q_put h 11 (oR th sf asd sts snp txt rdd cnt hq (nI nt) (nI a) iw rm)) := by
  refine ct_of (by decide +kernel) rfl rfl (Nat.le_of_ble_eq_true rfl) ?_
  show Ev mX3_sign 0 0 [some (qR 11 0)] [] 132 (q_put h 11 (oR th sf asd sts snp txt rdd cnt hq (nI nt) (nI a) iw rm)) 0 0 _ _
  refine e_aload0 dX3_sign_0 ?_
  refine e_getfieldF flX3_159 dX3_sign_1 rfl rfl ?_
  refine e_aload0 dX3_sign_4 ?_
  refine e_getfieldF flX3_156 dX3_sign_5 rfl rfl ?_
  first | refine e_icmp_geN 23 dX3_sign_8 (by decide) (by omega) (by omega) (fun hc8 => ?_) (fun hc8 => ?_) | refine e_icmp_ge 23 dX3_sign_8 (by decide) (fun hc8 => ?_) (fun hc8 => ?_)
  · refine e_iconst (z := 0) dX3_sign_23 ?_
    refine e_iret dX3_sign_24 rfl ?_
    first
      | exact ⟨_, rfl, rfl, by rw [t_sg_tx (by omega)]; exact (htx a (by omega)).1, rfl⟩
      | exact ⟨_, rfl, rfl, by unfold t_sg; rw [if_neg (by omega)], rfl⟩
  · refine e_aload0 dX3_sign_11 ?_
    refine e_getfieldF flX3_22 dX3_sign_12 rfl rfl ?_
    refine e_aload0 dX3_sign_15 ?_
    refine e_getfieldF flX3_159 dX3_sign_16 rfl rfl ?_
    refine e_ialoadN dX3_sign_19 rfl (by omega) (by decide) ?_
    refine e_goto 24 dX3_sign_20 (by decide) ?_
    refine e_iret dX3_sign_24 rfl ?_
    first
      | exact ⟨_, rfl, rfl, by rw [t_sg_tx (by omega)]; exact (htx a (by omega)).1, rfl⟩
      | exact ⟨_, rfl, rfl, by unfold t_sg; rw [if_neg (by omega)], rfl⟩
set_option maxRecDepth 20000 in
set_option maxHeartbeats 4000000 in
theorem rd_ok (h : qB) (th : Int32) (sf asd sts snp txt rdd : Nat → Int32) (cnt hq : Int32) {tx : Nat → Nat} {nt : Nat} (hn : nt ≤ 60) (htx : ∀ i, i < nt → txt i = nI (tx i) ∧ 33 ≤ tx i ∧ tx i ≤ 126) (rm : Int32) {a lo hi : Nat} (ha : a ≤ 61) (h48 : 48 ≤ lo) (hlo : lo ≤ 126) (hhi : hi ≤ 126) (h1 : lo ≤ t_sg tx nt a) (h2 : t_sg tx nt a ≤ hi) : CtI mX3_reads 1 [qR 11 0, qI (nI lo), qI (nI hi)] (q_put h 11 (oR th sf asd sts snp txt rdd cnt hq (nI nt) (nI a) (nI 1) rm)) (fun r h2 => r = nI (t_sg tx nt a - 48) ∧ h2 = q_put h 11 (oR th sf asd sts snp txt rdd cnt hq (nI nt) (nI (a + 1)) (nI 1) rm)) := by
  have hs := t_sg_le htx a
  refine ct_of (by decide +kernel) rfl rfl (Nat.le_of_ble_eq_true rfl) ?_
  show Ev mX3_reads 1 0 [some (qR 11 0), some (qI (nI lo)), some (qI (nI hi)), none] [] 132 (q_put h 11 (oR th sf asd sts snp txt rdd cnt hq (nI nt) (nI a) (nI 1) rm)) 0 0 _ _
  refine e_aload0 dX3_reads_0 ?_
  refine e_aload0 dX3_reads_1 ?_
  refine e_getfieldF flX3_162 dX3_reads_2 rfl rfl ?_
  refine e_if_eqN 24 dX3_reads_5 (by decide) (by first | omega | decide) (fun q => absurd q (by decide)) (fun hc5 => ?_)
  refine e_aload0 dX3_reads_8 ?_
  refine e_vIF (M' := mX3_sign) fX3_sign lkX3_166 (r_sign h th sf asd sts snp txt rdd cnt hq hn htx rm (a := a) ha (nI 1)) rfl rfl dX3_reads_9 rfl rfl (by decide) (Nat.le_of_ble_eq_true rfl) rfl ?_
  rintro _ _ ⟨rfl, rfl⟩
  refine e_iload1 dX3_reads_12 ?_
  refine e_iload2 dX3_reads_13 ?_
  refine e_sI (M' := mX3_in) fX3_in lkX3_32 (r_in _ _ _ _) rfl rfl dX3_reads_14 (by decide) (Nat.le_of_ble_eq_true rfl) rfl ?_
  rintro _ _ ⟨rfl, rfl⟩
  rw [i_rngT hs hlo hhi, decide_eq_true ⟨h1, h2⟩]
  refine e_if_eqN 24 dX3_reads_17 (by decide) (by first | omega | decide) (fun q => absurd q (by decide)) (fun hc17 => ?_)
  refine e_iconst (z := 1) dX3_reads_20 ?_
  refine e_goto 25 dX3_reads_21 (by decide) ?_
  refine e_putfieldF flX3_162 dX3_reads_25 rfl (Nat.le_of_ble_eq_true rfl) (fun _ => rfl) (fun _ => rfl) ?_
  refine e_aload0 dX3_reads_28 ?_
  refine e_vIF (M' := mX3_sign) fX3_sign lkX3_166 (r_sign h th sf asd sts snp txt rdd cnt hq hn htx rm (a := a) ha (nI 1)) rfl rfl dX3_reads_29 rfl rfl (by decide) (Nat.le_of_ble_eq_true rfl) rfl ?_
  rintro _ _ ⟨rfl, rfl⟩
  refine e_bipush (v := nI 48) dX3_reads_32 (by decide) ?_
  refine e_isubN dX3_reads_34 (by omega) ?_
  refine e_istore3 dX3_reads_35 rfl (by decide) ?_
  refine e_aload0 dX3_reads_36 ?_
  refine e_dup dX3_reads_37 rfl ?_
  refine e_getfieldF flX3_159 dX3_reads_38 rfl rfl ?_
  refine e_aload0 dX3_reads_41 ?_
  refine e_getfieldF flX3_162 dX3_reads_42 rfl rfl ?_
  refine e_if_eqN 52 dX3_reads_45 (by decide) (by first | omega | decide) (fun q => absurd q (by decide)) (fun hc45 => ?_)
  refine e_iconst (z := 1) dX3_reads_48 ?_
  refine e_goto 53 dX3_reads_49 (by decide) ?_
  first | refine e_iaddN dX3_reads_53 ?_ | refine e_iadd dX3_reads_53 ?_
  refine e_putfieldF flX3_159 dX3_reads_54 rfl (Nat.le_of_ble_eq_true rfl) (fun _ => rfl) (fun _ => rfl) ?_
  refine e_iload3 dX3_reads_57 ?_
  refine e_iret dX3_reads_58 rfl ?_
  exact ⟨_, rfl, rfl, rfl, rfl⟩
set_option maxRecDepth 20000 in
set_option maxHeartbeats 4000000 in
theorem rd_no (h : qB) (th : Int32) (sf asd sts snp txt rdd : Nat → Int32) (cnt hq : Int32) {tx : Nat → Nat} {nt : Nat} (hn : nt ≤ 60) (htx : ∀ i, i < nt → txt i = nI (tx i) ∧ 33 ≤ tx i ∧ tx i ≤ 126) (rm : Int32) {a lo hi : Nat} (ha : a ≤ 61) (hlo : lo ≤ 126) (hhi : hi ≤ 126) (h1 : ¬ (lo ≤ t_sg tx nt a ∧ t_sg tx nt a ≤ hi)) : CtI mX3_reads 1 [qR 11 0, qI (nI lo), qI (nI hi)] (q_put h 11 (oR th sf asd sts snp txt rdd cnt hq (nI nt) (nI a) (nI 1) rm)) (fun r h2 => h2 = q_put h 11 (oR th sf asd sts snp txt rdd cnt hq (nI nt) (nI a) (nI 0) rm)) := by
  have hs := t_sg_le htx a
  refine ct_of (by decide +kernel) rfl rfl (Nat.le_of_ble_eq_true rfl) ?_
  show Ev mX3_reads 1 0 [some (qR 11 0), some (qI (nI lo)), some (qI (nI hi)), none] [] 132 (q_put h 11 (oR th sf asd sts snp txt rdd cnt hq (nI nt) (nI a) (nI 1) rm)) 0 0 _ _
  refine e_aload0 dX3_reads_0 ?_
  refine e_aload0 dX3_reads_1 ?_
  refine e_getfieldF flX3_162 dX3_reads_2 rfl rfl ?_
  refine e_if_eqN 24 dX3_reads_5 (by decide) (by first | omega | decide) (fun q => absurd q (by decide)) (fun hc5 => ?_)
  refine e_aload0 dX3_reads_8 ?_
  refine e_vIF (M' := mX3_sign) fX3_sign lkX3_166 (r_sign h th sf asd sts snp txt rdd cnt hq hn htx rm (a := a) ha (nI 1)) rfl rfl dX3_reads_9 rfl rfl (by decide) (Nat.le_of_ble_eq_true rfl) rfl ?_
  rintro _ _ ⟨rfl, rfl⟩
  refine e_iload1 dX3_reads_12 ?_
  refine e_iload2 dX3_reads_13 ?_
  refine e_sI (M' := mX3_in) fX3_in lkX3_32 (r_in _ _ _ _) rfl rfl dX3_reads_14 (by decide) (Nat.le_of_ble_eq_true rfl) rfl ?_
  rintro _ _ ⟨rfl, rfl⟩
  rw [i_rngT hs hlo hhi, decide_eq_false h1]
  refine e_if_eqN 24 dX3_reads_17 (by decide) (by first | omega | decide) (fun hc17 => ?_) (fun q => absurd rfl q)
  refine e_iconst (z := 0) dX3_reads_24 ?_
  refine e_putfieldF flX3_162 dX3_reads_25 rfl (Nat.le_of_ble_eq_true rfl) (fun _ => rfl) (fun _ => rfl) ?_
  refine e_aload0 dX3_reads_28 ?_
  refine e_vIF (M' := mX3_sign) fX3_sign lkX3_166 (r_sign h th sf asd sts snp txt rdd cnt hq hn htx rm (a := a) ha (nI 0)) rfl rfl dX3_reads_29 rfl rfl (by decide) (Nat.le_of_ble_eq_true rfl) rfl ?_
  rintro _ _ ⟨rfl, rfl⟩
  refine e_bipush (v := nI 48) dX3_reads_32 (by decide) ?_
  refine e_isub dX3_reads_34 ?_
  refine e_istore3 dX3_reads_35 rfl (by decide) ?_
  refine e_aload0 dX3_reads_36 ?_
  refine e_dup dX3_reads_37 rfl ?_
  refine e_getfieldF flX3_159 dX3_reads_38 rfl rfl ?_
  refine e_aload0 dX3_reads_41 ?_
  refine e_getfieldF flX3_162 dX3_reads_42 rfl rfl ?_
  refine e_if_eqN 52 dX3_reads_45 (by decide) (by first | omega | decide) (fun hc45 => ?_) (fun q => absurd rfl q)
  refine e_iconst (z := 0) dX3_reads_52 ?_
  first | refine e_iaddN dX3_reads_53 ?_ | refine e_iadd dX3_reads_53 ?_
  refine e_putfieldF flX3_159 dX3_reads_54 rfl (Nat.le_of_ble_eq_true rfl) (fun _ => rfl) (fun _ => rfl) ?_
  refine e_iload3 dX3_reads_57 ?_
  refine e_iret dX3_reads_58 rfl ?_
  exact ⟨_, rfl, rfl, rfl⟩
set_option maxRecDepth 20000 in
set_option maxHeartbeats 4000000 in
theorem rd_dead (h : qB) (th : Int32) (sf asd sts snp txt rdd : Nat → Int32) (cnt hq : Int32) {tx : Nat → Nat} {nt : Nat} (hn : nt ≤ 60) (htx : ∀ i, i < nt → txt i = nI (tx i) ∧ 33 ≤ tx i ∧ tx i ≤ 126) (rm : Int32) {a : Nat} (ha : a ≤ 61) {lo hi : Int32} : CtI mX3_reads 1 [qR 11 0, qI lo, qI hi] (q_put h 11 (oR th sf asd sts snp txt rdd cnt hq (nI nt) (nI a) (nI 0) rm)) (fun r h2 => h2 = q_put h 11 (oR th sf asd sts snp txt rdd cnt hq (nI nt) (nI a) (nI 0) rm)) := by
  have hs := t_sg_le htx a
  refine ct_of (by decide +kernel) rfl rfl (Nat.le_of_ble_eq_true rfl) ?_
  show Ev mX3_reads 1 0 [some (qR 11 0), some (qI lo), some (qI hi), none] [] 132 (q_put h 11 (oR th sf asd sts snp txt rdd cnt hq (nI nt) (nI a) (nI 0) rm)) 0 0 _ _
  refine e_aload0 dX3_reads_0 ?_
  refine e_aload0 dX3_reads_1 ?_
  refine e_getfieldF flX3_162 dX3_reads_2 rfl rfl ?_
  refine e_if_eqN 24 dX3_reads_5 (by decide) (by first | omega | decide) (fun hc5 => ?_) (fun q => absurd rfl q)
  refine e_iconst (z := 0) dX3_reads_24 ?_
  refine e_putfieldF flX3_162 dX3_reads_25 rfl (Nat.le_of_ble_eq_true rfl) (fun _ => rfl) (fun _ => rfl) ?_
  refine e_aload0 dX3_reads_28 ?_
  refine e_vIF (M' := mX3_sign) fX3_sign lkX3_166 (r_sign h th sf asd sts snp txt rdd cnt hq hn htx rm (a := a) ha (nI 0)) rfl rfl dX3_reads_29 rfl rfl (by decide) (Nat.le_of_ble_eq_true rfl) rfl ?_
  rintro _ _ ⟨rfl, rfl⟩
  refine e_bipush (v := nI 48) dX3_reads_32 (by decide) ?_
  refine e_isub dX3_reads_34 ?_
  refine e_istore3 dX3_reads_35 rfl (by decide) ?_
  refine e_aload0 dX3_reads_36 ?_
  refine e_dup dX3_reads_37 rfl ?_
  refine e_getfieldF flX3_159 dX3_reads_38 rfl rfl ?_
  refine e_aload0 dX3_reads_41 ?_
  refine e_getfieldF flX3_162 dX3_reads_42 rfl rfl ?_
  refine e_if_eqN 52 dX3_reads_45 (by decide) (by first | omega | decide) (fun hc45 => ?_) (fun q => absurd rfl q)
  refine e_iconst (z := 0) dX3_reads_52 ?_
  first | refine e_iaddN dX3_reads_53 ?_ | refine e_iadd dX3_reads_53 ?_
  refine e_putfieldF flX3_159 dX3_reads_54 rfl (Nat.le_of_ble_eq_true rfl) (fun _ => rfl) (fun _ => rfl) ?_
  refine e_iload3 dX3_reads_57 ?_
  refine e_iret dX3_reads_58 rfl ?_
  exact ⟨_, rfl, rfl, rfl⟩
