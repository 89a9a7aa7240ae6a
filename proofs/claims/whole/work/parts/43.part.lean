/-! THE MODEL'S PROGRAM: a part -/
theorem t_step_1 {s : qt} {c : Nat} (h : s.1 = 1) (hc : 48 + t_lo s.2.1 ≤ c ∧ c ≤ 48 + t_hi s.2.1) : t_step s c = some ((if s.2.1 = 98 then 2 else if s.2.1 = 113 then 7 else 8), (s.2.1, (c - 48, (0, 0)))) := by
  unfold t_step
  rw [if_neg (by rw [h]; decide), if_pos h, if_pos hc]
theorem t_step_no1 {s : qt} {c : Nat} (h : s.1 = 1) (hc : ¬ (48 + t_lo s.2.1 ≤ c ∧ c ≤ 48 + t_hi s.2.1)) : t_step s c = none := by
  unfold t_step
  rw [if_neg (by rw [h]; decide), if_pos h, if_neg hc]
theorem t_step_no2 {s : qt} {c : Nat} (h : s.1 = 2) (hc : ¬ c = 62) : t_step s c = none := by
  unfold t_step
  rw [if_neg (by rw [h]; decide), if_neg (by rw [h]; decide), if_pos h, if_neg hc]
theorem t_step_58 {s : qt} {c : Nat} (h : s.1 = 4) (hc : c = 58) : t_step s c = some (5, s.2) := by
  unfold t_step
  rw [if_neg (by rw [h]; decide), if_neg (by rw [h]; decide), if_neg (by rw [h]; decide), if_neg (by rw [h]; decide), if_pos h, if_pos hc]
theorem t_step_7 {s : qt} {c : Nat} (h : s.1 = 7) (hc : 48 ≤ c ∧ c ≤ 55) : t_step s c = some (8, (s.2.1, (s.2.2.1, (s.2.2.2.1, c - 48)))) := by
  unfold t_step
  rw [if_neg (by rw [h]; decide), if_neg (by rw [h]; decide), if_neg (by rw [h]; decide), if_neg (by rw [h]; decide), if_neg (by rw [h]; decide), if_neg (by rw [h]; decide), if_neg (by rw [h]; decide), if_pos h, if_pos hc]
theorem t_step_no7 {s : qt} {c : Nat} (h : s.1 = 7) (hc : ¬ (48 ≤ c ∧ c ≤ 55)) : t_step s c = none := by
  unfold t_step
  rw [if_neg (by rw [h]; decide), if_neg (by rw [h]; decide), if_neg (by rw [h]; decide), if_neg (by rw [h]; decide), if_neg (by rw [h]; decide), if_neg (by rw [h]; decide), if_neg (by rw [h]; decide), if_pos h, if_neg hc]
theorem t_step_no0 {c : Nat} (hc : t_let c = false) : t_step t_0 c = none := by
  unfold t_step t_0
  simp [hc]
set_option maxRecDepth 20000 in
set_option maxHeartbeats 4000000 in
theorem rp_part (h : qB) (th : Int32) (sf asd sts snp txt rdd : Nat → Int32) (cnt hq : Int32) {tx : Nat → Nat} {nt : Nat} (hn : nt ≤ 60) (htx : ∀ i, i < nt → txt i = nI (tx i) ∧ 33 ≤ tx i ∧ tx i ≤ 126) {a m : Nat} {l : List qt} (hp : TP tx nt a t_0 l) (hm : m ≤ 20) (iw : Int32) : CtV mX3_readsPart 3 [qR 11 0] (q_put h 11 (oR th sf asd sts snp txt rdd cnt hq (nI nt) (nI a) iw (nI m))) (fun h2 => ∃ r' : Nat → Int32, (∀ j, j < 4 * m → r' j = rdd j) ∧ ((∃ (a' : Nat) (s' : qt), TP tx nt a' s' l ∧ t_end s' = true ∧ t_blk tx nt a' s' ∧ e_ent r' (4 * m) s' ∧ a + 2 ≤ a' ∧ h2 = q_put h 11 (oR th sf asd sts snp txt r' cnt hq (nI nt) (nI a') (nI 1) (nI (m + 1)))) ∨ (∃ (a' : Nat) (s' : qt), TP tx nt a' s' l ∧ t_bad tx nt a' s' ∧ h2 = q_put h 11 (oR th sf asd sts snp txt r' cnt hq (nI nt) (nI a') (nI 0) (nI m))))) := by
  have ha := hp.1
  have hs := t_sg_le htx a
  have T1 : ∀ (r' : Nat → Int32) (a' : Nat) (s' : qt) (l1 l2 : Option qV), TP tx nt a' s' l → t_end s' = true → t_blk tx nt a' s' → e_ent r' (4 * m) s' → a + 2 ≤ a' → (∀ j, j < 4 * m → r' j = rdd j) → Ev mX3_readsPart 3 323 [some (qR 11 0), l1, l2] [] 132 (q_put h 11 (oR th sf asd sts snp txt r' cnt hq (nI nt) (nI a') (nI 1) (nI m))) 0 0 (fun r n h' => r = none ∧ n = 132 ∧ ((fun h2 => ∃ r' : Nat → Int32, (∀ j, j < 4 * m → r' j = rdd j) ∧ ((∃ (a' : Nat) (s' : qt), TP tx nt a' s' l ∧ t_end s' = true ∧ t_blk tx nt a' s' ∧ e_ent r' (4 * m) s' ∧ a + 2 ≤ a' ∧ h2 = q_put h 11 (oR th sf asd sts snp txt r' cnt hq (nI nt) (nI a') (nI 1) (nI (m + 1)))) ∨ (∃ (a' : Nat) (s' : qt), TP tx nt a' s' l ∧ t_bad tx nt a' s' ∧ h2 = q_put h 11 (oR th sf asd sts snp txt r' cnt hq (nI nt) (nI a') (nI 0) (nI m)))))) h') qNo := by
    intro r' a' s' l1 l2 b1 b2 b3 b4 b5 b6
    refine e_aload0 dX3_readsPart_323 ?_
    refine e_dup dX3_readsPart_324 rfl ?_
    refine e_getfieldF flX3_172 dX3_readsPart_325 rfl rfl ?_
    refine e_aload0 dX3_readsPart_328 ?_
    refine e_getfieldF flX3_162 dX3_readsPart_329 rfl rfl ?_
    refine e_if_eqN 339 dX3_readsPart_332 (by decide) (by first | omega | decide) (fun q => absurd q (by decide)) (fun hc332 => ?_)
    refine e_iconst (z := 1) dX3_readsPart_335 ?_
    refine e_goto 340 dX3_readsPart_336 (by decide) ?_
    first | refine e_iaddN dX3_readsPart_340 ?_ | refine e_iadd dX3_readsPart_340 ?_
    refine e_putfieldF flX3_172 dX3_readsPart_341 rfl (Nat.le_of_ble_eq_true rfl) (fun _ => rfl) (fun _ => rfl) ?_
    refine e_vret dX3_readsPart_344 rfl ?_
    exact ⟨rfl, rfl, r', b6, Or.inl ⟨a', s', b1, b2, b3, b4, b5, rfl⟩⟩
  have T0 : ∀ (r' : Nat → Int32) (a' : Nat) (s' : qt) (l1 l2 : Option qV), TP tx nt a' s' l → t_bad tx nt a' s' → (∀ j, j < 4 * m → r' j = rdd j) → Ev mX3_readsPart 3 323 [some (qR 11 0), l1, l2] [] 132 (q_put h 11 (oR th sf asd sts snp txt r' cnt hq (nI nt) (nI a') (nI 0) (nI m))) 0 0 (fun r n h' => r = none ∧ n = 132 ∧ ((fun h2 => ∃ r' : Nat → Int32, (∀ j, j < 4 * m → r' j = rdd j) ∧ ((∃ (a' : Nat) (s' : qt), TP tx nt a' s' l ∧ t_end s' = true ∧ t_blk tx nt a' s' ∧ e_ent r' (4 * m) s' ∧ a + 2 ≤ a' ∧ h2 = q_put h 11 (oR th sf asd sts snp txt r' cnt hq (nI nt) (nI a') (nI 1) (nI (m + 1)))) ∨ (∃ (a' : Nat) (s' : qt), TP tx nt a' s' l ∧ t_bad tx nt a' s' ∧ h2 = q_put h 11 (oR th sf asd sts snp txt r' cnt hq (nI nt) (nI a') (nI 0) (nI m)))))) h') qNo := by
    intro r' a' s' l1 l2 b1 b2 b6
    refine e_aload0 dX3_readsPart_323 ?_
    refine e_dup dX3_readsPart_324 rfl ?_
    refine e_getfieldF flX3_172 dX3_readsPart_325 rfl rfl ?_
    refine e_aload0 dX3_readsPart_328 ?_
    refine e_getfieldF flX3_162 dX3_readsPart_329 rfl rfl ?_
    refine e_if_eqN 339 dX3_readsPart_332 (by decide) (by first | omega | decide) (fun hc332 => ?_) (fun q => absurd rfl q)
    refine e_iconst (z := 0) dX3_readsPart_339 ?_
    first | refine e_iaddN dX3_readsPart_340 ?_ | refine e_iadd dX3_readsPart_340 ?_
    refine e_putfieldF flX3_172 dX3_readsPart_341 rfl (Nat.le_of_ble_eq_true rfl) (fun _ => rfl) (fun _ => rfl) ?_
    refine e_vret dX3_readsPart_344 rfl ?_
    exact ⟨rfl, rfl, r', b6, Or.inr ⟨a', s', b1, b2, rfl⟩⟩
  have TD : ∀ (r' : Nat → Int32) (l1 l2 : Option qV), t_bad tx nt a t_0 → (∀ j, j < 4 * m → r' j = rdd j) → Ev mX3_readsPart 3 308 [some (qR 11 0), l1, l2] [] 132 (q_put h 11 (oR th sf asd sts snp txt r' cnt hq (nI nt) (nI (a + 1)) (nI 1) (nI m))) 0 0 (fun r n h' => r = none ∧ n = 132 ∧ ((fun h2 => ∃ r' : Nat → Int32, (∀ j, j < 4 * m → r' j = rdd j) ∧ ((∃ (a' : Nat) (s' : qt), TP tx nt a' s' l ∧ t_end s' = true ∧ t_blk tx nt a' s' ∧ e_ent r' (4 * m) s' ∧ a + 2 ≤ a' ∧ h2 = q_put h 11 (oR th sf asd sts snp txt r' cnt hq (nI nt) (nI a') (nI 1) (nI (m + 1)))) ∨ (∃ (a' : Nat) (s' : qt), TP tx nt a' s' l ∧ t_bad tx nt a' s' ∧ h2 = q_put h 11 (oR th sf asd sts snp txt r' cnt hq (nI nt) (nI a') (nI 0) (nI m)))))) h') qNo := by
    intro r' l1 l2 b2 b6
    refine e_aload0 dX3_readsPart_308 ?_
    refine e_dup dX3_readsPart_309 rfl ?_
    refine e_getfieldF flX3_159 dX3_readsPart_310 rfl rfl ?_
    refine e_iconst (z := 1) dX3_readsPart_313 ?_
    refine e_isubN dX3_readsPart_314 (by omega) ?_
    rw [show a + 1 - 1 = a by omega]
    refine e_putfieldF flX3_159 dX3_readsPart_315 rfl (Nat.le_of_ble_eq_true rfl) (fun _ => rfl) (fun _ => rfl) ?_
    refine e_aload0 dX3_readsPart_318 ?_
    refine e_iconst (z := 0) dX3_readsPart_319 ?_
    refine e_putfieldF flX3_162 dX3_readsPart_320 rfl (Nat.le_of_ble_eq_true rfl) (fun _ => rfl) (fun _ => rfl) ?_
    exact T0 _ a t_0 _ _ hp b2 b6
  refine ct_of (by decide +kernel) rfl rfl (Nat.le_of_ble_eq_true rfl) ?_
  show Ev mX3_readsPart 3 0 [some (qR 11 0), none, none] [] 132 (q_put h 11 (oR th sf asd sts snp txt rdd cnt hq (nI nt) (nI a) iw (nI m))) 0 0 _ _
  refine e_iconst (z := 4) dX3_readsPart_0 ?_
  refine e_aload0 dX3_readsPart_1 ?_
  refine e_getfieldF flX3_172 dX3_readsPart_2 rfl rfl ?_
  first | refine e_imulN dX3_readsPart_5 ?_ | refine e_imul dX3_readsPart_5 ?_
  refine e_istore1 dX3_readsPart_6 rfl (by decide) ?_
  refine e_aload0 dX3_readsPart_7 ?_
  refine e_vIF (M' := mX3_sign) fX3_sign lkX3_166 (r_sign h th sf asd sts snp txt rdd cnt hq hn htx (nI m) (a := a) (by omega) iw) rfl rfl dX3_readsPart_8 rfl rfl (by decide) (Nat.le_of_ble_eq_true rfl) rfl ?_
  rintro _ _ ⟨rfl, rfl⟩
  refine e_istore2 dX3_readsPart_11 rfl (by decide) ?_
  refine e_aload0 dX3_readsPart_12 ?_
  refine e_iconst (z := 1) dX3_readsPart_13 ?_
  refine e_putfieldF flX3_162 dX3_readsPart_14 rfl (Nat.le_of_ble_eq_true rfl) (fun _ => rfl) (fun _ => rfl) ?_
  refine e_aload0 dX3_readsPart_17 ?_
  refine e_getfieldF flX3_25 dX3_readsPart_18 rfl rfl ?_
  refine e_iload1 dX3_readsPart_21 ?_
  refine e_iload2 dX3_readsPart_22 ?_
  refine e_iastoreN dX3_readsPart_23 rfl (by omega) (by decide) ?_
  refine e_aload0 dX3_readsPart_24 ?_
  refine e_getfieldF flX3_25 dX3_readsPart_25 rfl rfl ?_
  refine e_iload1 dX3_readsPart_28 ?_
  refine e_iconst (z := 2) dX3_readsPart_29 ?_
  first | refine e_iaddN dX3_readsPart_30 ?_ | refine e_iadd dX3_readsPart_30 ?_
  refine e_iconst (z := 0) dX3_readsPart_31 ?_
  refine e_iastoreN dX3_readsPart_32 rfl (by omega) (by decide) ?_
  refine e_aload0 dX3_readsPart_33 ?_
  refine e_dup dX3_readsPart_34 rfl ?_
  refine e_getfieldF flX3_159 dX3_readsPart_35 rfl rfl ?_
  refine e_iconst (z := 1) dX3_readsPart_38 ?_
  first | refine e_iaddN dX3_readsPart_39 ?_ | refine e_iadd dX3_readsPart_39 ?_
  refine e_putfieldF flX3_159 dX3_readsPart_40 rfl (Nat.le_of_ble_eq_true rfl) (fun _ => rfl) (fun _ => rfl) ?_
  refine e_iload2 dX3_readsPart_43 ?_
  by_cases hl : t_let (t_sg tx nt a) = true
  · have hin := t_sg_in (tx := tx) (nt := nt) (a := a) (by have := t_let_of hl; omega)
    rcases t_let_of hl with hc | hc | hc | hc | hc | hc | hc
    · rw [hc]
      refine e_tableIn 128 (off := 84) dX3_readsPart_44 (by decide) (by decide) (by decide +kernel) (by decide) ?_
      have hp1 : TP tx nt (a + 1) (1, (98, (0, (0, 0)))) l := tp_next hp hin.1 (by rw [← hin.2, hc]; rfl) (by rw [← hin.2, hc]; decide)
      have hs1 := t_sg_le htx (a + 1)
      have ha1 := hp1.1
      refine e_aload0 dX3_readsPart_128 ?_
      refine e_getfieldF flX3_25 dX3_readsPart_129 rfl rfl ?_
      refine e_iload1 dX3_readsPart_132 ?_
      refine e_iconst (z := 1) dX3_readsPart_133 ?_
      first | refine e_iaddN dX3_readsPart_134 ?_ | refine e_iadd dX3_readsPart_134 ?_
      refine e_aload0 dX3_readsPart_135 ?_
      refine e_bipush (v := nI 48) dX3_readsPart_136 (by decide) ?_
      refine e_bipush (v := nI 51) dX3_readsPart_138 (by decide) ?_
      by_cases hd : 48 ≤ t_sg tx nt (a + 1) ∧ t_sg tx nt (a + 1) ≤ 51
      · have hin1 := t_sg_in (tx := tx) (nt := nt) (a := a + 1) (by omega)
        have hp2 : TP tx nt (a + 2) (2, (98, ((t_sg tx nt (a + 1) - 48), (0, 0)))) l := by
          have q := tp_next hp1 hin1.1 (t_step_1 (s := (1, (98, (0, (0, 0))))) rfl (by rw [← hin1.2]; exact hd)) (by rw [← hin1.2]; omega)
          rw [← hin1.2] at q
          exact q
        refine e_vIF (M' := mX3_reads) fX3_reads lkX3_169 (rd_ok h th sf asd sts snp txt (_) cnt hq hn htx (nI m) (a := a + 1) (lo := 48) (hi := 51) (by omega) (by decide) (by decide) (by decide) hd.1 hd.2) rfl rfl dX3_readsPart_140 rfl rfl (by decide) (Nat.le_of_ble_eq_true rfl) rfl ?_
        rintro _ _ ⟨rfl, rfl⟩
        refine e_iastoreN dX3_readsPart_143 rfl (by omega) (by decide) ?_
        refine e_aload0 dX3_readsPart_144 ?_
        refine e_bipush (v := nI 62) dX3_readsPart_145 (by decide) ?_
        refine e_bipush (v := nI 62) dX3_readsPart_147 (by decide) ?_
        have hs2 := t_sg_le htx (a + 2)
        have ha2 := hp2.1
        by_cases he : 62 ≤ t_sg tx nt (a + 2) ∧ t_sg tx nt (a + 2) ≤ 62
        · have hin2 := t_sg_in (tx := tx) (nt := nt) (a := a + 2) (by omega)
          have hp3 : TP tx nt (a + 3) (3, (98, ((t_sg tx nt (a + 1) - 48), (0, 0)))) l := tp_next hp2 hin2.1 (by rw [← hin2.2, show t_sg tx nt (a + 2) = 62 by omega]; rfl) (by rw [← hin2.2]; omega)
          refine e_vIF (M' := mX3_reads) fX3_reads lkX3_169 (rd_ok h th sf asd sts snp txt (_) cnt hq hn htx (nI m) (a := a + 2) (lo := 62) (hi := 62) (by omega) (by decide) (by decide) (by decide) he.1 he.2) rfl rfl dX3_readsPart_149 rfl rfl (by decide) (Nat.le_of_ble_eq_true rfl) rfl ?_
          rintro _ _ ⟨rfl, rfl⟩
          refine e_pop dX3_readsPart_152 rfl ?_
          refine e_aload0 dX3_readsPart_153 ?_
          refine e_getfieldF flX3_25 dX3_readsPart_154 rfl rfl ?_
          refine e_iload1 dX3_readsPart_157 ?_
          refine e_iconst (z := 2) dX3_readsPart_158 ?_
          first | refine e_iaddN dX3_readsPart_159 ?_ | refine e_iadd dX3_readsPart_159 ?_
          refine e_aload0 dX3_readsPart_160 ?_
          refine e_aload0 dX3_readsPart_161 ?_
          refine e_getfieldF flX3_25 dX3_readsPart_162 rfl rfl ?_
          refine e_iload1 dX3_readsPart_165 ?_
          refine e_iconst (z := 1) dX3_readsPart_166 ?_
          first | refine e_iaddN dX3_readsPart_167 ?_ | refine e_iadd dX3_readsPart_167 ?_
          refine e_ialoadN dX3_readsPart_168 rfl (by omega) (by decide) ?_
          rw [upd_same]
          refine e_vIF (M' := mX3_readsStores) fX3_readsStores lkX3_175 (st_live h th sf asd sts snp txt (_) cnt hq hn htx (nI m) (a := a + 3) (f := (t_sg tx nt (a + 1) - 48)) hp3 rfl rfl (by omega)) rfl rfl dX3_readsPart_169 rfl rfl (by decide) (Nat.le_of_ble_eq_true rfl) rfl ?_
          rintro _ _ (⟨a4, to, s4, hp4, rfl, e1, e2, e3, e4, hk4, ha4, rfl⟩ | ⟨hb4, rfl⟩)
          · skip
            refine e_iastoreN dX3_readsPart_172 rfl (by omega) (by decide) ?_
            refine e_aload0 dX3_readsPart_173 ?_
            refine e_bipush (v := nI 58) dX3_readsPart_174 (by decide) ?_
            refine e_bipush (v := nI 58) dX3_readsPart_176 (by decide) ?_
            have hs4 := t_sg_le htx a4
            have ha5 := hp4.1
            by_cases hf : 58 ≤ t_sg tx nt a4 ∧ t_sg tx nt a4 ≤ 58
            · have hin4 := t_sg_in (tx := tx) (nt := nt) (a := a4) (by omega)
              have hp5 : TP tx nt (a4 + 1) (5, s4.2) l := tp_next hp4 hin4.1 (t_step_58 e1 (by rw [← hin4.2]; omega)) (by rw [← hin4.2]; omega)
              refine e_vIF (M' := mX3_reads) fX3_reads lkX3_169 (rd_ok h th sf asd sts snp txt (_) cnt hq hn htx (nI m) (a := a4) (lo := 58) (hi := 58) (by omega) (by decide) (by decide) (by decide) hf.1 hf.2) rfl rfl dX3_readsPart_178 rfl rfl (by decide) (Nat.le_of_ble_eq_true rfl) rfl ?_
              rintro _ _ ⟨rfl, rfl⟩
              refine e_pop dX3_readsPart_181 rfl ?_
              refine e_aload0 dX3_readsPart_182 ?_
              refine e_getfieldF flX3_25 dX3_readsPart_183 rfl rfl ?_
              refine e_iload1 dX3_readsPart_186 ?_
              refine e_iconst (z := 3) dX3_readsPart_187 ?_
              first | refine e_iaddN dX3_readsPart_188 ?_ | refine e_iadd dX3_readsPart_188 ?_
              refine e_aload0 dX3_readsPart_189 ?_
              refine e_vIF (M' := mX3_readsSize) fX3_readsSize lkX3_178 (sz_live h th sf asd sts snp txt (_) cnt hq hn htx (nI m) (a := a4 + 1) (s := (5, s4.2)) hp5 rfl) rfl rfl dX3_readsPart_190 rfl rfl (by decide) (Nat.le_of_ble_eq_true rfl) rfl ?_
              rintro _ _ (⟨a6, s6, hp6, he6, hb6, g1, g2, g3, rfl, ha6, rfl⟩ | ⟨hb6, rfl⟩)
              · skip
                refine e_iastoreN dX3_readsPart_193 rfl (by omega) (by decide) ?_
                refine e_goto 323 dX3_readsPart_194 (by decide) ?_
                exact T1 _ a6 s6 _ _ hp6 he6 hb6 ⟨by rw [g1, e2]; simp [upd], by rw [g2, e3]; simp [upd], fun _ => ⟨by rw [g3, e4]; simp [upd], by simp [upd]⟩, fun q => absurd ((g1.trans e2).symm.trans q) (by dsimp only; decide)⟩ (by omega) (fun j hj => by repeat rw [upd_ne (by omega)])
              · skip
                refine e_iastoreN dX3_readsPart_193 rfl (by omega) (by decide) ?_
                refine e_goto 323 dX3_readsPart_194 (by decide) ?_
                exact T0 _ (a4 + 1) _ _ _ hp5 hb6 (fun j hj => by repeat rw [upd_ne (by omega)])
            · skip
              refine e_vIF (M' := mX3_reads) fX3_reads lkX3_169 (rd_no h th sf asd sts snp txt (_) cnt hq hn htx (nI m) (a := a4) (lo := 58) (hi := 58) (by omega) (by decide) (by decide) hf) rfl rfl dX3_readsPart_178 rfl rfl (by decide) (Nat.le_of_ble_eq_true rfl) rfl ?_
              rintro x1 _ rfl
              refine e_pop dX3_readsPart_181 rfl ?_
              refine e_aload0 dX3_readsPart_182 ?_
              refine e_getfieldF flX3_25 dX3_readsPart_183 rfl rfl ?_
              refine e_iload1 dX3_readsPart_186 ?_
              refine e_iconst (z := 3) dX3_readsPart_187 ?_
              first | refine e_iaddN dX3_readsPart_188 ?_ | refine e_iadd dX3_readsPart_188 ?_
              refine e_aload0 dX3_readsPart_189 ?_
              refine e_vIF (M' := mX3_readsSize) fX3_readsSize lkX3_178 (sz_dead h th sf asd sts snp txt (_) cnt hq hn htx (nI m) (a := a4) (by omega)) rfl rfl dX3_readsPart_190 rfl rfl (by decide) (Nat.le_of_ble_eq_true rfl) rfl ?_
              rintro x1 _ rfl
              refine e_iastoreN dX3_readsPart_193 rfl (by omega) (by decide) ?_
              refine e_goto 323 dX3_readsPart_194 (by decide) ?_
              exact T0 _ a4 _ _ _ hp4 (by
                by_cases q5 : a4 < nt
                · exact Or.inl ⟨q5, t_step_no4 e1 (by rw [← t_sg_tx (tx := tx) q5]; exact hk4) (by rw [← t_sg_tx (tx := tx) q5]; omega)⟩
                · exact Or.inr ⟨by omega, by unfold t_end; first | (rw [e1]; decide; done) | (simp; done)⟩) (fun j hj => by repeat rw [upd_ne (by omega)])
          · skip
            refine e_iastoreN dX3_readsPart_172 rfl (by omega) (by decide) ?_
            refine e_aload0 dX3_readsPart_173 ?_
            refine e_bipush (v := nI 58) dX3_readsPart_174 (by decide) ?_
            refine e_bipush (v := nI 58) dX3_readsPart_176 (by decide) ?_
            refine e_vIF (M' := mX3_reads) fX3_reads lkX3_169 (rd_dead h th sf asd sts snp txt (_) cnt hq hn htx (nI m) (a := a + 3) (by omega)) rfl rfl dX3_readsPart_178 rfl rfl (by decide) (Nat.le_of_ble_eq_true rfl) rfl ?_
            rintro x1 _ rfl
            refine e_pop dX3_readsPart_181 rfl ?_
            refine e_aload0 dX3_readsPart_182 ?_
            refine e_getfieldF flX3_25 dX3_readsPart_183 rfl rfl ?_
            refine e_iload1 dX3_readsPart_186 ?_
            refine e_iconst (z := 3) dX3_readsPart_187 ?_
            first | refine e_iaddN dX3_readsPart_188 ?_ | refine e_iadd dX3_readsPart_188 ?_
            refine e_aload0 dX3_readsPart_189 ?_
            refine e_vIF (M' := mX3_readsSize) fX3_readsSize lkX3_178 (sz_dead h th sf asd sts snp txt (_) cnt hq hn htx (nI m) (a := a + 3) (by omega)) rfl rfl dX3_readsPart_190 rfl rfl (by decide) (Nat.le_of_ble_eq_true rfl) rfl ?_
            rintro x1 _ rfl
            refine e_iastoreN dX3_readsPart_193 rfl (by omega) (by decide) ?_
            refine e_goto 323 dX3_readsPart_194 (by decide) ?_
            exact T0 _ (a + 3) _ _ _ hp3 hb4 (fun j hj => by repeat rw [upd_ne (by omega)])
        · skip
          refine e_vIF (M' := mX3_reads) fX3_reads lkX3_169 (rd_no h th sf asd sts snp txt (_) cnt hq hn htx (nI m) (a := a + 2) (lo := 62) (hi := 62) (by omega) (by decide) (by decide) he) rfl rfl dX3_readsPart_149 rfl rfl (by decide) (Nat.le_of_ble_eq_true rfl) rfl ?_
          rintro x1 _ rfl
          refine e_pop dX3_readsPart_152 rfl ?_
          refine e_aload0 dX3_readsPart_153 ?_
          refine e_getfieldF flX3_25 dX3_readsPart_154 rfl rfl ?_
          refine e_iload1 dX3_readsPart_157 ?_
          refine e_iconst (z := 2) dX3_readsPart_158 ?_
          first | refine e_iaddN dX3_readsPart_159 ?_ | refine e_iadd dX3_readsPart_159 ?_
          refine e_aload0 dX3_readsPart_160 ?_
          refine e_aload0 dX3_readsPart_161 ?_
          refine e_getfieldF flX3_25 dX3_readsPart_162 rfl rfl ?_
          refine e_iload1 dX3_readsPart_165 ?_
          refine e_iconst (z := 1) dX3_readsPart_166 ?_
          first | refine e_iaddN dX3_readsPart_167 ?_ | refine e_iadd dX3_readsPart_167 ?_
          refine e_ialoadN dX3_readsPart_168 rfl (by omega) (by decide) ?_
          refine e_vIF (M' := mX3_readsStores) fX3_readsStores lkX3_175 (st_dead h th sf asd sts snp txt (_) cnt hq hn htx (nI m) (a := a + 2)) rfl rfl dX3_readsPart_169 rfl rfl (by decide) (Nat.le_of_ble_eq_true rfl) rfl ?_
          rintro x1 _ rfl
          refine e_iastoreN dX3_readsPart_172 rfl (by omega) (by decide) ?_
          refine e_aload0 dX3_readsPart_173 ?_
          refine e_bipush (v := nI 58) dX3_readsPart_174 (by decide) ?_
          refine e_bipush (v := nI 58) dX3_readsPart_176 (by decide) ?_
          refine e_vIF (M' := mX3_reads) fX3_reads lkX3_169 (rd_dead h th sf asd sts snp txt (_) cnt hq hn htx (nI m) (a := a + 2) (by omega)) rfl rfl dX3_readsPart_178 rfl rfl (by decide) (Nat.le_of_ble_eq_true rfl) rfl ?_
          rintro x1 _ rfl
          refine e_pop dX3_readsPart_181 rfl ?_
          refine e_aload0 dX3_readsPart_182 ?_
          refine e_getfieldF flX3_25 dX3_readsPart_183 rfl rfl ?_
          refine e_iload1 dX3_readsPart_186 ?_
          refine e_iconst (z := 3) dX3_readsPart_187 ?_
          first | refine e_iaddN dX3_readsPart_188 ?_ | refine e_iadd dX3_readsPart_188 ?_
          refine e_aload0 dX3_readsPart_189 ?_
          refine e_vIF (M' := mX3_readsSize) fX3_readsSize lkX3_178 (sz_dead h th sf asd sts snp txt (_) cnt hq hn htx (nI m) (a := a + 2) (by omega)) rfl rfl dX3_readsPart_190 rfl rfl (by decide) (Nat.le_of_ble_eq_true rfl) rfl ?_
          rintro x1 _ rfl
          refine e_iastoreN dX3_readsPart_193 rfl (by omega) (by decide) ?_
          refine e_goto 323 dX3_readsPart_194 (by decide) ?_
          exact T0 _ (a + 2) _ _ _ hp2 (by
            by_cases q5 : a + 2 < nt
            · exact Or.inl ⟨q5, t_step_no2 (s := (2, (98, ((t_sg tx nt (a + 1) - 48), (0, 0))))) rfl (by rw [← t_sg_tx (tx := tx) q5]; omega)⟩
            · exact Or.inr ⟨by omega, by unfold t_end; first | (decide; done) | (simp; done)⟩) (fun j hj => by repeat rw [upd_ne (by omega)])
      · skip
        refine e_vIF (M' := mX3_reads) fX3_reads lkX3_169 (rd_no h th sf asd sts snp txt (_) cnt hq hn htx (nI m) (a := a + 1) (lo := 48) (hi := 51) (by omega) (by decide) (by decide) hd) rfl rfl dX3_readsPart_140 rfl rfl (by decide) (Nat.le_of_ble_eq_true rfl) rfl ?_
        rintro x1 _ rfl
        refine e_iastoreN dX3_readsPart_143 rfl (by omega) (by decide) ?_
        refine e_aload0 dX3_readsPart_144 ?_
        refine e_bipush (v := nI 62) dX3_readsPart_145 (by decide) ?_
        refine e_bipush (v := nI 62) dX3_readsPart_147 (by decide) ?_
        refine e_vIF (M' := mX3_reads) fX3_reads lkX3_169 (rd_dead h th sf asd sts snp txt (_) cnt hq hn htx (nI m) (a := a + 1) (by omega)) rfl rfl dX3_readsPart_149 rfl rfl (by decide) (Nat.le_of_ble_eq_true rfl) rfl ?_
        rintro x1 _ rfl
        refine e_pop dX3_readsPart_152 rfl ?_
        refine e_aload0 dX3_readsPart_153 ?_
        refine e_getfieldF flX3_25 dX3_readsPart_154 rfl rfl ?_
        refine e_iload1 dX3_readsPart_157 ?_
        refine e_iconst (z := 2) dX3_readsPart_158 ?_
        first | refine e_iaddN dX3_readsPart_159 ?_ | refine e_iadd dX3_readsPart_159 ?_
        refine e_aload0 dX3_readsPart_160 ?_
        refine e_aload0 dX3_readsPart_161 ?_
        refine e_getfieldF flX3_25 dX3_readsPart_162 rfl rfl ?_
        refine e_iload1 dX3_readsPart_165 ?_
        refine e_iconst (z := 1) dX3_readsPart_166 ?_
        first | refine e_iaddN dX3_readsPart_167 ?_ | refine e_iadd dX3_readsPart_167 ?_
        refine e_ialoadN dX3_readsPart_168 rfl (by omega) (by decide) ?_
        refine e_vIF (M' := mX3_readsStores) fX3_readsStores lkX3_175 (st_dead h th sf asd sts snp txt (_) cnt hq hn htx (nI m) (a := a + 1)) rfl rfl dX3_readsPart_169 rfl rfl (by decide) (Nat.le_of_ble_eq_true rfl) rfl ?_
        rintro x1 _ rfl
        refine e_iastoreN dX3_readsPart_172 rfl (by omega) (by decide) ?_
        refine e_aload0 dX3_readsPart_173 ?_
        refine e_bipush (v := nI 58) dX3_readsPart_174 (by decide) ?_
        refine e_bipush (v := nI 58) dX3_readsPart_176 (by decide) ?_
        refine e_vIF (M' := mX3_reads) fX3_reads lkX3_169 (rd_dead h th sf asd sts snp txt (_) cnt hq hn htx (nI m) (a := a + 1) (by omega)) rfl rfl dX3_readsPart_178 rfl rfl (by decide) (Nat.le_of_ble_eq_true rfl) rfl ?_
        rintro x1 _ rfl
        refine e_pop dX3_readsPart_181 rfl ?_
        refine e_aload0 dX3_readsPart_182 ?_
        refine e_getfieldF flX3_25 dX3_readsPart_183 rfl rfl ?_
        refine e_iload1 dX3_readsPart_186 ?_
        refine e_iconst (z := 3) dX3_readsPart_187 ?_
        first | refine e_iaddN dX3_readsPart_188 ?_ | refine e_iadd dX3_readsPart_188 ?_
        refine e_aload0 dX3_readsPart_189 ?_
        refine e_vIF (M' := mX3_readsSize) fX3_readsSize lkX3_178 (sz_dead h th sf asd sts snp txt (_) cnt hq hn htx (nI m) (a := a + 1) (by omega)) rfl rfl dX3_readsPart_190 rfl rfl (by decide) (Nat.le_of_ble_eq_true rfl) rfl ?_
        rintro x1 _ rfl
        refine e_iastoreN dX3_readsPart_193 rfl (by omega) (by decide) ?_
        refine e_goto 323 dX3_readsPart_194 (by decide) ?_
        exact T0 _ (a + 1) _ _ _ hp1 (by
          by_cases q5 : a + 1 < nt
          · exact Or.inl ⟨q5, t_step_no1 (s := (1, (98, (0, (0, 0))))) rfl (by rw [← t_sg_tx (tx := tx) q5]; exact hd)⟩
          · exact Or.inr ⟨by omega, by unfold t_end; first | (decide; done) | (simp; done)⟩) (fun j hj => by repeat rw [upd_ne (by omega)])
    · rw [hc]
      refine e_tableIn 197 (off := 153) dX3_readsPart_44 (by decide) (by decide) (by decide +kernel) (by decide) ?_
      have hp1 : TP tx nt (a + 1) (1, (100, (0, (0, 0)))) l := tp_next hp hin.1 (by rw [← hin.2, hc]; rfl) (by rw [← hin.2, hc]; decide)
      have hs1 := t_sg_le htx (a + 1)
      have ha1 := hp1.1
      refine e_aload0 dX3_readsPart_197 ?_
      refine e_getfieldF flX3_25 dX3_readsPart_198 rfl rfl ?_
      refine e_iload1 dX3_readsPart_201 ?_
      refine e_iconst (z := 1) dX3_readsPart_202 ?_
      first | refine e_iaddN dX3_readsPart_203 ?_ | refine e_iadd dX3_readsPart_203 ?_
      refine e_aload0 dX3_readsPart_204 ?_
      refine e_bipush (v := nI 49) dX3_readsPart_205 (by decide) ?_
      refine e_bipush (v := nI 57) dX3_readsPart_207 (by decide) ?_
      by_cases hd : 49 ≤ t_sg tx nt (a + 1) ∧ t_sg tx nt (a + 1) ≤ 57
      · have hin1 := t_sg_in (tx := tx) (nt := nt) (a := a + 1) (by omega)
        have hp2 : TP tx nt (a + 2) (8, (100, ((t_sg tx nt (a + 1) - 48), (0, 0)))) l := by
          have q := tp_next hp1 hin1.1 (t_step_1 (s := (1, (100, (0, (0, 0))))) rfl (by rw [← hin1.2]; exact hd)) (by rw [← hin1.2]; omega)
          rw [← hin1.2] at q
          exact q
        refine e_vIF (M' := mX3_reads) fX3_reads lkX3_169 (rd_ok h th sf asd sts snp txt (_) cnt hq hn htx (nI m) (a := a + 1) (lo := 49) (hi := 57) (by omega) (by decide) (by decide) (by decide) hd.1 hd.2) rfl rfl dX3_readsPart_209 rfl rfl (by decide) (Nat.le_of_ble_eq_true rfl) rfl ?_
        rintro _ _ ⟨rfl, rfl⟩
        refine e_iastoreN dX3_readsPart_212 rfl (by omega) (by decide) ?_
        refine e_goto 323 dX3_readsPart_213 (by decide) ?_
        exact T1 _ (a + 2) _ _ _ hp2 rfl (t_blk_8 rfl) ⟨by simp [upd], by simp [upd], fun q => absurd q (by dsimp only; decide), fun q => absurd q (by dsimp only; decide)⟩ (Nat.le_refl _) (fun j hj => by repeat rw [upd_ne (by omega)])
      · skip
        refine e_vIF (M' := mX3_reads) fX3_reads lkX3_169 (rd_no h th sf asd sts snp txt (_) cnt hq hn htx (nI m) (a := a + 1) (lo := 49) (hi := 57) (by omega) (by decide) (by decide) hd) rfl rfl dX3_readsPart_209 rfl rfl (by decide) (Nat.le_of_ble_eq_true rfl) rfl ?_
        rintro x1 _ rfl
        refine e_iastoreN dX3_readsPart_212 rfl (by omega) (by decide) ?_
        refine e_goto 323 dX3_readsPart_213 (by decide) ?_
        exact T0 _ (a + 1) _ _ _ hp1 (by
          by_cases q5 : a + 1 < nt
          · exact Or.inl ⟨q5, t_step_no1 (s := (1, (100, (0, (0, 0))))) rfl (by rw [← t_sg_tx (tx := tx) q5]; exact hd)⟩
          · exact Or.inr ⟨by omega, by unfold t_end; first | (decide; done) | (simp; done)⟩) (fun j hj => by repeat rw [upd_ne (by omega)])
    · rw [hc]
      refine e_tableIn 216 (off := 172) dX3_readsPart_44 (by decide) (by decide) (by decide +kernel) (by decide) ?_
      have hp1 : TP tx nt (a + 1) (1, (108, (0, (0, 0)))) l := tp_next hp hin.1 (by rw [← hin.2, hc]; rfl) (by rw [← hin.2, hc]; decide)
      have hs1 := t_sg_le htx (a + 1)
      have ha1 := hp1.1
      refine e_aload0 dX3_readsPart_216 ?_
      refine e_getfieldF flX3_25 dX3_readsPart_217 rfl rfl ?_
      refine e_iload1 dX3_readsPart_220 ?_
      refine e_iconst (z := 1) dX3_readsPart_221 ?_
      first | refine e_iaddN dX3_readsPart_222 ?_ | refine e_iadd dX3_readsPart_222 ?_
      refine e_aload0 dX3_readsPart_223 ?_
      refine e_bipush (v := nI 48) dX3_readsPart_224 (by decide) ?_
      refine e_bipush (v := nI 57) dX3_readsPart_226 (by decide) ?_
      by_cases hd : 48 ≤ t_sg tx nt (a + 1) ∧ t_sg tx nt (a + 1) ≤ 57
      · have hin1 := t_sg_in (tx := tx) (nt := nt) (a := a + 1) (by omega)
        have hp2 : TP tx nt (a + 2) (8, (108, ((t_sg tx nt (a + 1) - 48), (0, 0)))) l := by
          have q := tp_next hp1 hin1.1 (t_step_1 (s := (1, (108, (0, (0, 0))))) rfl (by rw [← hin1.2]; exact hd)) (by rw [← hin1.2]; omega)
          rw [← hin1.2] at q
          exact q
        refine e_vIF (M' := mX3_reads) fX3_reads lkX3_169 (rd_ok h th sf asd sts snp txt (_) cnt hq hn htx (nI m) (a := a + 1) (lo := 48) (hi := 57) (by omega) (by decide) (by decide) (by decide) hd.1 hd.2) rfl rfl dX3_readsPart_228 rfl rfl (by decide) (Nat.le_of_ble_eq_true rfl) rfl ?_
        rintro _ _ ⟨rfl, rfl⟩
        refine e_iastoreN dX3_readsPart_231 rfl (by omega) (by decide) ?_
        refine e_goto 323 dX3_readsPart_232 (by decide) ?_
        exact T1 _ (a + 2) _ _ _ hp2 rfl (t_blk_8 rfl) ⟨by simp [upd], by simp [upd], fun q => absurd q (by dsimp only; decide), fun q => absurd q (by dsimp only; decide)⟩ (Nat.le_refl _) (fun j hj => by repeat rw [upd_ne (by omega)])
      · skip
        refine e_vIF (M' := mX3_reads) fX3_reads lkX3_169 (rd_no h th sf asd sts snp txt (_) cnt hq hn htx (nI m) (a := a + 1) (lo := 48) (hi := 57) (by omega) (by decide) (by decide) hd) rfl rfl dX3_readsPart_228 rfl rfl (by decide) (Nat.le_of_ble_eq_true rfl) rfl ?_
        rintro x1 _ rfl
        refine e_iastoreN dX3_readsPart_231 rfl (by omega) (by decide) ?_
        refine e_goto 323 dX3_readsPart_232 (by decide) ?_
        exact T0 _ (a + 1) _ _ _ hp1 (by
          by_cases q5 : a + 1 < nt
          · exact Or.inl ⟨q5, t_step_no1 (s := (1, (108, (0, (0, 0))))) rfl (by rw [← t_sg_tx (tx := tx) q5]; exact hd)⟩
          · exact Or.inr ⟨by omega, by unfold t_end; first | (decide; done) | (simp; done)⟩) (fun j hj => by repeat rw [upd_ne (by omega)])
    · rw [hc]
      refine e_tableIn 235 (off := 191) dX3_readsPart_44 (by decide) (by decide) (by decide +kernel) (by decide) ?_
      have hp1 : TP tx nt (a + 1) (1, (99, (0, (0, 0)))) l := tp_next hp hin.1 (by rw [← hin.2, hc]; rfl) (by rw [← hin.2, hc]; decide)
      have hs1 := t_sg_le htx (a + 1)
      have ha1 := hp1.1
      refine e_aload0 dX3_readsPart_235 ?_
      refine e_getfieldF flX3_25 dX3_readsPart_236 rfl rfl ?_
      refine e_iload1 dX3_readsPart_239 ?_
      refine e_iconst (z := 1) dX3_readsPart_240 ?_
      first | refine e_iaddN dX3_readsPart_241 ?_ | refine e_iadd dX3_readsPart_241 ?_
      refine e_aload0 dX3_readsPart_242 ?_
      refine e_bipush (v := nI 48) dX3_readsPart_243 (by decide) ?_
      refine e_bipush (v := nI 52) dX3_readsPart_245 (by decide) ?_
      by_cases hd : 48 ≤ t_sg tx nt (a + 1) ∧ t_sg tx nt (a + 1) ≤ 52
      · have hin1 := t_sg_in (tx := tx) (nt := nt) (a := a + 1) (by omega)
        have hp2 : TP tx nt (a + 2) (8, (99, ((t_sg tx nt (a + 1) - 48), (0, 0)))) l := by
          have q := tp_next hp1 hin1.1 (t_step_1 (s := (1, (99, (0, (0, 0))))) rfl (by rw [← hin1.2]; exact hd)) (by rw [← hin1.2]; omega)
          rw [← hin1.2] at q
          exact q
        refine e_vIF (M' := mX3_reads) fX3_reads lkX3_169 (rd_ok h th sf asd sts snp txt (_) cnt hq hn htx (nI m) (a := a + 1) (lo := 48) (hi := 52) (by omega) (by decide) (by decide) (by decide) hd.1 hd.2) rfl rfl dX3_readsPart_247 rfl rfl (by decide) (Nat.le_of_ble_eq_true rfl) rfl ?_
        rintro _ _ ⟨rfl, rfl⟩
        refine e_iastoreN dX3_readsPart_250 rfl (by omega) (by decide) ?_
        refine e_goto 323 dX3_readsPart_251 (by decide) ?_
        exact T1 _ (a + 2) _ _ _ hp2 rfl (t_blk_8 rfl) ⟨by simp [upd], by simp [upd], fun q => absurd q (by dsimp only; decide), fun q => absurd q (by dsimp only; decide)⟩ (Nat.le_refl _) (fun j hj => by repeat rw [upd_ne (by omega)])
      · skip
        refine e_vIF (M' := mX3_reads) fX3_reads lkX3_169 (rd_no h th sf asd sts snp txt (_) cnt hq hn htx (nI m) (a := a + 1) (lo := 48) (hi := 52) (by omega) (by decide) (by decide) hd) rfl rfl dX3_readsPart_247 rfl rfl (by decide) (Nat.le_of_ble_eq_true rfl) rfl ?_
        rintro x1 _ rfl
        refine e_iastoreN dX3_readsPart_250 rfl (by omega) (by decide) ?_
        refine e_goto 323 dX3_readsPart_251 (by decide) ?_
        exact T0 _ (a + 1) _ _ _ hp1 (by
          by_cases q5 : a + 1 < nt
          · exact Or.inl ⟨q5, t_step_no1 (s := (1, (99, (0, (0, 0))))) rfl (by rw [← t_sg_tx (tx := tx) q5]; exact hd)⟩
          · exact Or.inr ⟨by omega, by unfold t_end; first | (decide; done) | (simp; done)⟩) (fun j hj => by repeat rw [upd_ne (by omega)])
    · rw [hc]
      refine e_tableIn 235 (off := 191) dX3_readsPart_44 (by decide) (by decide) (by decide +kernel) (by decide) ?_
      have hp1 : TP tx nt (a + 1) (1, (114, (0, (0, 0)))) l := tp_next hp hin.1 (by rw [← hin.2, hc]; rfl) (by rw [← hin.2, hc]; decide)
      have hs1 := t_sg_le htx (a + 1)
      have ha1 := hp1.1
      refine e_aload0 dX3_readsPart_235 ?_
      refine e_getfieldF flX3_25 dX3_readsPart_236 rfl rfl ?_
      refine e_iload1 dX3_readsPart_239 ?_
      refine e_iconst (z := 1) dX3_readsPart_240 ?_
      first | refine e_iaddN dX3_readsPart_241 ?_ | refine e_iadd dX3_readsPart_241 ?_
      refine e_aload0 dX3_readsPart_242 ?_
      refine e_bipush (v := nI 48) dX3_readsPart_243 (by decide) ?_
      refine e_bipush (v := nI 52) dX3_readsPart_245 (by decide) ?_
      by_cases hd : 48 ≤ t_sg tx nt (a + 1) ∧ t_sg tx nt (a + 1) ≤ 52
      · have hin1 := t_sg_in (tx := tx) (nt := nt) (a := a + 1) (by omega)
        have hp2 : TP tx nt (a + 2) (8, (114, ((t_sg tx nt (a + 1) - 48), (0, 0)))) l := by
          have q := tp_next hp1 hin1.1 (t_step_1 (s := (1, (114, (0, (0, 0))))) rfl (by rw [← hin1.2]; exact hd)) (by rw [← hin1.2]; omega)
          rw [← hin1.2] at q
          exact q
        refine e_vIF (M' := mX3_reads) fX3_reads lkX3_169 (rd_ok h th sf asd sts snp txt (_) cnt hq hn htx (nI m) (a := a + 1) (lo := 48) (hi := 52) (by omega) (by decide) (by decide) (by decide) hd.1 hd.2) rfl rfl dX3_readsPart_247 rfl rfl (by decide) (Nat.le_of_ble_eq_true rfl) rfl ?_
        rintro _ _ ⟨rfl, rfl⟩
        refine e_iastoreN dX3_readsPart_250 rfl (by omega) (by decide) ?_
        refine e_goto 323 dX3_readsPart_251 (by decide) ?_
        exact T1 _ (a + 2) _ _ _ hp2 rfl (t_blk_8 rfl) ⟨by simp [upd], by simp [upd], fun q => absurd q (by dsimp only; decide), fun q => absurd q (by dsimp only; decide)⟩ (Nat.le_refl _) (fun j hj => by repeat rw [upd_ne (by omega)])
      · skip
        refine e_vIF (M' := mX3_reads) fX3_reads lkX3_169 (rd_no h th sf asd sts snp txt (_) cnt hq hn htx (nI m) (a := a + 1) (lo := 48) (hi := 52) (by omega) (by decide) (by decide) hd) rfl rfl dX3_readsPart_247 rfl rfl (by decide) (Nat.le_of_ble_eq_true rfl) rfl ?_
        rintro x1 _ rfl
        refine e_iastoreN dX3_readsPart_250 rfl (by omega) (by decide) ?_
        refine e_goto 323 dX3_readsPart_251 (by decide) ?_
        exact T0 _ (a + 1) _ _ _ hp1 (by
          by_cases q5 : a + 1 < nt
          · exact Or.inl ⟨q5, t_step_no1 (s := (1, (114, (0, (0, 0))))) rfl (by rw [← t_sg_tx (tx := tx) q5]; exact hd)⟩
          · exact Or.inr ⟨by omega, by unfold t_end; first | (decide; done) | (simp; done)⟩) (fun j hj => by repeat rw [upd_ne (by omega)])
    · rw [hc]
      refine e_tableIn 254 (off := 210) dX3_readsPart_44 (by decide) (by decide) (by decide +kernel) (by decide) ?_
      have hp1 : TP tx nt (a + 1) (1, (103, (0, (0, 0)))) l := tp_next hp hin.1 (by rw [← hin.2, hc]; rfl) (by rw [← hin.2, hc]; decide)
      have hs1 := t_sg_le htx (a + 1)
      have ha1 := hp1.1
      refine e_aload0 dX3_readsPart_254 ?_
      refine e_getfieldF flX3_25 dX3_readsPart_255 rfl rfl ?_
      refine e_iload1 dX3_readsPart_258 ?_
      refine e_iconst (z := 1) dX3_readsPart_259 ?_
      first | refine e_iaddN dX3_readsPart_260 ?_ | refine e_iadd dX3_readsPart_260 ?_
      refine e_aload0 dX3_readsPart_261 ?_
      refine e_bipush (v := nI 48) dX3_readsPart_262 (by decide) ?_
      refine e_bipush (v := nI 55) dX3_readsPart_264 (by decide) ?_
      by_cases hd : 48 ≤ t_sg tx nt (a + 1) ∧ t_sg tx nt (a + 1) ≤ 55
      · have hin1 := t_sg_in (tx := tx) (nt := nt) (a := a + 1) (by omega)
        have hp2 : TP tx nt (a + 2) (8, (103, ((t_sg tx nt (a + 1) - 48), (0, 0)))) l := by
          have q := tp_next hp1 hin1.1 (t_step_1 (s := (1, (103, (0, (0, 0))))) rfl (by rw [← hin1.2]; exact hd)) (by rw [← hin1.2]; omega)
          rw [← hin1.2] at q
          exact q
        refine e_vIF (M' := mX3_reads) fX3_reads lkX3_169 (rd_ok h th sf asd sts snp txt (_) cnt hq hn htx (nI m) (a := a + 1) (lo := 48) (hi := 55) (by omega) (by decide) (by decide) (by decide) hd.1 hd.2) rfl rfl dX3_readsPart_266 rfl rfl (by decide) (Nat.le_of_ble_eq_true rfl) rfl ?_
        rintro _ _ ⟨rfl, rfl⟩
        refine e_iastoreN dX3_readsPart_269 rfl (by omega) (by decide) ?_
        refine e_goto 323 dX3_readsPart_270 (by decide) ?_
        exact T1 _ (a + 2) _ _ _ hp2 rfl (t_blk_8 rfl) ⟨by simp [upd], by simp [upd], fun q => absurd q (by dsimp only; decide), fun q => absurd q (by dsimp only; decide)⟩ (Nat.le_refl _) (fun j hj => by repeat rw [upd_ne (by omega)])
      · skip
        refine e_vIF (M' := mX3_reads) fX3_reads lkX3_169 (rd_no h th sf asd sts snp txt (_) cnt hq hn htx (nI m) (a := a + 1) (lo := 48) (hi := 55) (by omega) (by decide) (by decide) hd) rfl rfl dX3_readsPart_266 rfl rfl (by decide) (Nat.le_of_ble_eq_true rfl) rfl ?_
        rintro x1 _ rfl
        refine e_iastoreN dX3_readsPart_269 rfl (by omega) (by decide) ?_
        refine e_goto 323 dX3_readsPart_270 (by decide) ?_
        exact T0 _ (a + 1) _ _ _ hp1 (by
          by_cases q5 : a + 1 < nt
          · exact Or.inl ⟨q5, t_step_no1 (s := (1, (103, (0, (0, 0))))) rfl (by rw [← t_sg_tx (tx := tx) q5]; exact hd)⟩
          · exact Or.inr ⟨by omega, by unfold t_end; first | (decide; done) | (simp; done)⟩) (fun j hj => by repeat rw [upd_ne (by omega)])
    · rw [hc]
      refine e_tableIn 273 (off := 229) dX3_readsPart_44 (by decide) (by decide) (by decide +kernel) (by decide) ?_
      have hp1 : TP tx nt (a + 1) (1, (113, (0, (0, 0)))) l := tp_next hp hin.1 (by rw [← hin.2, hc]; rfl) (by rw [← hin.2, hc]; decide)
      have hs1 := t_sg_le htx (a + 1)
      have ha1 := hp1.1
      refine e_aload0 dX3_readsPart_273 ?_
      refine e_getfieldF flX3_25 dX3_readsPart_274 rfl rfl ?_
      refine e_iload1 dX3_readsPart_277 ?_
      refine e_iconst (z := 1) dX3_readsPart_278 ?_
      first | refine e_iaddN dX3_readsPart_279 ?_ | refine e_iadd dX3_readsPart_279 ?_
      refine e_aload0 dX3_readsPart_280 ?_
      refine e_bipush (v := nI 48) dX3_readsPart_281 (by decide) ?_
      refine e_bipush (v := nI 51) dX3_readsPart_283 (by decide) ?_
      by_cases hd : 48 ≤ t_sg tx nt (a + 1) ∧ t_sg tx nt (a + 1) ≤ 51
      · have hin1 := t_sg_in (tx := tx) (nt := nt) (a := a + 1) (by omega)
        have hp2 : TP tx nt (a + 2) (7, (113, ((t_sg tx nt (a + 1) - 48), (0, 0)))) l := by
          have q := tp_next hp1 hin1.1 (t_step_1 (s := (1, (113, (0, (0, 0))))) rfl (by rw [← hin1.2]; exact hd)) (by rw [← hin1.2]; omega)
          rw [← hin1.2] at q
          exact q
        refine e_vIF (M' := mX3_reads) fX3_reads lkX3_169 (rd_ok h th sf asd sts snp txt (_) cnt hq hn htx (nI m) (a := a + 1) (lo := 48) (hi := 51) (by omega) (by decide) (by decide) (by decide) hd.1 hd.2) rfl rfl dX3_readsPart_285 rfl rfl (by decide) (Nat.le_of_ble_eq_true rfl) rfl ?_
        rintro _ _ ⟨rfl, rfl⟩
        refine e_iastoreN dX3_readsPart_288 rfl (by omega) (by decide) ?_
        refine e_aload0 dX3_readsPart_289 ?_
        refine e_getfieldF flX3_25 dX3_readsPart_290 rfl rfl ?_
        refine e_iload1 dX3_readsPart_293 ?_
        refine e_iconst (z := 2) dX3_readsPart_294 ?_
        first | refine e_iaddN dX3_readsPart_295 ?_ | refine e_iadd dX3_readsPart_295 ?_
        refine e_aload0 dX3_readsPart_296 ?_
        refine e_bipush (v := nI 48) dX3_readsPart_297 (by decide) ?_
        refine e_bipush (v := nI 55) dX3_readsPart_299 (by decide) ?_
        have hs2 := t_sg_le htx (a + 2)
        by_cases he : 48 ≤ t_sg tx nt (a + 2) ∧ t_sg tx nt (a + 2) ≤ 55
        · have hin2 := t_sg_in (tx := tx) (nt := nt) (a := a + 2) (by omega)
          have hp3 : TP tx nt (a + 3) (8, (113, ((t_sg tx nt (a + 1) - 48), (0, (t_sg tx nt (a + 2) - 48))))) l := by
            have q := tp_next hp2 hin2.1 (t_step_7 (s := (7, (113, ((t_sg tx nt (a + 1) - 48), (0, 0))))) rfl (by rw [← hin2.2]; exact he)) (by rw [← hin2.2]; omega)
            rw [← hin2.2] at q
            exact q
          refine e_vIF (M' := mX3_reads) fX3_reads lkX3_169 (rd_ok h th sf asd sts snp txt (_) cnt hq hn htx (nI m) (a := a + 2) (lo := 48) (hi := 55) (by omega) (by decide) (by decide) (by decide) he.1 he.2) rfl rfl dX3_readsPart_301 rfl rfl (by decide) (Nat.le_of_ble_eq_true rfl) rfl ?_
          rintro _ _ ⟨rfl, rfl⟩
          refine e_iastoreN dX3_readsPart_304 rfl (by omega) (by decide) ?_
          refine e_goto 323 dX3_readsPart_305 (by decide) ?_
          exact T1 _ (a + 3) _ _ _ hp3 rfl (t_blk_8 rfl) ⟨by simp [upd], by simp [upd], fun q => absurd q (by dsimp only; decide), fun _ => by simp [upd]⟩ (Nat.le_succ _) (fun j hj => by repeat rw [upd_ne (by omega)])
        · skip
          refine e_vIF (M' := mX3_reads) fX3_reads lkX3_169 (rd_no h th sf asd sts snp txt (_) cnt hq hn htx (nI m) (a := a + 2) (lo := 48) (hi := 55) (by omega) (by decide) (by decide) he) rfl rfl dX3_readsPart_301 rfl rfl (by decide) (Nat.le_of_ble_eq_true rfl) rfl ?_
          rintro x1 _ rfl
          refine e_iastoreN dX3_readsPart_304 rfl (by omega) (by decide) ?_
          refine e_goto 323 dX3_readsPart_305 (by decide) ?_
          exact T0 _ (a + 2) _ _ _ hp2 (by
            by_cases q5 : a + 2 < nt
            · exact Or.inl ⟨q5, t_step_no7 (s := (7, (113, ((t_sg tx nt (a + 1) - 48), (0, 0))))) rfl (by rw [← t_sg_tx (tx := tx) q5]; exact he)⟩
            · exact Or.inr ⟨by omega, by unfold t_end; first | (decide; done) | (simp; done)⟩) (fun j hj => by repeat rw [upd_ne (by omega)])
      · skip
        refine e_vIF (M' := mX3_reads) fX3_reads lkX3_169 (rd_no h th sf asd sts snp txt (_) cnt hq hn htx (nI m) (a := a + 1) (lo := 48) (hi := 51) (by omega) (by decide) (by decide) hd) rfl rfl dX3_readsPart_285 rfl rfl (by decide) (Nat.le_of_ble_eq_true rfl) rfl ?_
        rintro x1 _ rfl
        refine e_iastoreN dX3_readsPart_288 rfl (by omega) (by decide) ?_
        refine e_aload0 dX3_readsPart_289 ?_
        refine e_getfieldF flX3_25 dX3_readsPart_290 rfl rfl ?_
        refine e_iload1 dX3_readsPart_293 ?_
        refine e_iconst (z := 2) dX3_readsPart_294 ?_
        first | refine e_iaddN dX3_readsPart_295 ?_ | refine e_iadd dX3_readsPart_295 ?_
        refine e_aload0 dX3_readsPart_296 ?_
        refine e_bipush (v := nI 48) dX3_readsPart_297 (by decide) ?_
        refine e_bipush (v := nI 55) dX3_readsPart_299 (by decide) ?_
        refine e_vIF (M' := mX3_reads) fX3_reads lkX3_169 (rd_dead h th sf asd sts snp txt (_) cnt hq hn htx (nI m) (a := a + 1) (by omega)) rfl rfl dX3_readsPart_301 rfl rfl (by decide) (Nat.le_of_ble_eq_true rfl) rfl ?_
        rintro x1 _ rfl
        refine e_iastoreN dX3_readsPart_304 rfl (by omega) (by decide) ?_
        refine e_goto 323 dX3_readsPart_305 (by decide) ?_
        exact T0 _ (a + 1) _ _ _ hp1 (by
          by_cases q5 : a + 1 < nt
          · exact Or.inl ⟨q5, t_step_no1 (s := (1, (113, (0, (0, 0))))) rfl (by rw [← t_sg_tx (tx := tx) q5]; exact hd)⟩
          · exact Or.inr ⟨by omega, by unfold t_end; first | (decide; done) | (simp; done)⟩) (fun j hj => by repeat rw [upd_ne (by omega)])
  · rw [Bool.not_eq_true] at hl
    have hbad : t_bad tx nt a t_0 := by
      by_cases q5 : a < nt
      · exact Or.inl ⟨q5, t_step_no0 (by rw [← t_sg_tx (tx := tx) q5]; exact hl)⟩
      · exact Or.inr ⟨by omega, rfl⟩
    have hz : ¬ (t_sg tx nt a = 98 ∨ t_sg tx nt a = 100 ∨ t_sg tx nt a = 108 ∨ t_sg tx nt a = 99 ∨ t_sg tx nt a = 114 ∨ t_sg tx nt a = 103 ∨ t_sg tx nt a = 113) := of_decide_eq_false hl
    by_cases hr : t_sg tx nt a < 98 ∨ 114 < t_sg tx nt a
    · refine e_tableOut 308 dX3_readsPart_44 (by rw [nI_toInt (by omega)]; omega) (by decide) ?_
      exact TD _ _ _ hbad (fun j hj => by repeat rw [upd_ne (by omega)])
    · rcases (show t_sg tx nt a = 101 ∨ t_sg tx nt a = 102 ∨ t_sg tx nt a = 104 ∨ t_sg tx nt a = 105 ∨ t_sg tx nt a = 106 ∨ t_sg tx nt a = 107 ∨ t_sg tx nt a = 109 ∨ t_sg tx nt a = 110 ∨ t_sg tx nt a = 111 ∨ t_sg tx nt a = 112 by omega) with hc | hc | hc | hc | hc | hc | hc | hc | hc | hc
      · rw [hc]
        refine e_tableIn 308 (off := 264) dX3_readsPart_44 (by decide) (by decide) (by decide +kernel) (by decide) ?_
        exact TD _ _ _ hbad (fun j hj => by repeat rw [upd_ne (by omega)])
      · rw [hc]
        refine e_tableIn 308 (off := 264) dX3_readsPart_44 (by decide) (by decide) (by decide +kernel) (by decide) ?_
        exact TD _ _ _ hbad (fun j hj => by repeat rw [upd_ne (by omega)])
      · rw [hc]
        refine e_tableIn 308 (off := 264) dX3_readsPart_44 (by decide) (by decide) (by decide +kernel) (by decide) ?_
        exact TD _ _ _ hbad (fun j hj => by repeat rw [upd_ne (by omega)])
      · rw [hc]
        refine e_tableIn 308 (off := 264) dX3_readsPart_44 (by decide) (by decide) (by decide +kernel) (by decide) ?_
        exact TD _ _ _ hbad (fun j hj => by repeat rw [upd_ne (by omega)])
      · rw [hc]
        refine e_tableIn 308 (off := 264) dX3_readsPart_44 (by decide) (by decide) (by decide +kernel) (by decide) ?_
        exact TD _ _ _ hbad (fun j hj => by repeat rw [upd_ne (by omega)])
      · rw [hc]
        refine e_tableIn 308 (off := 264) dX3_readsPart_44 (by decide) (by decide) (by decide +kernel) (by decide) ?_
        exact TD _ _ _ hbad (fun j hj => by repeat rw [upd_ne (by omega)])
      · rw [hc]
        refine e_tableIn 308 (off := 264) dX3_readsPart_44 (by decide) (by decide) (by decide +kernel) (by decide) ?_
        exact TD _ _ _ hbad (fun j hj => by repeat rw [upd_ne (by omega)])
      · rw [hc]
        refine e_tableIn 308 (off := 264) dX3_readsPart_44 (by decide) (by decide) (by decide +kernel) (by decide) ?_
        exact TD _ _ _ hbad (fun j hj => by repeat rw [upd_ne (by omega)])
      · rw [hc]
        refine e_tableIn 308 (off := 264) dX3_readsPart_44 (by decide) (by decide) (by decide +kernel) (by decide) ?_
        exact TD _ _ _ hbad (fun j hj => by repeat rw [upd_ne (by omega)])
      · rw [hc]
        refine e_tableIn 308 (off := 264) dX3_readsPart_44 (by decide) (by decide) (by decide +kernel) (by decide) ?_
        exact TD _ _ _ hbad (fun j hj => by repeat rw [upd_ne (by omega)])
