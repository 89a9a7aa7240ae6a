theorem e_getfield2 {M : qM} {d pc : Nat} {L : List (Option qV)} {st : List qV} {n : Nat} {h : qB} {kc ks : Nat} {P : qP} {X : qX} {idx ci j : Nat} {ty : FieldType} {fin : Bool} {b b2 o : Fin 16} {fs : List qV} {v : qV} {F F2 : List qE} (hne : b2 ≠ b)
    (hf : q_FL M.1.cls idx ci j ty fin) (dg : decode M.2.1 pc = .ok (.getfield idx, 3)) (hF : F2[o.val]? = some (eO ci fs)) (hv : fs[j]? = some v)
    (k : Ev M d (pc + 3) L (v :: st) n (q_put (q_put h b2 F2) b F) kc ks P X) : Ev M d pc L (qR b2 o :: st) n (q_put (q_put h b2 F2) b F) kc ks P X := e_getfield hf dg (by rw [q_put_ne _ _ hne, q_put_at]; exact hF) hv k
theorem e_copy2 {M : qM} {d pc : Nat} {L : List (Option qV)} {st : List qV} {n : Nat} {h : qB} {kc ks : Nat} {P : qP} {X : qX} {idx : Nat} {b b2 o o1 : Fin 16} {N N0 N1 : Nat} {f g : Nat → Int32} {F F2 : List qE} (hne : b2 ≠ b)
    (hm : Cond.methodLink M.1.cls idx arraycopyName ∈ lwA) (hd : 1 ≤ d) (hst : (st.map fun v => if q_wide v then 2 else 1).sum ≤ 8)
    (dg : decode M.2.1 pc = .ok (.invokestatic idx, 3)) (hF : F2[o.val]? = some (eI N0 f)) (hF1 : F[o1.val]? = some (eI N1 g)) (h0 : N ≤ N0) (h1 : N ≤ N1) (hN : N < 2147483648)
    (k : Ev M d (pc + 3) L st n (q_put (q_put h b2 F2) b (F.set o1.val (eI N1 (q_cpy f g N)))) kc ks P X) :
    Ev M d pc L (qI (nI N) :: qI (nI 0) :: qR b o1 :: qI (nI 0) :: qR b2 o :: st) n (q_put (q_put h b2 F2) b F) kc ks P X :=
  e_arraycopy hm w_acn w_acs w_acy hd hst (by decide +kernel) dg (by rw [q_put_ne _ _ hne, q_put_at]; exact hF) (by rw [q_put_at]; exact hF1) h0 h1 hN (by rw [q_up_put]; exact k)
def m_szs (j : Nat) : Nat := [1, 8, 8, 32, 8, 8, 8, 1, 1, 4, 32, 120, 5, 60, 1, 1, 1, 1].getD j 0
def m_cp (w2 w : qw) : qw := fun j => q_cpy (w2 j) (w j) (m_szs j)
theorem m_cp_at {w2 w : qw} {j k : Nat} (h : k < m_szs j) : m_cp w2 w j k = w2 j k := if_pos h
theorem relC_cp {w2 w : qw} {X : qm} (hR : RelC w2 X) (hJ : J X) : RelC (m_cp w2 w) X := by
  exact ⟨by rw [m_cp_at (by decide)]; exact rC0 hR, fun t ht => by rw [m_cp_at (j := 1) ht]; exact rC1 hR t ht, fun t ht => by rw [m_cp_at (j := 2) ht]; exact rC2 hR t ht, fun s t hs ht => by rw [m_cp_at (j := 3) (show s * 8 + t < 32 by omega)]; exact rC3 hR s t hs ht, fun t ht => by rw [m_cp_at (j := 4) ht]; exact rC4 hR t ht, fun t ht => by rw [m_cp_at (j := 5) ht]; exact rC5 hR t ht, fun t ht => by rw [m_cp_at (j := 6) ht]; exact rC6 hR t ht, by rw [m_cp_at (by decide)]; exact rC7 hR, by rw [m_cp_at (by decide)]; exact rC8 hR, fun t ht => by rw [m_cp_at (j := 9) ht]; exact rC9 hR t ht, fun s t hs ht => by rw [m_cp_at (j := 10) (show s * 8 + t < 32 by omega)]; exact rC10 hR s t hs ht, fun s k hs hk => by have := j_L hJ s hs; rw [m_cp_at (j := 11) (show s * 24 + k < 120 by omega)]; exact rC11 hR s k hs hk, fun t ht => by rw [m_cp_at (j := 12) ht]; exact rC12 hR t ht, fun k hk => by have := iV2 hJ.1; rw [m_cp_at (j := 13) (show k < 60 by omega)]; exact rC13 hR k hk, by rw [m_cp_at (by decide)]; exact rC14 hR, by rw [m_cp_at (by decide)]; exact rC15 hR, by rw [m_cp_at (by decide)]; exact rC16 hR, by rw [m_cp_at (by decide)]; exact rC17 hR⟩
set_option maxRecDepth 20000 in
set_option maxHeartbeats 4000000 in
theorem w_copyFrom (h : qB) (b b2 : Fin 16) (hne : b2 ≠ b) (w w2 : qw) (X : qm) (hR : RelC w2 X) (hJ : J X) : CtV mX1_copyFrom 1 [qR b 0, qR b2 0] (q_put (q_put h b2 (wblk b2 w2)) b (wblk b w)) (fun h3 => ∃ w', RelC w' X ∧ h3 = q_put (q_put h b2 (wblk b2 w2)) b (wblk b w')) := by
  refine ct_of (by decide +kernel) rfl rfl (Nat.le_of_ble_eq_true rfl) ?_
  show Ev mX1_copyFrom 1 0 [some (qR b 0), some (qR b2 0)] [] 124 (q_put (q_put h b2 (wblk b2 w2)) b (wblk b w)) 0 0 _ _
  refine e_aload0 dX1_copyFrom_0 ?_
  refine e_aload1 dX1_copyFrom_1 ?_
  refine e_getfield2 hne flX1_49 dX1_copyFrom_2 rfl rfl ?_
  refine e_putfieldF flX1_49 dX1_copyFrom_5 rfl (Nat.le_of_ble_eq_true rfl) (fun _ => rfl) (fun _ => rfl) ?_
  refine e_aload1 dX1_copyFrom_8 ?_
  refine e_getfield2 hne flX1_9 dX1_copyFrom_9 rfl rfl ?_
  refine e_iconst (z := 0) dX1_copyFrom_12 ?_
  refine e_aload0 dX1_copyFrom_13 ?_
  refine e_getfieldF flX1_9 dX1_copyFrom_14 rfl rfl ?_
  refine e_iconst (z := 0) dX1_copyFrom_17 ?_
  refine e_bipush (v := nI 8) dX1_copyFrom_18 (by decide) ?_
  refine e_copy2 hne lkX1_52 (by decide) (by decide) dX1_copyFrom_20 rfl rfl (by decide) (by decide) (by decide) ?_
  refine e_aload1 dX1_copyFrom_23 ?_
  refine e_getfield2 hne flX1_15 dX1_copyFrom_24 rfl rfl ?_
  refine e_iconst (z := 0) dX1_copyFrom_27 ?_
  refine e_aload0 dX1_copyFrom_28 ?_
  refine e_getfieldF flX1_15 dX1_copyFrom_29 rfl rfl ?_
  refine e_iconst (z := 0) dX1_copyFrom_32 ?_
  refine e_bipush (v := nI 8) dX1_copyFrom_33 (by decide) ?_
  refine e_copy2 hne lkX1_52 (by decide) (by decide) dX1_copyFrom_35 rfl rfl (by decide) (by decide) (by decide) ?_
  refine e_aload1 dX1_copyFrom_38 ?_
  refine e_getfield2 hne flX1_18 dX1_copyFrom_39 rfl rfl ?_
  refine e_iconst (z := 0) dX1_copyFrom_42 ?_
  refine e_aload0 dX1_copyFrom_43 ?_
  refine e_getfieldF flX1_18 dX1_copyFrom_44 rfl rfl ?_
  refine e_iconst (z := 0) dX1_copyFrom_47 ?_
  refine e_bipush (v := nI 32) dX1_copyFrom_48 (by decide) ?_
  refine e_copy2 hne lkX1_52 (by decide) (by decide) dX1_copyFrom_50 rfl rfl (by decide) (by decide) (by decide) ?_
  refine e_aload1 dX1_copyFrom_53 ?_
  refine e_getfield2 hne flX1_21 dX1_copyFrom_54 rfl rfl ?_
  refine e_iconst (z := 0) dX1_copyFrom_57 ?_
  refine e_aload0 dX1_copyFrom_58 ?_
  refine e_getfieldF flX1_21 dX1_copyFrom_59 rfl rfl ?_
  refine e_iconst (z := 0) dX1_copyFrom_62 ?_
  refine e_bipush (v := nI 8) dX1_copyFrom_63 (by decide) ?_
  refine e_copy2 hne lkX1_52 (by decide) (by decide) dX1_copyFrom_65 rfl rfl (by decide) (by decide) (by decide) ?_
  refine e_aload1 dX1_copyFrom_68 ?_
  refine e_getfield2 hne flX1_24 dX1_copyFrom_69 rfl rfl ?_
  refine e_iconst (z := 0) dX1_copyFrom_72 ?_
  refine e_aload0 dX1_copyFrom_73 ?_
  refine e_getfieldF flX1_24 dX1_copyFrom_74 rfl rfl ?_
  refine e_iconst (z := 0) dX1_copyFrom_77 ?_
  refine e_bipush (v := nI 8) dX1_copyFrom_78 (by decide) ?_
  refine e_copy2 hne lkX1_52 (by decide) (by decide) dX1_copyFrom_80 rfl rfl (by decide) (by decide) (by decide) ?_
  refine e_aload1 dX1_copyFrom_83 ?_
  refine e_getfield2 hne flX1_27 dX1_copyFrom_84 rfl rfl ?_
  refine e_iconst (z := 0) dX1_copyFrom_87 ?_
  refine e_aload0 dX1_copyFrom_88 ?_
  refine e_getfieldF flX1_27 dX1_copyFrom_89 rfl rfl ?_
  refine e_iconst (z := 0) dX1_copyFrom_92 ?_
  refine e_bipush (v := nI 8) dX1_copyFrom_93 (by decide) ?_
  refine e_copy2 hne lkX1_52 (by decide) (by decide) dX1_copyFrom_95 rfl rfl (by decide) (by decide) (by decide) ?_
  refine e_aload0 dX1_copyFrom_98 ?_
  refine e_aload1 dX1_copyFrom_99 ?_
  refine e_getfield2 hne flX1_58 dX1_copyFrom_100 rfl rfl ?_
  refine e_putfieldF flX1_58 dX1_copyFrom_103 rfl (Nat.le_of_ble_eq_true rfl) (fun _ => rfl) (fun _ => rfl) ?_
  refine e_aload0 dX1_copyFrom_106 ?_
  refine e_aload1 dX1_copyFrom_107 ?_
  refine e_getfield2 hne flX1_45 dX1_copyFrom_108 rfl rfl ?_
  refine e_putfieldF flX1_45 dX1_copyFrom_111 rfl (Nat.le_of_ble_eq_true rfl) (fun _ => rfl) (fun _ => rfl) ?_
  refine e_aload1 dX1_copyFrom_114 ?_
  refine e_getfield2 hne flX1_30 dX1_copyFrom_115 rfl rfl ?_
  refine e_iconst (z := 0) dX1_copyFrom_118 ?_
  refine e_aload0 dX1_copyFrom_119 ?_
  refine e_getfieldF flX1_30 dX1_copyFrom_120 rfl rfl ?_
  refine e_iconst (z := 0) dX1_copyFrom_123 ?_
  refine e_iconst (z := 4) dX1_copyFrom_124 ?_
  refine e_copy2 hne lkX1_52 (by decide) (by decide) dX1_copyFrom_125 rfl rfl (by decide) (by decide) (by decide) ?_
  refine e_aload1 dX1_copyFrom_128 ?_
  refine e_getfield2 hne flX1_33 dX1_copyFrom_129 rfl rfl ?_
  refine e_iconst (z := 0) dX1_copyFrom_132 ?_
  refine e_aload0 dX1_copyFrom_133 ?_
  refine e_getfieldF flX1_33 dX1_copyFrom_134 rfl rfl ?_
  refine e_iconst (z := 0) dX1_copyFrom_137 ?_
  refine e_bipush (v := nI 32) dX1_copyFrom_138 (by decide) ?_
  refine e_copy2 hne lkX1_52 (by decide) (by decide) dX1_copyFrom_140 rfl rfl (by decide) (by decide) (by decide) ?_
  refine e_aload1 dX1_copyFrom_143 ?_
  refine e_getfield2 hne flX1_36 dX1_copyFrom_144 rfl rfl ?_
  refine e_iconst (z := 0) dX1_copyFrom_147 ?_
  refine e_aload0 dX1_copyFrom_148 ?_
  refine e_getfieldF flX1_36 dX1_copyFrom_149 rfl rfl ?_
  refine e_iconst (z := 0) dX1_copyFrom_152 ?_
  refine e_bipush (v := nI 120) dX1_copyFrom_153 (by decide) ?_
  refine e_copy2 hne lkX1_52 (by decide) (by decide) dX1_copyFrom_155 rfl rfl (by decide) (by decide) (by decide) ?_
  refine e_aload1 dX1_copyFrom_158 ?_
  refine e_getfield2 hne flX1_39 dX1_copyFrom_159 rfl rfl ?_
  refine e_iconst (z := 0) dX1_copyFrom_162 ?_
  refine e_aload0 dX1_copyFrom_163 ?_
  refine e_getfieldF flX1_39 dX1_copyFrom_164 rfl rfl ?_
  refine e_iconst (z := 0) dX1_copyFrom_167 ?_
  refine e_iconst (z := 5) dX1_copyFrom_168 ?_
  refine e_copy2 hne lkX1_52 (by decide) (by decide) dX1_copyFrom_169 rfl rfl (by decide) (by decide) (by decide) ?_
  refine e_aload1 dX1_copyFrom_172 ?_
  refine e_getfield2 hne flX1_42 dX1_copyFrom_173 rfl rfl ?_
  refine e_iconst (z := 0) dX1_copyFrom_176 ?_
  refine e_aload0 dX1_copyFrom_177 ?_
  refine e_getfieldF flX1_42 dX1_copyFrom_178 rfl rfl ?_
  refine e_iconst (z := 0) dX1_copyFrom_181 ?_
  refine e_bipush (v := nI 60) dX1_copyFrom_182 (by decide) ?_
  refine e_copy2 hne lkX1_52 (by decide) (by decide) dX1_copyFrom_184 rfl rfl (by decide) (by decide) (by decide) ?_
  refine e_aload0 dX1_copyFrom_187 ?_
  refine e_aload1 dX1_copyFrom_188 ?_
  refine e_getfield2 hne flX1_61 dX1_copyFrom_189 rfl rfl ?_
  refine e_putfieldF flX1_61 dX1_copyFrom_192 rfl (Nat.le_of_ble_eq_true rfl) (fun _ => rfl) (fun _ => rfl) ?_
  refine e_aload0 dX1_copyFrom_195 ?_
  refine e_aload1 dX1_copyFrom_196 ?_
  refine e_getfield2 hne flX1_64 dX1_copyFrom_197 rfl rfl ?_
  refine e_putfieldF flX1_64 dX1_copyFrom_200 rfl (Nat.le_of_ble_eq_true rfl) (fun _ => rfl) (fun _ => rfl) ?_
  refine e_aload0 dX1_copyFrom_203 ?_
  refine e_aload1 dX1_copyFrom_204 ?_
  refine e_getfield2 hne flX1_67 dX1_copyFrom_205 rfl rfl ?_
  refine e_putfieldF flX1_67 dX1_copyFrom_208 rfl (Nat.le_of_ble_eq_true rfl) (fun _ => rfl) (fun _ => rfl) ?_
  refine e_aload0 dX1_copyFrom_211 ?_
  refine e_aload1 dX1_copyFrom_212 ?_
  refine e_getfield2 hne flX1_70 dX1_copyFrom_213 rfl rfl ?_
  refine e_putfieldF flX1_70 dX1_copyFrom_216 rfl (Nat.le_of_ble_eq_true rfl) (fun _ => rfl) (fun _ => rfl) ?_
  refine e_vret dX1_copyFrom_219 rfl ?_
  exact ⟨rfl, rfl, m_cp w2 w, relC_cp hR hJ, rfl⟩
