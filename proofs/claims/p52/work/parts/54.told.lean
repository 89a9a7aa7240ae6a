/-! ROWS THAT THE LAW NEEDS -/
theorem e_ldcL {M : qM} {d pc idx : Nat} {L : List (Option qV)} {st : List qV} {n : Nat} {h : qB} {kc ks : Nat} {P : qP} {X : qX} {v : Int64} (hc : Cond.constantLong M.1.cls idx v ∈ lwA) (dg : decode M.2.1 pc = .ok (.ldc2_w idx, 3)) (k : Ev M d (pc + 3) L (qL v :: st) n h kc ks P X) : Ev M d pc L st n h kc ks P X := by
  intro G p l e R s m args below meth c H locs ls C hl hP hz hS cells slots hu hcc hs
  exact lv_ldc2 C.1 C.2.1 C.2.2.2.1 (C.2.2.2.2.1 _ hc) dg (k G p l e R s m args below meth c H locs ls C hl hP hz hS cells slots hu hcc hs)
theorem e_ldcF {M : qM} {d pc idx : Nat} {L : List (Option qV)} {st : List qV} {n : Nat} {h : qB} {kc ks : Nat} {P : qP} {X : qX} {v : UInt32} (hc : Cond.constantFloat M.1.cls idx v ∈ lwA) (dg : decode M.2.1 pc = .ok (.ldc idx, 2)) (k : Ev M d (pc + 2) L (qF v :: st) n h kc ks P X) : Ev M d pc L st n h kc ks P X := by
  intro G p l e R s m args below meth c H locs ls C hl hP hz hS cells slots hu hcc hs
  exact lv_ldcf C.1 C.2.1 C.2.2.2.1 (C.2.2.2.2.1 _ hc) dg (k G p l e R s m args below meth c H locs ls C hl hP hz hS cells slots hu hcc hs)
theorem ev_room {M : qM} {d pc : Nat} {L : List (Option qV)} {st : List qV} {n : Nat} {h : qB} {kc ks kc2 ks2 : Nat} {P : qP} {X : qX} (k : Ev M d pc L st n h kc ks P X) (h1 : kc ≤ kc2) (h2 : ks ≤ ks2) : Ev M d pc L st n h kc2 ks2 P X :=
  fun G p l e R s m args below meth c H locs ls C hl hP hz hS cells slots hu hc hs => k G p l e R s m args below meth c H locs ls C hl hP hz hS cells slots hu (by omega) (by omega)
theorem e_lcmp {M : qM} {d pc : Nat} {L : List (Option qV)} {st : List qV} {n : Nat} {h : qB} {kc ks : Nat} {P : qP} {X : qX} {x y : Int64} (dg : decode M.2.1 pc = .ok (.lcmp, 1)) (k : Ev M d (pc + 1) L (qI (lg_cmp x y) :: st) n h kc ks P X) : Ev M d pc L (qL y :: qL x :: st) n h kc ks P X :=
  fun G p l e R s m args below meth c H locs ls C hl hP hz hS cells slots hu hc hs => W.lcmp C.1 C.2.1 dg (k G p l e R s m args below meth c H locs ls C hl hP hz hS cells slots hu hc hs)
theorem lg_cmp_self (x : Int64) : lg_cmp x x = 0 := by
  unfold lg_cmp
  rw [if_neg (by simp [Int64.lt_iff_toInt_lt]), if_pos rfl]
/-- a method that reads the script -/
def CtY (sx : Nat × (Nat → Int32)) (M : qM) (d : Nat) (as : List qV) (h : qB) (Q : Int32 → qB → Prop) : Prop :=
  ∀ (G : qG) (l : Launch), G.2.2.2.2 = sx → l.stackTraces = false → vx_Met l M.1 (q_wd M) (q_rm d 0 0) (q_Pc G as 124 h) (q_Qc G (fun r n h' => ∃ x, r = some (qI x) ∧ n = 124 ∧ Q x h')) (q_Xc G qNo) 0 0 (q_A G)
theorem ctY_of {sx : Nat × (Nat → Int32)} {M : qM} {d : Nat} {as : List qV} {h : qB} {Q : Int32 → qB → Prop} (hp : plainName M.1.cls = true) (hh : M.2.2.2.2.1 = []) (hsx : M.2.2.2.2.2 = some sx) (hl : (q_en as).length ≤ M.2.2.1)
    (k : Ev M d 0 (q_ent M.2.2.1 as) [] 124 h 0 0 (fun r n h' => ∃ x, r = some (qI x) ∧ n = 124 ∧ Q x h') qNo) : CtY sx M d as h Q := by
  intro G l hG hst
  refine vx_ofW (cc := M.2.1) (maxL := M.2.2.1) (ret := M.2.2.2.1) hp (q_wd_code hh) ?_
  intro p e s m args below meth c s₁ B hml ht hv
  obtain ⟨rfl, hK, hP, hz, hu⟩ := hv
  rw [lg_entry_eq]
  have hts := atoms_spec (ws := q_wd M) B.pre
  refine k G p l e (q_rm d 0 0) s m _ below meth c s.heap [] _ ⟨B.exec, B.bytes, hml, findClass_of_methodNamed B.named, fun w hw => hts w (List.mem_cons_of_mem _ hw), B.returns, B.notSynchronized, ?_, hst, (name_of_methodNamed B.named B.method).1, hK, Nat.le_refl _, Nat.le_refl _, fun sx' hx => ?_⟩ (q_ent_lo G hl) hP hz va_S.rf 0 0 (fun hn => by simpa using hu hn) (Nat.le_refl _) (Nat.le_refl _)
  · rw [hh]
    cases hq : c.exceptionTable.toList with
    | nil => rfl
    | cons a t => exact (ht a (by rw [hq]; exact List.mem_cons_self)).elim
  · rw [hsx] at hx; cases hx; exact hG
theorem e_sY {N : Nat} {xs : Nat → Int32} {M M' : qM} {d d' pc idx na : Nat} {L : List (Option qV)} {st rest as : List qV} {h : qB} {kc ks : Nat} {P : qP} {X : qX} {Q : Int32 → qB → Prop} (hM : q_MS M' na) (hl : Cond.methodLink M.1.cls idx M'.1 ∈ lwA) (hMx : M.2.2.2.2.2 = some (N, xs)) (hc : CtY (N, xs) M' d' as h Q) (hna : as.length = na) (hst : st = as.reverse ++ rest) (dg : decode M.2.1 pc = .ok (.invokestatic idx, 3)) (hd : d' + 1 ≤ d) (hr : q_cats rest ≤ 8) (hh : M.2.2.2.2.1 = [])
    (kk : ∀ x h', Q x h' → Ev M d (pc + 3) L (qI x :: rest) 124 h' kc ks P X) : Ev M d pc L st 124 h kc ks P X := by
  intro G p l e R s m args below meth c H locs ls C hlo hP hz hS cells slots hu hcc hss
  obtain ⟨hx, hb, hml, hown, hts, hrt, hlocks, htab, hstr, hnm, hK, hdR, hlR, hsx⟩ := id C
  subst hna
  obtain ⟨⟨m1, m2, m3, m4, m5, m6⟩, m7⟩ := hM
  subst hst
  refine qw_size fun hsz => ?_
  have hrun := vx_runS (H := H) (locs := locs) (As := as.map (q_v G)) (rest := rest.map (q_v G)) (e := e) (below := below) (meth := meth) (cells := cells) (slots := slots) (g := F0 m pc ls ((as.reverse ++ rest).map (q_v G)))
    ⟨hx, hb, hml, hown, hts⟩ (hc G l (hsx _ hMx) hstr) (own := M.1.cls) (index := idx) (bytes := M'.2.1) (maxL := M'.2.2.1) (ret := M'.2.2.2.1) (n := as.length) (R := R)
    ⟨callB_of as.length hts (q_good m1 m2) (q_wd_code m1) rfl rfl (hts _ m6) (hts _ hl) ⟨m3.1, m3.2, m4⟩ ⟨by show d' + 1 ≤ R.frames; omega, by show 8 + (M'.2.2.1 + 11) + 40 * d' ≤ R.locals; omega⟩, hts _ m7⟩
    ⟨q_blind G _ 124 h, q_pre (av := as) hK hP hz hS hu hsz⟩ rfl (by rw [List.length_map]) hlo.1 (by rw [q_st_eq]) (lv_room (by rw [q_cats_eq]; exact hr)) dg ⟨by omega, by omega⟩
  refine qw_call hrun hS (fun E n' h' H1 locs1 ce q9 f1 f2 f3 f4 f5 f6 f7 => f1.elim) (fun v n' h' H1 locs1 f1 f2 f3 f4 => ?_)
  obtain ⟨x, rfl, rfl, q3⟩ := f1
  rw [q_vs_eq]
  exact kk x h' q3 G p l e R s m args below meth c H1 locs1 ls C hlo f2 f3 f4 (cells + 0) (slots + 0) (fun hn => absurd hn (by decide)) (by omega) (by omega)
/-! WHAT THE LAW TELLS OF A STATE -/
def l_m (h : Int64) (v : Int32) : Int64 := 31 * h + v.toInt64
def l_a (X : qm) : Int64 := l_m (l_m (l_m (l_m (l_m 3 (nI (X.1 0 0))) (nI (X.1 0 4))) (nI (X.1 0 1))) (nI (X.1 0 3))) (m_tot X 4)
def l_b (X : qm) : Nat → Int64
  | 0 => l_a X
  | n + 1 => l_m (l_m (l_b X n) (q_b (decide (X.1 1 n = 1)))) (nI (X.1 10 n))
def l_c (X : qm) (t : Nat) (h : Int64) : Nat → Int64
  | 0 => h
  | n + 1 => l_m (l_c X t h n) (nI (X.1 9 (8 * n + t)))
def l_d (X : qm) : Nat → Int64
  | 0 => l_b X 5
  | n + 1 => l_c X n (l_m (l_m (l_m (l_d X n) (nI (X.1 7 n))) (nI (X.1 5 n))) (nI (X.1 6 n))) 4
def l_e (X : qm) : Nat → Int64
  | 0 => l_d X (X.1 0 0)
  | n + 1 => l_m (l_m (l_m (l_e X n) (nI (X.1 12 n / 32))) (nI (X.1 12 n / 4 % 8))) (nI (X.1 12 n % 4))
def l_told (X : qm) : Int64 := l_e X (X.1 0 4)
set_option maxRecDepth 20000 in
set_option maxHeartbeats 4000000 in
theorem w_told (h : qB) (pi : Nat → Option qK) (buf : Nat → Int32) (cnt sn len : Int32) (rd : Nat → Int32) (w : Fin 16 → qw) (X : qm) (hR : RelC (w 1) X) (hJ : J X) : CtL mL_told 3 [qR 0 0] (hK h (oC pi buf cnt sn len rd) w 10) (fun r h2 => r = l_told X ∧ h2 = hK h (oC pi buf cnt sn len rd) w 10) := by
  have i1 := iV1 hJ.1
  have i2 := iV2 hJ.1
  refine ct_of (by decide +kernel) rfl rfl (Nat.le_of_ble_eq_true rfl) ?_
  show Ev mL_told 3 0 [some (qR 0 0), none, none, none, none] [] 124 (hK h (oC pi buf cnt sn len rd) w 10) 0 0 _ _
  refine e_ldcL ckL_8 dL_told_0 ?_
  refine e_lstore1 dL_told_3 rfl (by decide) ?_
  refine e_ldcL ckL_10 dL_told_4 ?_
  refine e_ldcL ckL_10 dL_told_7 ?_
  refine e_ldcL ckL_10 dL_told_10 ?_
  refine e_lload1 dL_told_13 ?_
  refine e_lmul dL_told_14 ?_
  refine e_aload0 dL_told_15 ?_
  refine e_vI (M' := mX2_transfers) fX2_transfers lkL_12 (v_transfers h pi buf cnt sn len rd w X hR hJ) rfl rfl dL_told_16 (by rw [hK_0]; rfl) rfl (by decide) (Nat.le_of_ble_eq_true rfl) rfl ?_
  rintro _ _ ⟨rfl, rfl⟩
  refine e_i2l dL_told_19 ?_
  refine e_ladd dL_told_20 ?_
  refine e_lmul dL_told_21 ?_
  refine e_aload0 dL_told_22 ?_
  refine e_vI (M' := mX2_waiting) fX2_waiting lkL_18 (v_waiting h pi buf cnt sn len rd w X hR hJ) rfl rfl dL_told_23 (by rw [hK_0]; rfl) rfl (by decide) (Nat.le_of_ble_eq_true rfl) rfl ?_
  rintro _ _ ⟨rfl, rfl⟩
  refine e_i2l dL_told_26 ?_
  refine e_ladd dL_told_27 ?_
  refine e_lmul dL_told_28 ?_
  refine e_aload0 dL_told_29 ?_
  refine e_vI (M' := mX2_sent) fX2_sent lkL_21 (v_sent h pi buf cnt sn len rd w X hR hJ) rfl rfl dL_told_30 (by rw [hK_0]; rfl) rfl (by decide) (Nat.le_of_ble_eq_true rfl) rfl ?_
  rintro _ _ ⟨rfl, rfl⟩
  refine e_i2l dL_told_33 ?_
  refine e_ladd dL_told_34 ?_
  refine e_lstore1 dL_told_35 rfl (by decide) ?_
  refine e_ldcL ckL_10 dL_told_36 ?_
  refine e_ldcL ckL_10 dL_told_39 ?_
  refine e_lload1 dL_told_42 ?_
  refine e_lmul dL_told_43 ?_
  refine e_aload0 dL_told_44 ?_
  refine e_vI (M' := mX2_lost) fX2_lost lkL_24 (v_lost h pi buf cnt sn len rd w X hR hJ) rfl rfl dL_told_45 (by rw [hK_0]; rfl) rfl (by decide) (Nat.le_of_ble_eq_true rfl) rfl ?_
  rintro _ _ ⟨rfl, rfl⟩
  refine e_i2l dL_told_48 ?_
  refine e_ladd dL_told_49 ?_
  refine e_lmul dL_told_50 ?_
  refine e_aload0 dL_told_51 ?_
  refine e_vI (M' := mX2_total) fX2_total lkL_27 (v_total h pi buf cnt sn len rd w X hR hJ) rfl rfl dL_told_52 (by rw [hK_0]; rfl) rfl (by decide) (Nat.le_of_ble_eq_true rfl) rfl ?_
  rintro _ _ ⟨rfl, rfl⟩
  refine e_i2l dL_told_55 ?_
  refine e_ladd dL_told_56 ?_
  refine e_lstore1 dL_told_57 rfl (by decide) ?_
  refine e_iconst (z := 0) dL_told_58 ?_
  refine e_istore3 dL_told_59 rfl (by decide) ?_
  have H1 : ∀ (m i : Nat) (v : Int64) (l4 : Option qV), i ≤ 5 → m = 5 - i → v = l_b X i → Ev mL_told 3 60 [some (qR 0 0), some (qL v), none, some (qI (nI i)), l4] [] 124 (hK h (oC pi buf cnt sn len rd) w 10) 0 0 (fun r n h' => ∃ x, r = some (qL x) ∧ n = 124 ∧ ((fun r h2 => r = l_told X ∧ h2 = hK h (oC pi buf cnt sn len rd) w 10)) x h') qNo := by
    intro m
    induction m using Nat.strongRecOn with
    | _ m ih =>
    intro i v l4 hi hm hv
    refine e_iload3 dL_told_60 ?_
    refine e_iconst (z := 5) dL_told_61 ?_
    first | refine e_icmp_geN 103 dL_told_62 (by decide) (by omega) (by omega) (fun hc62 => ?_) (fun hc62 => ?_) | refine e_icmp_ge 103 dL_told_62 (by decide) (fun hc62 => ?_) (fun hc62 => ?_)
    · refine e_iconst (z := 0) dL_told_103 ?_
      refine e_istore3 dL_told_104 rfl (by decide) ?_
      have H2 : ∀ (m i : Nat) (v : Int64) (l4 : Option qV), i ≤ X.1 0 0 → m = X.1 0 0 - i → v = l_d X i → Ev mL_told 3 105 [some (qR 0 0), some (qL v), none, some (qI (nI i)), l4] [] 124 (hK h (oC pi buf cnt sn len rd) w 10) 0 0 (fun r n h' => ∃ x, r = some (qL x) ∧ n = 124 ∧ ((fun r h2 => r = l_told X ∧ h2 = hK h (oC pi buf cnt sn len rd) w 10)) x h') qNo := by
        intro m
        induction m using Nat.strongRecOn with
        | _ m ih =>
        intro i v l4 hi hm hv
        refine e_iload3 dL_told_105 ?_
        refine e_aload0 dL_told_106 ?_
        refine e_vI (M' := mX2_transfers) fX2_transfers lkL_12 (v_transfers h pi buf cnt sn len rd w X hR hJ) rfl rfl dL_told_107 (by rw [hK_0]; rfl) rfl (by decide) (Nat.le_of_ble_eq_true rfl) rfl ?_
        rintro _ _ ⟨rfl, rfl⟩
        first | refine e_icmp_geN 184 dL_told_110 (by decide) (by omega) (by omega) (fun hc110 => ?_) (fun hc110 => ?_) | refine e_icmp_ge 184 dL_told_110 (by decide) (fun hc110 => ?_) (fun hc110 => ?_)
        · refine e_iconst (z := 0) dL_told_184 ?_
          refine e_istore3 dL_told_185 rfl (by decide) ?_
          have H4 : ∀ (m i : Nat) (v : Int64) (l4 : Option qV), i ≤ X.1 0 4 → m = X.1 0 4 - i → v = l_e X i → Ev mL_told 3 186 [some (qR 0 0), some (qL v), none, some (qI (nI i)), l4] [] 124 (hK h (oC pi buf cnt sn len rd) w 10) 0 0 (fun r n h' => ∃ x, r = some (qL x) ∧ n = 124 ∧ ((fun r h2 => r = l_told X ∧ h2 = hK h (oC pi buf cnt sn len rd) w 10)) x h') qNo := by
            intro m
            induction m using Nat.strongRecOn with
            | _ m ih =>
            intro i v l4 hi hm hv
            refine e_iload3 dL_told_186 ?_
            refine e_aload0 dL_told_187 ?_
            refine e_vI (M' := mX2_waiting) fX2_waiting lkL_18 (v_waiting h pi buf cnt sn len rd w X hR hJ) rfl rfl dL_told_188 (by rw [hK_0]; rfl) rfl (by decide) (Nat.le_of_ble_eq_true rfl) rfl ?_
            rintro _ _ ⟨rfl, rfl⟩
            first | refine e_icmp_geN 235 dL_told_191 (by decide) (by omega) (by omega) (fun hc191 => ?_) (fun hc191 => ?_) | refine e_icmp_ge 235 dL_told_191 (by decide) (fun hc191 => ?_) (fun hc191 => ?_)
            · refine e_lload1 dL_told_235 ?_
              refine e_lret dL_told_236 rfl ?_
              obtain rfl : i = X.1 0 4 := by omega
              exact ⟨_, rfl, rfl, hv, rfl⟩
            · refine e_ldcL ckL_10 dL_told_194 ?_
              refine e_ldcL ckL_10 dL_told_197 ?_
              refine e_ldcL ckL_10 dL_told_200 ?_
              refine e_lload1 dL_told_203 ?_
              refine e_lmul dL_told_204 ?_
              refine e_aload0 dL_told_205 ?_
              refine e_iload3 dL_told_206 ?_
              refine e_vI (M' := mX2_kindOf) fX2_kindOf lkL_51 (v_kindOf h pi buf cnt sn len rd w X hR hJ (p := i) (by omega)) rfl rfl dL_told_207 (by rw [hK_0]; rfl) rfl (by decide) (Nat.le_of_ble_eq_true rfl) rfl ?_
              rintro _ _ ⟨rfl, rfl⟩
              rw [if_pos (show i < X.1 0 4 by omega)]
              refine e_i2l dL_told_210 ?_
              refine e_ladd dL_told_211 ?_
              refine e_lmul dL_told_212 ?_
              refine e_aload0 dL_told_213 ?_
              refine e_iload3 dL_told_214 ?_
              refine e_vI (M' := mX2_transferOf) fX2_transferOf lkL_54 (v_transferOf h pi buf cnt sn len rd w X hR hJ (p := i) (by omega)) rfl rfl dL_told_215 (by rw [hK_0]; rfl) rfl (by decide) (Nat.le_of_ble_eq_true rfl) rfl ?_
              rintro _ _ ⟨rfl, rfl⟩
              rw [if_pos (show i < X.1 0 4 by omega)]
              refine e_i2l dL_told_218 ?_
              refine e_ladd dL_told_219 ?_
              refine e_lmul dL_told_220 ?_
              refine e_aload0 dL_told_221 ?_
              refine e_iload3 dL_told_222 ?_
              refine e_vI (M' := mX2_storeOf) fX2_storeOf lkL_57 (v_storeOf h pi buf cnt sn len rd w X hR hJ (p := i) (by omega)) rfl rfl dL_told_223 (by rw [hK_0]; rfl) rfl (by decide) (Nat.le_of_ble_eq_true rfl) rfl ?_
              rintro _ _ ⟨rfl, rfl⟩
              rw [if_pos (show i < X.1 0 4 by omega)]
              refine e_i2l dL_told_226 ?_
              refine e_ladd dL_told_227 ?_
              refine e_lstore1 dL_told_228 rfl (by decide) ?_
              first | refine e_iinc3N (z := 1) dL_told_229 rfl (by decide) ?_ | refine e_iinc3 dL_told_229 rfl rfl (by decide) ?_
              refine e_goto 186 dL_told_232 (by decide) ?_
              exact ih _ (by omega) (i + 1) _ _ (by omega) rfl (by rw [l_e, ← hv]; rfl)
          exact H4 _ 0 _ _ (Nat.zero_le _) rfl (hv.trans (by rw [show i = X.1 0 0 by omega]; rfl))
        · refine e_ldcL ckL_10 dL_told_113 ?_
          refine e_ldcL ckL_10 dL_told_116 ?_
          refine e_ldcL ckL_10 dL_told_119 ?_
          refine e_lload1 dL_told_122 ?_
          refine e_lmul dL_told_123 ?_
          refine e_aload0 dL_told_124 ?_
          refine e_iload3 dL_told_125 ?_
          refine e_vI (M' := mX2_outcome) fX2_outcome lkL_38 (v_outcome h pi buf cnt sn len rd w X hR hJ (t := i) (by omega)) rfl rfl dL_told_126 (by rw [hK_0]; rfl) rfl (by decide) (Nat.le_of_ble_eq_true rfl) rfl ?_
          rintro _ _ ⟨rfl, rfl⟩
          refine e_i2l dL_told_129 ?_
          refine e_ladd dL_told_130 ?_
          refine e_lmul dL_told_131 ?_
          refine e_aload0 dL_told_132 ?_
          refine e_iload3 dL_told_133 ?_
          refine e_vI (M' := mX2_saidYes) fX2_saidYes lkL_41 (v_saidYes h pi buf cnt sn len rd w X hR hJ (t := i) (by omega)) rfl rfl dL_told_134 (by rw [hK_0]; rfl) rfl (by decide) (Nat.le_of_ble_eq_true rfl) rfl ?_
          rintro _ _ ⟨rfl, rfl⟩
          refine e_i2l dL_told_137 ?_
          refine e_ladd dL_told_138 ?_
          refine e_lmul dL_told_139 ?_
          refine e_aload0 dL_told_140 ?_
          refine e_iload3 dL_told_141 ?_
          refine e_vI (M' := mX2_saidDone) fX2_saidDone lkL_44 (v_saidDone h pi buf cnt sn len rd w X hR hJ (t := i) (by omega)) rfl rfl dL_told_142 (by rw [hK_0]; rfl) rfl (by decide) (Nat.le_of_ble_eq_true rfl) rfl ?_
          rintro _ _ ⟨rfl, rfl⟩
          refine e_i2l dL_told_145 ?_
          refine e_ladd dL_told_146 ?_
          refine e_lstore1 dL_told_147 rfl (by decide) ?_
          refine e_iconst (z := 0) dL_told_148 ?_
          refine e_istore4 dL_told_149 rfl (by decide) ?_
          have H3 : ∀ (m2 j : Nat) (v2 : Int64), j ≤ 4 → m2 = 4 - j → v2 = l_c X i (l_m (l_m (l_m v (nI (X.1 7 i))) (nI (X.1 5 i))) (nI (X.1 6 i))) j → Ev mL_told 3 151 [some (qR 0 0), some (qL v2), none, some (qI (nI i)), some (qI (nI j))] [] 124 (hK h (oC pi buf cnt sn len rd) w 10) 0 0 (fun r n h' => ∃ x, r = some (qL x) ∧ n = 124 ∧ ((fun r h2 => r = l_told X ∧ h2 = hK h (oC pi buf cnt sn len rd) w 10)) x h') qNo := by
            intro m2
            induction m2 using Nat.strongRecOn with
            | _ m2 ih2 =>
            intro j v2 hj hm2 hv2
            refine e_iload4 dL_told_151 ?_
            refine e_iconst (z := 4) dL_told_153 ?_
            first | refine e_icmp_geN 178 dL_told_154 (by decide) (by omega) (by omega) (fun hc154 => ?_) (fun hc154 => ?_) | refine e_icmp_ge 178 dL_told_154 (by decide) (fun hc154 => ?_) (fun hc154 => ?_)
            · first | refine e_iinc3N (z := 1) dL_told_178 rfl (by decide) ?_ | refine e_iinc3 dL_told_178 rfl rfl (by decide) ?_
              refine e_goto 105 dL_told_181 (by decide) ?_
              obtain rfl : j = 4 := by omega
              exact ih _ (by omega) (i + 1) _ _ (by omega) rfl (by rw [l_d, ← hv]; exact hv2)
            · refine e_ldcL ckL_10 dL_told_157 ?_
              refine e_lload1 dL_told_160 ?_
              refine e_lmul dL_told_161 ?_
              refine e_aload0 dL_told_162 ?_
              refine e_iload4 dL_told_163 ?_
              refine e_iload3 dL_told_165 ?_
              refine e_vI (M' := mX2_state) fX2_state lkL_47 (v_state h pi buf cnt sn len rd w X hR hJ (s := j) (by omega) (t := i) (by omega)) rfl rfl dL_told_166 (by rw [hK_0]; rfl) rfl (by decide) (Nat.le_of_ble_eq_true rfl) rfl ?_
              rintro _ _ ⟨rfl, rfl⟩
              refine e_i2l dL_told_169 ?_
              refine e_ladd dL_told_170 ?_
              refine e_lstore1 dL_told_171 rfl (by decide) ?_
              first | refine e_iinc4N (z := 1) dL_told_172 rfl (by decide) ?_ | refine e_iinc4 dL_told_172 rfl rfl (by decide) ?_
              refine e_goto 151 dL_told_175 (by decide) ?_
              exact ih2 _ (by omega) (j + 1) _ (by omega) rfl (by rw [l_c, ← hv2]; rfl)
          exact H3 _ 0 _ (Nat.zero_le _) rfl rfl
      exact H2 _ 0 _ _ (Nat.zero_le _) rfl (hv.trans (by rw [show i = 5 by omega]; rfl))
    · refine e_ldcL ckL_10 dL_told_65 ?_
      refine e_ldcL ckL_10 dL_told_68 ?_
      refine e_lload1 dL_told_71 ?_
      refine e_lmul dL_told_72 ?_
      refine e_aload0 dL_told_73 ?_
      refine e_iload3 dL_told_74 ?_
      refine e_vI (M' := mX2_isUp) fX2_isUp lkL_30 (v_isUp h pi buf cnt sn len rd w X hR hJ (k := i) (by omega)) rfl rfl dL_told_75 (by rw [hK_0]; rfl) rfl (by decide) (Nat.le_of_ble_eq_true rfl) rfl ?_
      rintro _ _ ⟨rfl, rfl⟩
      generalize hB : decide (X.1 1 i = 1) = B1
      have hb1 : B1.toNat < 2 := by cases B1 <;> decide
      first | refine e_if_eqN 85 dL_told_78 (by decide) (by omega) (fun hc78 => ?_) (fun hc78 => ?_) | refine e_if_eq 85 dL_told_78 (by decide) (fun hc78 => ?_) (fun hc78 => ?_)
      · refine e_iconst (z := 0) dL_told_85 ?_
        refine e_i2l dL_told_86 ?_
        refine e_ladd dL_told_87 ?_
        refine e_lmul dL_told_88 ?_
        refine e_aload0 dL_told_89 ?_
        refine e_iload3 dL_told_90 ?_
        refine e_vI (M' := mX2_records) fX2_records lkL_34 (v_records h pi buf cnt sn len rd w X hR hJ (k := i) (by omega)) rfl rfl dL_told_91 (by rw [hK_0]; rfl) rfl (by decide) (Nat.le_of_ble_eq_true rfl) rfl ?_
        rintro _ _ ⟨rfl, rfl⟩
        refine e_i2l dL_told_94 ?_
        refine e_ladd dL_told_95 ?_
        refine e_lstore1 dL_told_96 rfl (by decide) ?_
        first | refine e_iinc3N (z := 1) dL_told_97 rfl (by decide) ?_ | refine e_iinc3 dL_told_97 rfl rfl (by decide) ?_
        refine e_goto 60 dL_told_100 (by decide) ?_
        exact ih _ (by omega) (i + 1) _ _ (by omega) rfl (by rw [l_b, ← hv, hB]; cases B1 <;> first | rfl | exact absurd hc78 (by decide))
      · refine e_iconst (z := 1) dL_told_81 ?_
        refine e_goto 86 dL_told_82 (by decide) ?_
        refine e_i2l dL_told_86 ?_
        refine e_ladd dL_told_87 ?_
        refine e_lmul dL_told_88 ?_
        refine e_aload0 dL_told_89 ?_
        refine e_iload3 dL_told_90 ?_
        refine e_vI (M' := mX2_records) fX2_records lkL_34 (v_records h pi buf cnt sn len rd w X hR hJ (k := i) (by omega)) rfl rfl dL_told_91 (by rw [hK_0]; rfl) rfl (by decide) (Nat.le_of_ble_eq_true rfl) rfl ?_
        rintro _ _ ⟨rfl, rfl⟩
        refine e_i2l dL_told_94 ?_
        refine e_ladd dL_told_95 ?_
        refine e_lstore1 dL_told_96 rfl (by decide) ?_
        first | refine e_iinc3N (z := 1) dL_told_97 rfl (by decide) ?_ | refine e_iinc3 dL_told_97 rfl rfl (by decide) ?_
        refine e_goto 60 dL_told_100 (by decide) ?_
        exact ih _ (by omega) (i + 1) _ _ (by omega) rfl (by rw [l_b, ← hv, hB]; cases B1 <;> first | rfl | exact absurd hc78 (by decide))
  exact H1 _ 0 _ _ (Nat.zero_le _) rfl rfl
