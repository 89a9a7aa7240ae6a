/-! A METHOD'S ENTRY, THROWS, HANDLERS -/
def q_en : List qV → List (Option qV)
  | [] => []
  | v :: vs => if q_wide v then some v :: none :: q_en vs else some v :: q_en vs
def q_ent (nL : Nat) (as : List qV) : List (Option qV) := q_en as ++ List.replicate (nL - (q_en as).length) none
theorem q_en_len (G : qG) : ∀ as : List qV, (lg_sl (as.map (q_v G))).length = (q_en as).length
  | [] => rfl
  | v :: vs => by
    have ih := q_en_len G vs
    unfold lg_sl at ih ⊢
    rw [List.map_cons, List.flatMap_cons, List.length_append, ih]
    by_cases hv : q_wide v = true
    · simp [q_en, hv, q_cat]; omega
    · simp [q_en, hv, q_cat]; omega
theorem q_en_mem (G : qG) : ∀ (as : List qV) (i k : Nat) (x : qV), (q_en as)[k]? = some (some x) → (i + k, q_v G x) ∈ lv_args i (as.map (q_v G))
  | [], i, k, x, h => by simp [q_en] at h
  | v :: vs, i, k, x, h => by
    rw [List.map_cons, lv_args]
    by_cases hv : q_wide v = true
    · simp only [q_en, hv, if_true] at h
      have hc : (q_v G v).category = 2 := by rw [q_cat, hv]; rfl
      rw [if_pos hc]
      match k, h with
      | 0, h => simp at h; subst h; simp
      | 1, h => simp at h
      | k + 2, h =>
        have ih := q_en_mem G vs (i + 2) k x (by simpa using h)
        rw [show i + (k + 2) = i + 2 + k by omega]
        exact List.mem_cons_of_mem _ ih
    · have hv' : q_wide v = false := by simpa using hv
      simp only [q_en, hv', Bool.false_eq_true, if_false] at h
      have hc : ¬ (q_v G v).category = 2 := by rw [q_cat, hv']; decide
      rw [if_neg hc]
      match k, h with
      | 0, h => simp at h; subst h; simp
      | k + 1, h =>
        have ih := q_en_mem G vs (i + 1) k x (by simpa using h)
        rw [show i + (k + 1) = i + 1 + k by omega]
        exact List.mem_cons_of_mem _ ih
theorem q_ent_lo (G : qG) {nL : Nat} {as : List qV} (hl : (q_en as).length ≤ nL) : q_lo G nL (q_ent nL as) ((lg_sl (as.map (q_v G)) ++ List.replicate (nL - (lg_sl (as.map (q_v G))).length) Slot.unset).toArray) := by
  refine lv_fewer (lv_entry (as.map (q_v G)) (by rw [q_en_len]; exact hl)) fun q hq => ?_
  obtain ⟨k, x, h1, rfl⟩ := (q_pr_mem _ 0 q).mp hq
  unfold q_ent at h1
  by_cases hk : k < (q_en as).length
  · rw [List.getElem?_append_left hk] at h1
    exact q_en_mem G as 0 k x h1
  · rw [List.getElem?_append_right (by omega), List.getElem?_replicate] at h1
    split at h1 <;> cases h1
theorem ct_of {M : qM} {d mc ms : Nat} {as : List qV} {n : Nat} {h : qB} {P : qP} {X : qX} (hp : plainName M.1.cls = true) (hh : M.2.2.2.2.1 = []) (hsx : M.2.2.2.2.2 = none) (hl : (q_en as).length ≤ M.2.2.1)
    (k : Ev M d 0 (q_ent M.2.2.1 as) [] n h mc ms P X) : Ct M d mc ms as n h P X := by
  intro G l hst
  refine vx_ofW (cc := M.2.1) (maxL := M.2.2.1) (ret := M.2.2.2.1) hp (q_wd_code hh) ?_
  intro p e s m args below meth c s₁ B hml ht hv
  obtain ⟨rfl, hK, hP, hz, hu⟩ := hv
  rw [lg_entry_eq]
  have hts := atoms_spec (ws := q_wd M) B.pre
  refine k G p l e (q_rm d mc ms) s m _ below meth c s.heap [] _ ⟨B.exec, B.bytes, hml, findClass_of_methodNamed B.named, fun w hw => hts w (List.mem_cons_of_mem _ hw), B.returns, B.notSynchronized, ?_, hst, (name_of_methodNamed B.named B.method).1, hK, Nat.le_refl _, Nat.le_refl _, fun sx hx => ?_⟩ (q_ent_lo G hl) hP hz va_S.rf 0 0 (fun hn => by simpa using hu hn) (by show 0 + mc ≤ mc; omega) (by show 0 + ms ≤ ms; omega)
  · rw [hh]
    cases hq : c.exceptionTable.toList with
    | nil => rfl
    | cons a t => exact (ht a (by rw [hq]; exact List.mem_cons_self)).elim
  · rw [hsx] at hx; cases hx
theorem ct_ofH {M : qM} {d mc ms : Nat} {as : List qV} {n : Nat} {h : qB} {P : qP} {X : qX} {x0 : Nat × Nat × Nat × Nat} {hh0 : List (Nat × Nat × Nat × Nat)} (hp : plainName M.1.cls = true) (hh : M.2.2.2.2.1 = x0 :: hh0) (hsx : M.2.2.2.2.2 = none) (hl : (q_en as).length ≤ M.2.2.1)
    (k : Ev M d 0 (q_ent M.2.2.1 as) [] n h mc ms P X) : Ct M d mc ms as n h P X := by
  intro G l hst
  have hw : q_wd M = Cond.codeWith M.1 M.2.1 M.2.2.1 M.2.2.2.1 M.2.2.2.2.1 :: lwA := by
    unfold q_wd q_hd
    rw [hh]
  refine vx_ofWH (cc := M.2.1) (maxL := M.2.2.1) (ret := M.2.2.2.1) (hh := M.2.2.2.2.1) hp hw ?_
  intro p e s m args below meth c s₁ B hml hv
  obtain ⟨rfl, hK, hP, hz, hu⟩ := hv
  rw [lg_entry_eq]
  have hts := atoms_spec (ws := q_wd M) B.pre
  have htab : c.exceptionTable.toList = tableOf M.2.2.2.2.1 := vx_table (x := M.1) (y := M.1) B (hts _ (by rw [hw]; exact List.mem_cons_self))
  exact k G p l e (q_rm d mc ms) s m _ below meth c s.heap [] _ ⟨B.exec, B.bytes, hml, findClass_of_methodNamed B.named, fun w hw => hts w (List.mem_cons_of_mem _ hw), B.returns, B.notSynchronized, htab, hst, (name_of_methodNamed B.named B.method).1, hK, Nat.le_refl _, Nat.le_refl _, fun sx hx => by rw [hsx] at hx; cases hx⟩ (q_ent_lo G hl) hP hz va_S.rf 0 0 (fun hn => by simpa using hu hn) (by show 0 + mc ≤ mc; omega) (by show 0 + ms ≤ ms; omega)
/-- throw new E(text) -/
def q_TH (own : String) (ik is ic : Nat) (E text : String) : Prop :=
  (own, is, text) ∈ q_strs ∧ Cond.classLink own ik E ∈ lwA ∧ Cond.initialized E ∈ lwA ∧ Bundle.fit E = true ∧ (∀ w ∈ vx_atS own ic E ["java/lang/RuntimeException", "java/lang/Exception"], w ∈ lwA ∨ w ∈ q_nest)
theorem q_fitN : ∀ n ∈ ["java/lang/RuntimeException", "java/lang/Exception"], Bundle.fit n = true := by decide +kernel
theorem q_nest_ot : ∀ w ∈ q_nest, w.onTables = true := by decide +kernel
theorem vx_ot_good {w : Cond} (h : goodWord w = true) : vx_ot w = true := by simp [vx_ot, h]
theorem e_throw {M : qM} {d pc ik is ic : Nat} {E text : String} {L : List (Option qV)} {st : List qV} {n : Nat} {h : qB} {kc ks : Nat} {P : qP} {X : qX}
    (ht : q_TH M.1.cls ik is ic E text) (d0 : decode M.2.1 pc = .ok (.new ik, 3)) (d3 : decode M.2.1 (pc + 3) = .ok (.dup, 1)) (d4 : decode M.2.1 (pc + 4) = .ok (.ldc is, 2)) (d6 : decode M.2.1 (pc + 6) = .ok (.invokespecial ic, 3)) (d9 : decode M.2.1 (pc + 9) = .ok (.athrow, 1))
    (hnoh : ∀ x ∈ tableOf M.2.2.2.2.1, covers x (pc + 9) = false) (hd : 6 ≤ d) (hr : q_cats st ≤ 8) (hkc : 1 ≤ kc) (hks : 6 ≤ ks) (hX : X E n h) : Ev M d pc L st n h kc ks P X := by
  intro G p l e R s m args below meth c H locs ls C hlo hP hz hS cells slots hu hcc hss
  obtain ⟨hx, hb, hml, hown, hts, hrt, hlocks, htab, hstr, hnm, hK, hdR, hlR, hsx⟩ := id C
  obtain ⟨t1, t2, t3, t4, t5⟩ := ht
  obtain ⟨sa, hsa⟩ := hK.2.2.2.2.2.2.1 _ t1
  exact vx_throwS hx hb hstr (names := ["java/lang/RuntimeException", "java/lang/Exception"]) hown t4 q_fitN (hts _ t2) (hts _ t3) hsa (fun w hw => (t5 w hw).elim (fun h9 => hts _ h9) (fun h9 => va_Nw.use (q_nest_ot w h9) (hK.2.2.2.2.2.1 w h9)))
    (fun w hw => by
      rcases List.mem_cons.mp hw with rfl | hw
      · exact vx_ot_good (lwA_good t2)
      · rcases List.mem_cons.mp hw with rfl | hw
        · exact vx_ot_good (lwA_good t3)
        · rcases t5 w hw with h9 | h9
          · exact vx_ot_good (lwA_good h9)
          · simp [vx_ot, q_nest_ot w h9])
    hK.2.2.2.1 hK.2.2.2.2.1 hS (hlo.1.trans hml.symm) d0 d3 d4 d6 d9 (by rw [htab]; exact hnoh) (by show 2 + 3 < R.frames; omega) (by rw [q_cats_eq]; show q_cats st + (13 * 3 + 43) ≤ R.locals; omega) (by omega) (by omega) hlocks
    (fun t ht1 ht2 ht3 => ⟨⟨n, h, hX, va_P.kept hP (fun k q hk => ht3 _ ((hP k q hk).lt)), Nat.le_trans hz ht2⟩, ⟨Nat.le_trans hS.1 ht2, fun q h1 h2 => (ht3 q (Nat.lt_of_lt_of_le h1 hS.1)).trans (hS.2.1 q h1 h2)⟩⟩) hS.2.2 (by omega) (by omega)
theorem e_throwW {M : qM} {d pc ik is ic : Nat} {E text : String} {L : List (Option qV)} {st : List qV} {n : Nat} {h : qB} {kc ks : Nat} {P : qP} {X : qX}
    (ht : q_TH M.1.cls ik is ic E text) (d0 : decode M.2.1 pc = .ok (.new ik, 3)) (d3 : decode M.2.1 (pc + 3) = .ok (.dup, 1)) (d4 : decode M.2.1 (pc + 4) = .ok (.ldc_w is, 3)) (d6 : decode M.2.1 (pc + 7) = .ok (.invokespecial ic, 3)) (d9 : decode M.2.1 (pc + 10) = .ok (.athrow, 1))
    (hnoh : ∀ x ∈ tableOf M.2.2.2.2.1, covers x (pc + 10) = false) (hd : 6 ≤ d) (hr : q_cats st ≤ 8) (hkc : 1 ≤ kc) (hks : 6 ≤ ks) (hX : X E n h) : Ev M d pc L st n h kc ks P X := by
  intro G p l e R s m args below meth c H locs ls C hlo hP hz hS cells slots hu hcc hss
  obtain ⟨hx, hb, hml, hown, hts, hrt, hlocks, htab, hstr, hnm, hK, hdR, hlR, hsx⟩ := id C
  obtain ⟨t1, t2, t3, t4, t5⟩ := ht
  obtain ⟨sa, hsa⟩ := hK.2.2.2.2.2.2.1 _ t1
  exact vx_throwSW hx hb hstr (names := ["java/lang/RuntimeException", "java/lang/Exception"]) hown t4 q_fitN (hts _ t2) (hts _ t3) hsa (fun w hw => (t5 w hw).elim (fun h9 => hts _ h9) (fun h9 => va_Nw.use (q_nest_ot w h9) (hK.2.2.2.2.2.1 w h9)))
    (fun w hw => by
      rcases List.mem_cons.mp hw with rfl | hw
      · exact vx_ot_good (lwA_good t2)
      · rcases List.mem_cons.mp hw with rfl | hw
        · exact vx_ot_good (lwA_good t3)
        · rcases t5 w hw with h9 | h9
          · exact vx_ot_good (lwA_good h9)
          · simp [vx_ot, q_nest_ot w h9])
    hK.2.2.2.1 hK.2.2.2.2.1 hS (hlo.1.trans hml.symm) d0 d3 d4 d6 d9 (by rw [htab]; exact hnoh) (by show 2 + 3 < R.frames; omega) (by rw [q_cats_eq]; show q_cats st + (13 * 3 + 43) ≤ R.locals; omega) (by omega) (by omega) hlocks
    (fun t ht1 ht2 ht3 => ⟨⟨n, h, hX, va_P.kept hP (fun k q hk => ht3 _ ((hP k q hk).lt)), Nat.le_trans hz ht2⟩, ⟨Nat.le_trans hS.1 ht2, fun q h1 h2 => (ht3 q (Nat.lt_of_lt_of_le h1 hS.1)).trans (hS.2.1 q h1 h2)⟩⟩) hS.2.2 (by omega) (by omega)
/-- the words of a throw, but the codes, by a look; the codes by their places -/
theorem q_atS {own : String} {ic : Nat} {E : String} (h1 : ((vx_atS own ic E ["java/lang/RuntimeException", "java/lang/Exception"]).filter (fun w => !k2_isCode w)).all (fun w => (goodWord w && decide (w ∈ k2_sels lw_privs ++ tables_1)) || decide (w ∈ q_nest)) = true)
    (h2 : ∀ w ∈ (vx_atS own ic E ["java/lang/RuntimeException", "java/lang/Exception"]).filter k2_isCode, w ∈ lwA) : ∀ w ∈ vx_atS own ic E ["java/lang/RuntimeException", "java/lang/Exception"], w ∈ lwA ∨ w ∈ q_nest := by
  intro w hw
  by_cases hc : k2_isCode w = true
  · exact Or.inl (h2 w (List.mem_filter.mpr ⟨hw, hc⟩))
  · have hc' : k2_isCode w = false := by simpa using hc
    have h3 := List.all_eq_true.mp h1 w (List.mem_filter.mpr ⟨hw, by simp [hc']⟩)
    simp only [Bool.or_eq_true, Bool.and_eq_true, decide_eq_true_eq] at h3
    rcases h3 with ⟨g, h3⟩ | h3
    · exact Or.inl (List.mem_filter.mpr ⟨h3, g⟩)
    · exact Or.inr h3
