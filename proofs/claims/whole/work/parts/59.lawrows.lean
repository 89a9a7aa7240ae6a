/-! THE LAW: its rows -/
abbrev mL_law (N : Nat) (xs : Nat → Int32) : qM := (yL_law, cL_law, 9, some .boolean, [], some (N, xs))
theorem ev_room {M : qM} {d pc : Nat} {L : List (Option qV)} {st : List qV} {n : Nat} {h : qB} {kc ks kc2 ks2 : Nat} {P : qP} {X : qX} (k : Ev M d pc L st n h kc ks P X) (h1 : kc ≤ kc2) (h2 : ks ≤ ks2) : Ev M d pc L st n h kc2 ks2 P X :=
  fun G p l e R s m args below meth c H locs ls C hl hP hz hS cells slots hu hc hs => k G p l e R s m args below meth c H locs ls C hl hP hz hS cells slots hu (by omega) (by omega)
theorem e_lcmp {M : qM} {d pc : Nat} {L : List (Option qV)} {st : List qV} {n : Nat} {h : qB} {kc ks : Nat} {P : qP} {X : qX} {x y : Int64} (dg : decode M.2.1 pc = .ok (.lcmp, 1)) (k : Ev M d (pc + 1) L (qI (lg_cmp x y) :: st) n h kc ks P X) : Ev M d pc L (qL y :: qL x :: st) n h kc ks P X :=
  fun G p l e R s m args below meth c H locs ls C hl hP hz hS cells slots hu hc hs => W.lcmp C.1 C.2.1 dg (k G p l e R s m args below meth c H locs ls C hl hP hz hS cells slots hu hc hs)
theorem lg_cmp_self (x : Int64) : lg_cmp x x = 0 := by
  unfold lg_cmp
  rw [if_neg (by simp [Int64.lt_iff_toInt_lt]), if_pos rfl]
theorem e_sldN {N : Nat} {xs : Nat → Int32} {d pc : Nat} {L : List (Option qV)} {st : List qV} {n : Nat} {h : qB} {kc ks : Nat} {P : qP} {X : qX} {i : Nat} (dg : decode cL_law pc = .ok (.iaload, 1)) (hi : i < N) (hN : N ≤ 2048) (k : Ev (mL_law N xs) d (pc + 1) L (qI (xs i) :: st) n h kc ks P X) : Ev (mL_law N xs) d pc L (qI (nI i) :: qS :: st) n h kc ks P X := by
  refine e_sld (N := N) (xs := xs) rfl dg (vp_in_nI hi (by omega)) ?_
  rw [nI_clamp (by omega)]
  exact k
theorem rb_at {A : qA} {F : List qE} (hB : RB A F) : ∃ fs, F[0]? = some (eO 3 fs) := by
  obtain ⟨t, sf, asd, sts, snp, txt, rdd, pt, iw, rm, rfl, -⟩ := hB
  exact ⟨_, rfl⟩
theorem e_callW {N : Nat} {xs : Nat → Int32} {M' : qM} {pc idx na : Nat} {L : List (Option qV)} {st rest as : List qV} {kc ks : Nat} {P : qP} {o : List qE} {w : Fin 16 → qw} {F : List qE} {out : Nat → Int64} {A2 : qA} {code : Nat} {x : Int64}
    (hM : q_MSW M' na) (hl : Cond.methodLink RL idx M'.1 ∈ lwA) (hc : Ct M' 8 1 6 as 132 (hL o w F out) (WP A2 F code x) qNo) (hna : as.length = na) (hst : st = as.reverse ++ rest) (dg : decode cL_law pc = .ok (.invokestatic idx, 3)) (hr : q_cats rest ≤ 8)
    (kk : ∀ o' w' out', RA A2 o' w' → (code = 0 → out' 0 = x) → Ev (mL_law N xs) 13 (pc + 3) L (qI (nI code) :: rest) 132 (hL o' w' F out') kc ks P qNo) : Ev (mL_law N xs) 13 pc L st 132 (hL o w F out) (kc + 1) (ks + 6) P qNo := by
  subst hna
  refine e_callSW hM hl hc hst dg (by decide) hr (by omega) (by omega) (fun v n' h' q => ?_) (fun v n' h' q => ?_)
  · obtain ⟨o', w', out', e1, e2, e3⟩ := q
    omega
  · obtain ⟨o', w', out', rfl, rfl, e3, e4, rfl⟩ := q
    exact ev_room (kk o' w' out' e3 e4) (by omega) (by omega)
theorem e_callM {N : Nat} {xs : Nat → Int32} {M' : qM} {pc idx na : Nat} {L : List (Option qV)} {st rest as : List qV} {kc ks : Nat} {P : qP} {o : List qE} {w : Fin 16 → qw} {F : List qE} {out : Nat → Int64} {A A2 : qA} {code : Nat} {v : Int32} {T : u_T} {n9 : Nat}
    (hM : q_MV M' na) (hl : Cond.methodLink RL idx M'.1 ∈ lwA) (hB : RB A F) (hc : ∀ h, CtI M' 12 (qR 11 0 :: as) (q_put h 11 F) (fun r h2 => ∃ F', RBt A2 F' (nI code) ∧ (code = 0 → r = v) ∧ h2 = q_put h 11 F')) (hna : as.length = na) (hst : st = as.reverse ++ qR 11 0 :: rest) (dg : decode cL_law pc = .ok (.invokevirtual idx, 3)) (hr : q_cats rest ≤ 8) (hcl : vwCl[3]? = some (M'.1.cls, T, n9))
    (kk : ∀ r F', RBt A2 F' (nI code) → (code = 0 → r = v) → Ev (mL_law N xs) 13 (pc + 3) L (qI r :: rest) 132 (hL o w F' out) kc ks P qNo) : Ev (mL_law N xs) 13 pc L st 132 (hL o w F out) kc ks P qNo := by
  obtain ⟨fs, hF⟩ := rb_at hB
  rw [← hL_put o w F F out]
  refine e_vIF (b := 11) (o := 0) hM hl (hc _) hna hst dg hF hcl (by decide) hr rfl (fun r h2 q => ?_)
  obtain ⟨F', q1, q2, rfl⟩ := q
  rw [hL_put]
  exact kk r F' q1 q2
theorem e_callT {N : Nat} {xs : Nat → Int32} {pc : Nat} {L : List (Option qV)} {st : List qV} {kc ks : Nat} {P : qP} {o : List qE} {w : Fin 16 → qw} {F : List qE} {out : Nat → Int64} {A : qA} {t : Int32} (hB : RBt A F t) (dg : decode cL_law pc = .ok (.invokevirtual 132, 3)) (hr : q_cats st ≤ 8)
    (k : Ev (mL_law N xs) 13 (pc + 3) L (qI t :: st) 132 (hL o w F out) kc ks P qNo) : Ev (mL_law N xs) 13 pc L (qR 11 0 :: st) 132 (hL o w F out) kc ks P qNo := by
  obtain ⟨fs, hF⟩ := rb_at ⟨t, hB⟩
  rw [← hL_put o w F F out]
  refine e_vIF (b := 11) (o := 0) (M' := mX3_thrown) (as := []) fX3_thrown lkL_132 (p_thrown _ hB) rfl rfl dg hF rfl (by decide) hr rfl (fun r h2 q => ?_)
  obtain ⟨rfl, rfl⟩ := q
  rw [hL_put]
  exact k
theorem x_and63 (x : Int32) : ∃ k, k ≤ 63 ∧ x &&& nI 63 = nI k := by
  refine ⟨(x &&& nI 63).toBitVec.toNat, ?_, ?_⟩
  · rw [Int32.toBitVec_and, BitVec.toNat_and]
    exact Nat.le_trans Nat.and_le_right (by decide)
  · apply Int32.toBitVec_inj.mp
    show (x &&& nI 63).toBitVec = BitVec.ofNat 32 _
    rw [BitVec.ofNat_toNat]
    simp
theorem x_room {N i : Nat} (hN : N ≤ 2048) (hi : i ≤ 4096) (h : ¬ nI N - nI 4 < nI i) : i + 4 ≤ N := by
  rw [Int32.lt_iff_toInt_lt, Int32.toInt_sub, nI_toInt (by omega), nI_toInt (by omega), nI_toInt (by omega)] at h
  have : ((N : Int) - (4 : Nat)).bmod (2 ^ 32) = (N : Int) - 4 := by
    rw [Int.bmod_eq_of_le] <;> omega
  omega
theorem nI_code {code : Nat} (h : code ≤ 3) (hz : nI code = 0) : code = 0 := (nI_eq (b := 0) (by omega) (by decide)).mp hz
