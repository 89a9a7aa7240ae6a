/-! SHARES: what is true of the numbers -/
/-- a double of a biased exponent and a row of digits -/
def dD (e t : Nat) : UInt64 := UInt64.ofNat (e * 4503599627370496 + t)
set_option maxRecDepth 20000 in
theorem dD_nat {e t : Nat} (he : e < 2047) (ht : t < 4503599627370496) : (dD e t).toNat = e * 4503599627370496 + t := by
  unfold dD
  rw [UInt64.toNat_ofNat', Nat.mod_eq_of_lt]
  have : (2 : Nat) ^ 64 = 18446744073709551616 := by decide
  omega
set_option maxRecDepth 20000 in
theorem dD_val {e t : Nat} (h0 : 1 ≤ e) (he : e < 2047) (ht : t < 4503599627370496) : FP.Core.val64 (dD e t) = .fin false (4503599627370496 + t) ((e : Int) - 1075) := by
  have hx : FP.Core.b64.exps = 2048 := by decide
  have htl : FP.Core.b64.tails = 4503599627370496 := by decide
  have hq : FP.Core.b64.qmin = -1074 := by decide
  unfold FP.Core.val64
  rw [dD_nat he ht, show e * 4503599627370496 + t = FP.Core.assemble FP.Core.b64 false e t by unfold FP.Core.assemble; rw [htl]; simp, FP.Core.decode_assemble _ _ _ _ (by rw [hx]; omega) (by rw [htl]; exact ht), hx, htl, hq,
    if_neg (by omega), if_neg (by omega)]
  congr 1
  omega
set_option maxRecDepth 20000 in
theorem vn_of {a : UInt64} (h : FP.Core.val64 a ≠ .nan) : vf_n64 a := by
  have h1 := (FP.Core.ne_nan a).mp h
  unfold vf_n64
  rw [UInt64.le_iff_toNat_le, UInt64.toNat_and]
  rw [show (0x7fffffffffffffff : UInt64).toNat = 2 ^ 63 - 1 by decide, Nat.and_two_pow_sub_one_eq_mod]
  exact h1
set_option maxRecDepth 20000 in
theorem dcmp_nat {a b : UInt64} (ha : a.toNat ≤ 9218868437227405312) (hb : b.toNat ≤ 9218868437227405312) : FP.dcmp a b = some (compare (a.toNat : Int) (b.toNat : Int)) := by
  have h63 : (2 : Nat) ^ 63 = 9223372036854775808 := by decide
  have hk : ∀ {n : Nat}, n ≤ 9218868437227405312 → FP.Core.key FP.Core.b64 n = (n : Int) := fun {n} h => by
    unfold FP.Core.key FP.Core.signed
    rw [FP.Core.half_b64, decide_eq_false (by omega)]
    unfold FP.Core.mag
    rw [FP.Core.half_b64, Nat.mod_eq_of_lt (by omega)]
    rfl
  have hn : ∀ {a : UInt64}, a.toNat ≤ 9218868437227405312 → FP.Core.decode FP.Core.b64 a.toNat ≠ .nan := fun {a} h => (FP.Core.ne_nan a).mpr (by rw [Nat.mod_eq_of_lt (by omega)]; exact h)
  have h := FP.Core.cmp_key FP.Core.good_b64 (FP.Core.lt_full64 a) (FP.Core.lt_full64 b) (hn ha) (hn hb)
  rw [hk ha, hk hb] at h
  exact h
set_option maxRecDepth 20000 in
theorem cn_lt {a b : Nat} (h : a < b) : compare (a : Int) (b : Int) = .lt := Int.compare_eq_lt.mpr (by omega)
set_option maxRecDepth 20000 in
theorem cn_gt {a b : Nat} (h : b < a) : compare (a : Int) (b : Int) = .gt := Int.compare_eq_gt.mpr (by omega)
set_option maxRecDepth 20000 in
theorem cn_eq {a b : Nat} (h : a = b) : compare (a : Int) (b : Int) = .eq := Int.compare_eq_eq.mpr (by omega)
set_option maxRecDepth 20000 in
theorem r_wh {s : Nat} (hs : s < 2 ^ 31) : FP.Core.val64 (FP.i2d (nI s)) = FP.Core.roundRatio FP.Core.b64 false s 1 0 := by
  have h1 : (nI s).toInt = (s : Int) := by
    first
    | exact nI_toInt hs
    | (unfold nI; rw [Int32.toInt_ofNat_of_lt hs])
  have h2 := FP.Core.val64_i2d (nI s)
  rw [h1] at h2
  refine h2.trans ?_
  unfold FP.Core.ofInt FP.Core.round
  simp [decide_eq_false (show ¬ (s : Int) < 0 by omega)]
set_option maxRecDepth 20000 in
theorem r_ex {s : Nat} (hs : s < 2 ^ 53) : ∃ (c : Nat) (q : Int), FP.Core.roundRatio FP.Core.b64 false s 1 0 = .fin false c q ∧ -1074 ≤ q ∧ c * 2 ^ (q + 1074).toNat = s * 2 ^ 1074 := by
  have hq : FP.Core.b64.qmin = -1074 := by decide
  obtain ⟨c, q, h1, h2⟩ := FP.Core.round_exact FP.Core.good_b64 false (c := s) (q := 0) hs (by rw [hq]; decide) (by decide)
  have h3 := FP.Core.roundRatio_fits FP.Core.good_b64 false s (B := 1) (by decide) 0
  have h1' : FP.Core.roundRatio FP.Core.b64 false s 1 0 = .fin false c q := h1
  rw [h1'] at h3
  have h4 := h3.2.1
  rw [hq] at h4
  refine ⟨c, q, h1', h4, ?_⟩
  unfold FP.Core.inUnits at h2
  rw [hq, show (q - -1074).toNat = (q + 1074).toNat by congr 1, show ((0 : Int) - -1074).toNat = 1074 by decide] at h2
  exact h2
set_option maxRecDepth 20000 in
theorem r_quot {l s : Nat} (h0 : 0 < s) (hl : l < 2 ^ 31) (hs : s < 2 ^ 31) : FP.Core.val64 (FP.ddiv (FP.i2d (nI l)) (FP.i2d (nI s))) = FP.Core.roundRatio FP.Core.b64 false l s 0 := by
  have h1 := FP.Core.val64_ddiv (FP.i2d (nI l)) (FP.i2d (nI s))
  rw [r_wh hl, r_wh hs] at h1
  obtain ⟨cl, ql, l1, l2, l3⟩ := r_ex (s := l) (by omega)
  obtain ⟨cs, qs, s1, s2, s3⟩ := r_ex (s := s) (by omega)
  rw [l1, s1] at h1
  have hcs : 0 < cs := by
    rcases Nat.eq_zero_or_pos cs with h | h
    · rw [h, Nat.zero_mul] at s3
      have := Nat.mul_pos h0 (Nat.two_pow_pos 1074)
      omega
    · exact h
  refine h1.trans ?_
  show (if cs = 0 then _ else FP.Core.roundRatio FP.Core.b64 (false != false) cl cs (ql - qs)) = _
  rw [if_neg (by omega)]
  refine FP.Core.roundRatio_congr hcs h0 ?_
  have hL : cl * s * 2 ^ (ql + 1074).toNat = l * cs * 2 ^ (qs + 1074).toNat := by
    refine Nat.eq_of_mul_eq_mul_right (Nat.two_pow_pos 1074) ?_
    calc cl * s * 2 ^ (ql + 1074).toNat * 2 ^ 1074 = (cl * 2 ^ (ql + 1074).toNat) * (s * 2 ^ 1074) := by ac_rfl
      _ = (l * 2 ^ 1074) * (cs * 2 ^ (qs + 1074).toNat) := by rw [l3, s3]
      _ = l * cs * 2 ^ (qs + 1074).toNat * 2 ^ 1074 := by ac_rfl
  by_cases hq : qs ≤ ql
  · rw [show (ql - qs - 0).toNat = (ql - qs).toNat by congr 1; omega, show (0 - (ql - qs)).toNat = 0 by omega, Nat.pow_zero, Nat.mul_one]
    rw [show (ql + 1074).toNat = (ql - qs).toNat + (qs + 1074).toNat by omega, Nat.pow_add, ← Nat.mul_assoc] at hL
    exact Nat.eq_of_mul_eq_mul_right (Nat.two_pow_pos _) hL
  · rw [show (ql - qs - 0).toNat = 0 by omega, show (0 - (ql - qs)).toNat = (qs - ql).toNat by congr 1; omega, Nat.pow_zero, Nat.mul_one]
    rw [show (qs + 1074).toNat = (qs - ql).toNat + (ql + 1074).toNat by omega, Nat.pow_add, ← Nat.mul_assoc] at hL
    exact Nat.eq_of_mul_eq_mul_right (Nat.two_pow_pos _) hL
set_option maxRecDepth 20000 in
theorem g_quot {l s : Nat} (hl : 0 < l) (hls : l ≤ s) (hs : s < 2 ^ 31) : ∃ e t, 992 ≤ e ∧ e ≤ 1023 ∧ t < 4503599627370496 ∧ FP.ddiv (FP.i2d (nI l)) (FP.i2d (nI s)) = dD e t := by
  have hq : FP.Core.b64.qmin = -1074 := by decide
  have htl : FP.Core.b64.tails = 2 ^ 52 := by decide
  have h1 := r_quot (l := l) (s := s) (by omega) (by omega) hs
  generalize hx : FP.ddiv (FP.i2d (nI l)) (FP.i2d (nI s)) = x at h1 ⊢
  have hnn : FP.Core.val64 x ≠ .nan := by rw [h1]; exact FP.Core.roundRatio_ne_nan _ _ _ _ _
  have hsg := FP.Core.sgn_bits hnn
  rw [h1, FP.Core.sgn_roundRatio] at hsg
  have h63 : x.toNat < 2 ^ 63 := by
    rcases Nat.lt_or_ge x.toNat (2 ^ 63) with h | h
    · exact h
    · rw [decide_eq_true h] at hsg; cases hsg
  have hu : ∀ K, 1 ≤ K → FP.Core.unitsOf FP.Core.b64 (K * 4503599627370496) = 2 ^ 52 * 2 ^ (K - 1) := fun K hK => by
    have := FP.Core.unitsOf_start (f := FP.Core.b64) hK
    rw [htl] at this
    exact this
  have hin : FP.Core.inUnits l 0 (-1074) = l * 2 ^ 1074 := by unfold FP.Core.inUnits; rfl
  have a1 : FP.Core.mag FP.Core.b64 x.toNat ≤ 1023 * 4503599627370496 := by
    refine FP.Core.mag_le FP.Core.good_b64 (e0 := -1074) (show FP.Core.decode FP.Core.b64 x.toNat = _ from h1) (by omega) (by rw [hq]; decide) (by decide) ?_
    rw [hin, hu _ (by decide), hq, show ((-1074 : Int) - -1074).toNat = 0 by decide, Nat.pow_zero, Nat.mul_one, ← Nat.pow_add, show 52 + (1023 - 1) = 1074 by decide, Nat.mul_comm]
    exact Nat.mul_le_mul_left _ hls
  have a2 : 992 * 4503599627370496 ≤ FP.Core.mag FP.Core.b64 x.toNat := by
    refine FP.Core.mag_ge FP.Core.good_b64 (e0 := -1074) (show FP.Core.decode FP.Core.b64 x.toNat = _ from h1) (by omega) (by rw [hq]; decide) (by decide) (by rw [FP.Core.infBits_b64]; decide) ?_
    rw [hin, hu _ (by decide), hq, show ((-1074 : Int) - -1074).toNat = 0 by decide, Nat.pow_zero, Nat.mul_one, ← Nat.pow_add, show 52 + (992 - 1) = 1043 by decide, Nat.mul_comm, show (1074 : Nat) = 31 + 1043 by decide, Nat.pow_add, ← Nat.mul_assoc]
    refine Nat.mul_le_mul_right _ ?_
    have : 2 ^ 31 ≤ l * 2 ^ 31 := Nat.le_mul_of_pos_left _ hl
    omega
  rw [FP.Core.mag_toNat64, Nat.mod_eq_of_lt h63] at a1 a2
  refine ⟨x.toNat / 4503599627370496, x.toNat % 4503599627370496, ?_, ?_, Nat.mod_lt _ (by decide), ?_⟩
  · omega
  · omega
  · apply UInt64.toNat.inj
    rw [dD_nat (by omega) (Nat.mod_lt _ (by decide))]
    omega
set_option maxRecDepth 20000 in
theorem g_zero {s : Nat} (h0 : 0 < s) (hs : s < 2 ^ 31) : FP.ddiv (FP.i2d (nI 0)) (FP.i2d (nI s)) = FP.dconst0 := by
  have h1 := r_quot (l := 0) (s := s) h0 (by decide) hs
  have h2 : FP.Core.val64 (FP.ddiv (FP.i2d (nI 0)) (FP.i2d (nI s))) = FP.Core.val64 FP.dconst0 := h1.trans (FP.Core.val64_dconst0.symm ▸ rfl)
  exact FP.Core.val64_inj (by rw [h1]; exact FP.Core.roundRatio_ne_nan _ _ _ _ _) h2
set_option maxRecDepth 20000 in
theorem g_nn {e t : Nat} (he : e ≤ 1023) (ht : t < 4503599627370496) : vf_n64 (dD e t) := by
  refine vn_of ((FP.Core.ne_nan _).mpr ?_)
  have h63 : (2 : Nat) ^ 63 = 9223372036854775808 := by decide
  rw [dD_nat (by omega) ht, Nat.mod_eq_of_lt (by omega)]
  omega
set_option maxRecDepth 20000 in
theorem g_pos {e t : Nat} (h0 : 992 ≤ e) (he : e ≤ 1023) (ht : t < 4503599627370496) : FP.dcmp (dD e t) FP.dconst0 = some .gt := by
  have h := dD_nat (e := e) (t := t) (by omega) ht
  have hb : FP.dconst0.toNat = 0 := by decide
  rw [dcmp_nat (by omega) (by omega), h, hb, cn_gt (by omega)]
set_option maxRecDepth 20000 in
theorem g_lt {e t : Nat} (h0 : 992 ≤ e) (he : e < 1023) (ht : t < 4503599627370496) : FP.dcmp (dD e t) FP.dconst1 = some .lt := by
  have h := dD_nat (e := e) (t := t) (by omega) ht
  have hb : FP.dconst1.toNat = 4607182418800017408 := by decide
  rw [dcmp_nat (by omega) (by omega), h, hb, cn_lt (by omega)]
set_option maxRecDepth 20000 in
theorem g_ge {t : Nat} (ht : t < 4503599627370496) : FP.dcmp (dD 1023 t) FP.dconst1 = some .eq ∨ FP.dcmp (dD 1023 t) FP.dconst1 = some .gt := by
  have h := dD_nat (e := 1023) (t := t) (by omega) ht
  have hb : FP.dconst1.toNat = 4607182418800017408 := by decide
  rw [dcmp_nat (by omega) (by omega), h, hb]
  rcases Nat.eq_zero_or_pos t with h9 | h9
  · left
    rw [cn_eq (by omega)]
  · right
    rw [cn_gt (by omega)]
set_option maxRecDepth 20000 in
theorem g_self {e t : Nat} (h0 : 992 ≤ e) (he : e ≤ 1023) (ht : t < 4503599627370496) : FP.dcmp (dD e t) (dD e t) = some .eq := by
  refine FP.Core.dcmp_self ?_
  rw [dD_val (by omega) (by omega) ht]
  exact FP.Core.Datum.noConfusion
set_option maxRecDepth 20000 in
theorem g_two {e t : Nat} (h0 : 992 ≤ e) (he : e < 1023) (ht : t < 4503599627370496) : FP.dmul (dD e t) 4611686018427387904 = dD (e + 1) t := by
  have h1 := FP.Core.val64_dmul (dD e t) 4611686018427387904
  have h2 : FP.Core.val64 4611686018427387904 = .fin false (4503599627370496 + 0) (((1024 : Nat) : Int) - 1075) := by
    have := dD_val (e := 1024) (t := 0) (by decide) (by decide) (by decide)
    rw [show dD 1024 0 = 4611686018427387904 by decide] at this
    exact this
  rw [h2, dD_val (by omega) (by omega) ht] at h1
  have h3 : FP.Core.val64 (FP.dmul (dD e t) 4611686018427387904) = .fin false (4503599627370496 + t) (((e + 1 : Nat) : Int) - 1075) := by
    refine h1.trans ?_
    show FP.Core.roundRatio FP.Core.b64 (false != false) ((4503599627370496 + t) * (4503599627370496 + 0)) 1 _ = _
    refine FP.Core.roundRatio_exact FP.Core.good_b64 (by decide) ⟨?_, ?_, ?_, Or.inr ?_⟩ ?_
    · have : (2 : Nat) ^ FP.Core.b64.p = 9007199254740992 := by decide
      omega
    · have : FP.Core.b64.qmin = -1074 := by decide
      omega
    · have : FP.Core.b64.qmax = 971 := by decide
      omega
    · have : FP.Core.b64.tails = 4503599627370496 := by decide
      omega
    · rw [show ((e : Int) - 1075 + (((1024 : Nat) : Int) - 1075) - (((e + 1 : Nat) : Int) - 1075)).toNat = 0 by omega, show ((((e + 1 : Nat) : Int) - 1075) - ((e : Int) - 1075 + (((1024 : Nat) : Int) - 1075))).toNat = 52 by omega]
      rw [Nat.pow_zero, Nat.mul_one, Nat.mul_one]
  exact FP.Core.val64_inj (by rw [h3]; exact FP.Core.Datum.noConfusion) (h3.trans (dD_val (by omega) (by omega) ht).symm)
set_option maxRecDepth 20000 in
theorem g_end {t : Nat} (ht : t < 4503599627370496) : vf_n64 (FP.dsub (dD 1023 t) FP.dconst1) ∧ vf_n64 (FP.dmul (FP.dsub (dD 1023 t) FP.dconst1) 4841369599423283200) ∧ FP.d2l (FP.dmul (FP.dsub (dD 1023 t) FP.dconst1) 4841369599423283200) = Int64.ofNat t := by
  have hq : FP.Core.b64.qmin = -1074 := by decide
  have h1 := FP.Core.val64_dsub (dD 1023 t) FP.dconst1
  have hc : FP.Core.val64 FP.dconst1 = .fin false (4503599627370496 + 0) (((1023 : Nat) : Int) - 1075) := by
    have := dD_val (e := 1023) (t := 0) (by decide) (by decide) (by decide)
    rw [show dD 1023 0 = FP.dconst1 by decide] at this
    exact this
  have hm : FP.Core.val64 4841369599423283200 = .fin false (4503599627370496 + 0) (((1075 : Nat) : Int) - 1075) := by
    have := dD_val (e := 1075) (t := 0) (by decide) (by decide) (by decide)
    rw [show dD 1075 0 = 4841369599423283200 by decide] at this
    exact this
  rw [hc, dD_val (by omega) (by omega) ht] at h1
  have h2 : FP.Core.exactSum (.fin false (4503599627370496 + t) (((1023 : Nat) : Int) - 1075)) (FP.Core.negate (.fin false (4503599627370496 + 0) (((1023 : Nat) : Int) - 1075))) = .fin false t (-52) := by
    show FP.Core.Datum.fin (FP.Core.sumSign false (!false) (FP.Core.sumUnits false (4503599627370496 + t) (((1023 : Nat) : Int) - 1075) (!false) (4503599627370496 + 0) (((1023 : Nat) : Int) - 1075) (min (((1023 : Nat) : Int) - 1075) (((1023 : Nat) : Int) - 1075)))) (FP.Core.sumUnits false (4503599627370496 + t) (((1023 : Nat) : Int) - 1075) (!false) (4503599627370496 + 0) (((1023 : Nat) : Int) - 1075) (min (((1023 : Nat) : Int) - 1075) (((1023 : Nat) : Int) - 1075))).natAbs (min (((1023 : Nat) : Int) - 1075) (((1023 : Nat) : Int) - 1075)) = _
    have hv : FP.Core.sumUnits false (4503599627370496 + t) (((1023 : Nat) : Int) - 1075) (!false) (4503599627370496 + 0) (((1023 : Nat) : Int) - 1075) (min (((1023 : Nat) : Int) - 1075) (((1023 : Nat) : Int) - 1075)) = (t : Int) := by
      unfold FP.Core.sumUnits FP.Core.signed FP.Core.inUnits
      simp
      omega
    rw [hv]
    have hsg : FP.Core.sumSign false (!false) (t : Int) = false := by
      unfold FP.Core.sumSign
      by_cases h : (t : Int) = 0
      · rw [if_pos h]; rfl
      · rw [if_neg h]; exact decide_eq_false (by omega)
    rw [hsg]
    rfl
  rw [h2] at h1
  have hp : (2 : Nat) ^ FP.Core.b64.p = 9007199254740992 := by decide
  obtain ⟨c, q, r1, r2⟩ := FP.Core.round_exact FP.Core.good_b64 false (c := t) (q := -52) (by omega) (by rw [hq]; decide) (by decide)
  have hf : FP.Core.fits FP.Core.b64 (.fin false c q) := by rw [← r1]; exact FP.Core.round_fits FP.Core.good_b64 _
  have hq1 : -1074 ≤ q := by have := hf.2.1; rw [hq] at this; exact this
  have h3 : FP.Core.val64 (FP.dsub (dD 1023 t) FP.dconst1) = .fin false c q := h1.trans r1
  unfold FP.Core.inUnits at r2
  rw [hq, show ((-52 : Int) - -1074).toNat = 1022 by decide] at r2
  have h4 := FP.Core.val64_dmul (FP.dsub (dD 1023 t) FP.dconst1) 4841369599423283200
  rw [h3, hm] at h4
  have h63 : (2 : Nat) ^ 63 = 9223372036854775808 := by decide
  have hI : (Int64.ofNat t).toInt = (t : Int) := Int64.toInt_ofNat_of_lt (by omega)
  have h5 : FP.Core.val64 (FP.dmul (FP.dsub (dD 1023 t) FP.dconst1) 4841369599423283200) = FP.Core.val64 (FP.l2d (Int64.ofNat t)) := by
    refine h4.trans ?_
    refine Eq.trans ?_ (FP.Core.val64_l2d (Int64.ofNat t)).symm
    rw [hI]
    unfold FP.Core.ofInt
    rw [decide_eq_false (show ¬ (t : Int) < 0 by omega)]
    show FP.Core.roundRatio FP.Core.b64 (false != false) (c * (4503599627370496 + 0)) 1 (q + (((1075 : Nat) : Int) - 1075)) = FP.Core.roundRatio FP.Core.b64 false t 1 0
    refine FP.Core.roundRatio_congr (by decide) (by decide) ?_
    have hL : c * (4503599627370496 + 0) * 2 ^ (q - -1074).toNat = t * 2 ^ 1074 := by
      rw [show c * (4503599627370496 + 0) * 2 ^ (q - -1074).toNat = (c * 2 ^ (q - -1074).toNat) * 2 ^ 52 by rw [show (4503599627370496 + 0 : Nat) = 2 ^ 52 by decide]; ac_rfl, r2, Nat.mul_assoc, ← Nat.pow_add]
    rw [Nat.mul_one, Nat.mul_one]
    by_cases h0 : 0 ≤ q
    · rw [show (q + (((1075 : Nat) : Int) - 1075) - 0).toNat = q.toNat by congr 1; omega, show (0 - (q + (((1075 : Nat) : Int) - 1075))).toNat = 0 by omega, Nat.pow_zero, Nat.mul_one]
      rw [show (q - -1074).toNat = q.toNat + 1074 by omega, Nat.pow_add, ← Nat.mul_assoc] at hL
      exact Nat.eq_of_mul_eq_mul_right (Nat.two_pow_pos _) hL
    · rw [show (q + (((1075 : Nat) : Int) - 1075) - 0).toNat = 0 by omega, show (0 - (q + (((1075 : Nat) : Int) - 1075))).toNat = (-q).toNat by congr 1; omega, Nat.pow_zero, Nat.mul_one]
      rw [show (1074 : Nat) = (-q).toNat + (q - -1074).toNat by omega, Nat.pow_add, ← Nat.mul_assoc] at hL
      exact Nat.eq_of_mul_eq_mul_right (Nat.two_pow_pos _) hL
  have hln : FP.Core.val64 (FP.l2d (Int64.ofNat t)) ≠ .nan := by
    intro h
    have := FP.Core.val64_l2d (Int64.ofNat t)
    rw [h] at this
    exact FP.Core.roundRatio_ne_nan _ _ _ _ _ this.symm
  refine ⟨vn_of (by rw [h3]; exact FP.Core.Datum.noConfusion), vn_of (by rw [h5]; exact hln), ?_⟩
  rw [FP.Core.val64_inj (by rw [h5]; exact hln) h5]
  refine FP.Core.d2l_l2d ?_
  rw [hI]
  have : (2 : Nat) ^ 53 = 9007199254740992 := by decide
  omega
