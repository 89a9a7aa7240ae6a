/-! SHARES: what is true of the numbers -/
/-- a double of a biased exponent and a row of digits -/
def dD (e t : Nat) : UInt64 := UInt64.ofNat (e * 4503599627370496 + t)
theorem g_quot {l s : Nat} (hl : 0 < l) (hls : l ≤ s) (hs : s < 2 ^ 31) : ∃ e t, 992 ≤ e ∧ e ≤ 1023 ∧ t < 4503599627370496 ∧ FP.ddiv (FP.i2d (nI l)) (FP.i2d (nI s)) = dD e t := sorry
theorem g_zero {s : Nat} (h0 : 0 < s) (hs : s < 2 ^ 31) : FP.ddiv (FP.i2d (nI 0)) (FP.i2d (nI s)) = FP.dconst0 := sorry
theorem g_nn {e t : Nat} (he : e ≤ 1023) (ht : t < 4503599627370496) : vf_n64 (dD e t) := sorry
theorem g_pos {e t : Nat} (h0 : 992 ≤ e) (he : e ≤ 1023) (ht : t < 4503599627370496) : FP.dcmp (dD e t) FP.dconst0 = some .gt := sorry
theorem g_lt {e t : Nat} (h0 : 992 ≤ e) (he : e < 1023) (ht : t < 4503599627370496) : FP.dcmp (dD e t) FP.dconst1 = some .lt := sorry
theorem g_ge {t : Nat} (ht : t < 4503599627370496) : FP.dcmp (dD 1023 t) FP.dconst1 = some .eq ∨ FP.dcmp (dD 1023 t) FP.dconst1 = some .gt := sorry
theorem g_self {e t : Nat} (h0 : 992 ≤ e) (he : e ≤ 1023) (ht : t < 4503599627370496) : FP.dcmp (dD e t) (dD e t) = some .eq := sorry
theorem g_two {e t : Nat} (h0 : 992 ≤ e) (he : e < 1023) (ht : t < 4503599627370496) : FP.dmul (dD e t) 4611686018427387904 = dD (e + 1) t := sorry
theorem g_end {t : Nat} (ht : t < 4503599627370496) : vf_n64 (FP.dsub (dD 1023 t) FP.dconst1) ∧ vf_n64 (FP.dmul (FP.dsub (dD 1023 t) FP.dconst1) 4841369599423283200) ∧ FP.d2l (FP.dmul (FP.dsub (dD 1023 t) FP.dconst1) 4841369599423283200) = Int64.ofNat t := sorry
