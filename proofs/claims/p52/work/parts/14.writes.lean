/-! WRITES OF THE CLASS'S WORLD -/
theorem upd_same {f : Nat → Int32} {i : Nat} {x : Int32} : upd f i x i = x := if_pos rfl
theorem upd_ne {f : Nat → Int32} {i j : Nat} {x : Int32} (h : j ≠ i) : upd f i x j = f j := if_neg h
theorem relC_sent {w : qw} {X : qm} (hR : RelC w X) {v : Nat} (x : Int32) (hx : x = nI v) : RelC (wt w 15 (fun _ => x)) (xs X 0 1 v) := by
  subst hx
  exact ⟨by simpa [wt, xs, xa, m_part, m_share, m_mask5, m_mask8] using rC0 hR, by simpa [wt, xs, xa, m_part, m_share, m_mask5, m_mask8] using rC1 hR, by simpa [wt, xs, xa, m_part, m_share, m_mask5, m_mask8] using rC2 hR, by simpa [wt, xs, xa, m_part, m_share, m_mask5, m_mask8] using rC3 hR, by simpa [wt, xs, xa, m_part, m_share, m_mask5, m_mask8] using rC4 hR, by simpa [wt, xs, xa, m_part, m_share, m_mask5, m_mask8] using rC5 hR, by simpa [wt, xs, xa, m_part, m_share, m_mask5, m_mask8] using rC6 hR, by simpa [wt, xs, xa, m_part, m_share, m_mask5, m_mask8] using rC7 hR, by simpa [wt, xs, xa, m_part, m_share, m_mask5, m_mask8] using rC8 hR, by simpa [wt, xs, xa, m_part, m_share, m_mask5, m_mask8] using rC9 hR, by simpa [wt, xs, xa, m_part, m_share, m_mask5, m_mask8] using rC10 hR, by simpa [wt, xs, xa, m_part, m_share, m_mask5, m_mask8] using rC11 hR, by simpa [wt, xs, xa, m_part, m_share, m_mask5, m_mask8] using rC12 hR, by simpa [wt, xs, xa, m_part, m_share, m_mask5, m_mask8] using rC13 hR, by simpa [wt, xs, xa, m_part, m_share, m_mask5, m_mask8] using rC14 hR, by simp [wt, xs], by simpa [wt, xs, xa, m_part, m_share, m_mask5, m_mask8] using rC16 hR, by simpa [wt, xs, xa, m_part, m_share, m_mask5, m_mask8] using rC17 hR⟩
theorem relC_lost {w : qw} {X : qm} (hR : RelC w X) {v : Nat} (x : Int32) (hx : x = nI v) : RelC (wt w 17 (fun _ => x)) (xs X 0 3 v) := by
  subst hx
  exact ⟨by simpa [wt, xs, xa, m_part, m_share, m_mask5, m_mask8] using rC0 hR, by simpa [wt, xs, xa, m_part, m_share, m_mask5, m_mask8] using rC1 hR, by simpa [wt, xs, xa, m_part, m_share, m_mask5, m_mask8] using rC2 hR, by simpa [wt, xs, xa, m_part, m_share, m_mask5, m_mask8] using rC3 hR, by simpa [wt, xs, xa, m_part, m_share, m_mask5, m_mask8] using rC4 hR, by simpa [wt, xs, xa, m_part, m_share, m_mask5, m_mask8] using rC5 hR, by simpa [wt, xs, xa, m_part, m_share, m_mask5, m_mask8] using rC6 hR, by simpa [wt, xs, xa, m_part, m_share, m_mask5, m_mask8] using rC7 hR, by simpa [wt, xs, xa, m_part, m_share, m_mask5, m_mask8] using rC8 hR, by simpa [wt, xs, xa, m_part, m_share, m_mask5, m_mask8] using rC9 hR, by simpa [wt, xs, xa, m_part, m_share, m_mask5, m_mask8] using rC10 hR, by simpa [wt, xs, xa, m_part, m_share, m_mask5, m_mask8] using rC11 hR, by simpa [wt, xs, xa, m_part, m_share, m_mask5, m_mask8] using rC12 hR, by simpa [wt, xs, xa, m_part, m_share, m_mask5, m_mask8] using rC13 hR, by simpa [wt, xs, xa, m_part, m_share, m_mask5, m_mask8] using rC14 hR, by simpa [wt, xs, xa, m_part, m_share, m_mask5, m_mask8] using rC15 hR, by simpa [wt, xs, xa, m_part, m_share, m_mask5, m_mask8] using rC16 hR, by simp [wt, xs]⟩
theorem relC_handled {w : qw} {X : qm} (hR : RelC w X) {v : Nat} (x : Int32) (hx : x = nI v) : RelC (wt w 16 (fun _ => x)) (xs X 0 2 v) := by
  subst hx
  exact ⟨by simpa [wt, xs, xa, m_part, m_share, m_mask5, m_mask8] using rC0 hR, by simpa [wt, xs, xa, m_part, m_share, m_mask5, m_mask8] using rC1 hR, by simpa [wt, xs, xa, m_part, m_share, m_mask5, m_mask8] using rC2 hR, by simpa [wt, xs, xa, m_part, m_share, m_mask5, m_mask8] using rC3 hR, by simpa [wt, xs, xa, m_part, m_share, m_mask5, m_mask8] using rC4 hR, by simpa [wt, xs, xa, m_part, m_share, m_mask5, m_mask8] using rC5 hR, by simpa [wt, xs, xa, m_part, m_share, m_mask5, m_mask8] using rC6 hR, by simpa [wt, xs, xa, m_part, m_share, m_mask5, m_mask8] using rC7 hR, by simpa [wt, xs, xa, m_part, m_share, m_mask5, m_mask8] using rC8 hR, by simpa [wt, xs, xa, m_part, m_share, m_mask5, m_mask8] using rC9 hR, by simpa [wt, xs, xa, m_part, m_share, m_mask5, m_mask8] using rC10 hR, by simpa [wt, xs, xa, m_part, m_share, m_mask5, m_mask8] using rC11 hR, by simpa [wt, xs, xa, m_part, m_share, m_mask5, m_mask8] using rC12 hR, by simpa [wt, xs, xa, m_part, m_share, m_mask5, m_mask8] using rC13 hR, by simpa [wt, xs, xa, m_part, m_share, m_mask5, m_mask8] using rC14 hR, by simpa [wt, xs, xa, m_part, m_share, m_mask5, m_mask8] using rC15 hR, by simp [wt, xs], by simpa [wt, xs, xa, m_part, m_share, m_mask5, m_mask8] using rC17 hR⟩
theorem relC_wn {w : qw} {X : qm} (hR : RelC w X) : RelC (wt w 14 (fun _ => nI (X.1 0 4))) X := by
  exact ⟨by simpa [wt] using rC0 hR, by simpa [wt] using rC1 hR, by simpa [wt] using rC2 hR, by simpa [wt] using rC3 hR, by simpa [wt] using rC4 hR, by simpa [wt] using rC5 hR, by simpa [wt] using rC6 hR, by simpa [wt] using rC7 hR, by simpa [wt] using rC8 hR, by simpa [wt] using rC9 hR, by simpa [wt] using rC10 hR, by simpa [wt] using rC11 hR, by simpa [wt] using rC12 hR, by simpa [wt] using rC13 hR, by simp [wt], by simpa [wt] using rC15 hR, by simpa [wt] using rC16 hR, by simpa [wt] using rC17 hR⟩
theorem relC_msg {w : qw} {X : qm} (hR : RelC w X) {v : Nat} : RelC (wt (wt w 13 (upd (w 13) (X.1 0 4) (nI v))) 14 (fun _ => nI (X.1 0 4 + 1))) (xs (xs X 12 (X.1 0 4) v) 0 4 (X.1 0 4 + 1)) := by
  exact ⟨by simpa [wt, xs, xa, m_part, m_share, m_mask5, m_mask8] using rC0 hR, by simpa [wt, xs, xa, m_part, m_share, m_mask5, m_mask8] using rC1 hR, by simpa [wt, xs, xa, m_part, m_share, m_mask5, m_mask8] using rC2 hR, by simpa [wt, xs, xa, m_part, m_share, m_mask5, m_mask8] using rC3 hR, by simpa [wt, xs, xa, m_part, m_share, m_mask5, m_mask8] using rC4 hR, by simpa [wt, xs, xa, m_part, m_share, m_mask5, m_mask8] using rC5 hR, by simpa [wt, xs, xa, m_part, m_share, m_mask5, m_mask8] using rC6 hR, by simpa [wt, xs, xa, m_part, m_share, m_mask5, m_mask8] using rC7 hR, by simpa [wt, xs, xa, m_part, m_share, m_mask5, m_mask8] using rC8 hR, by simpa [wt, xs, xa, m_part, m_share, m_mask5, m_mask8] using rC9 hR, by simpa [wt, xs, xa, m_part, m_share, m_mask5, m_mask8] using rC10 hR, by simpa [wt, xs, xa, m_part, m_share, m_mask5, m_mask8] using rC11 hR, by simpa [wt, xs, xa, m_part, m_share, m_mask5, m_mask8] using rC12 hR, fun k hk => by
      simp only [wt, xs] at hk ⊢
      simp at hk
      by_cases h1 : k = X.1 0 4
      · subst h1; simp [upd]
      · have h2 := rC13 hR k (by omega)
        simp [upd, h1, h2], by simp [wt, xs], by simpa [wt, xs, xa, m_part, m_share, m_mask5, m_mask8] using rC15 hR, by simpa [wt, xs, xa, m_part, m_share, m_mask5, m_mask8] using rC16 hR, by simpa [wt, xs, xa, m_part, m_share, m_mask5, m_mask8] using rC17 hR⟩
theorem relC_sendA {w : qw} {X : qm} (hR : RelC w X) (k t s : Nat) (h : X.1 0 4 < 60) : RelC (wt (wt (wt w 15 (fun _ => nI (X.1 0 1 + 1))) 13 (upd (w 13) (X.1 0 4) (nI (32 * k + 4 * t + s)))) 14 (fun _ => nI (X.1 0 4 + 1))) (m_send X k t s) := by
  rw [m_send, if_pos h]
  exact relC_msg (relC_sent hR (v := X.1 0 1 + 1) _ rfl)
theorem relC_sendB {w : qw} {X : qm} (hR : RelC w X) (k t s : Nat) (h : ¬ X.1 0 4 < 60) : RelC (wt (wt (wt w 14 (fun _ => nI (X.1 0 4))) 15 (fun _ => nI (X.1 0 1 + 1))) 17 (fun _ => nI (X.1 0 3 + 1))) (m_send X k t s) := by
  rw [m_send, if_neg h]
  exact relC_lost (relC_sent (relC_wn hR) (v := X.1 0 1 + 1) _ rfl) _ rfl
theorem m_send_wn {X : qm} (k t s : Nat) (h : X.1 0 4 ≤ 60) : (m_send X k t s).1 0 4 ≤ 60 := by
  unfold m_send
  split <;> simp [xs] <;> omega
theorem m_sendN_wn {X : qm} (k t m n : Nat) (h : X.1 0 4 ≤ 60) : (m_sendN X k t m n).1 0 4 ≤ 60 := by
  induction n with
  | zero => exact h
  | succ n ih =>
    rw [m_sendN]
    split
    · exact m_send_wn _ _ _ ih
    · exact ih
set_option maxRecDepth 20000 in
set_option maxHeartbeats 4000000 in
theorem w_send (h : qB) (b : Fin 16) (w : qw) (X : qm) (hR : RelC w X) (hwn0 : X.1 0 4 ≤ 60) {kd t mk : Nat} (hk : kd < 7) (ht : t < 8) (hm : mk < 16) : CtV mX1_send 0 [qR b 0, qI (nI kd), qI (nI t), qI (nI mk)] (q_put h b (wblk b w)) (fun h2 => ∃ w', RelC w' (m_sendN X kd t mk 4) ∧ h2 = q_put h b (wblk b w')) := by
  refine ct_of (by decide +kernel) rfl rfl (Nat.le_of_ble_eq_true rfl) ?_
  show Ev mX1_send 0 0 [some (qR b 0), some (qI (nI kd)), some (qI (nI t)), some (qI (nI mk)), none] [] 124 (q_put h b (wblk b w)) 0 0 _ _
  refine e_iconst (z := 0) dX1_send_0 ?_
  refine e_istore4 dX1_send_1 rfl (by decide) ?_
  have H : ∀ (m i : Nat) (w : qw), i ≤ 4 → m = 4 - i → RelC w (m_sendN X kd t mk i) → Ev mX1_send 0 3 [some (qR b 0), some (qI (nI kd)), some (qI (nI t)), some (qI (nI mk)), some (qI (nI i))] [] 124 (q_put h b (wblk b w)) 0 0 (fun r n h' => r = none ∧ n = 124 ∧ ((fun h2 => ∃ w', RelC w' (m_sendN X kd t mk 4) ∧ h2 = q_put h b (wblk b w'))) h') qNo := by
    intro m
    induction m using Nat.strongRecOn with
    | _ m ih =>
    intro i w hi hm0 hw
    refine e_iload4 dX1_send_3 ?_
    refine e_iconst (z := 4) dX1_send_5 ?_
    first | refine e_icmp_geN 86 dX1_send_6 (by decide) (by omega) (by omega) (fun hc6 => ?_) (fun hc6 => ?_) | refine e_icmp_ge 86 dX1_send_6 (by decide) (fun hc6 => ?_) (fun hc6 => ?_)
    · obtain rfl : i = 4 := by omega
      refine e_vret dX1_send_86 rfl ?_
      exact ⟨rfl, rfl, w, hw, rfl⟩
    · refine e_iload3 dX1_send_9 ?_
      refine e_iload4 dX1_send_10 ?_
      refine e_ishr dX1_send_12 ?_
      refine e_iconst (z := 1) dX1_send_13 ?_
      refine e_iand dX1_send_14 ?_
      refine e_iconst (z := 1) dX1_send_15 ?_
      rw [b_msk _ hm _ (by omega)]
      first | refine e_icmp_neN 80 dX1_send_16 (by decide) (by omega) (by omega) (fun hc16 => ?_) (fun hc16 => ?_) | refine e_icmp_ne 80 dX1_send_16 (by decide) (fun hc16 => ?_) (fun hc16 => ?_)
      · first | refine e_iinc4N (z := 1) dX1_send_80 rfl (by decide) ?_ | refine e_iinc4 dX1_send_80 rfl rfl (by decide) ?_
        refine e_goto 3 dX1_send_83 (by decide) ?_
        first
          | exact ih _ (by omega) (i + 1) _ (by omega) rfl (by rw [m_sendN, if_neg hc16]; exact hw)
          | exact ih _ (by omega) (i + 1) _ (by omega) rfl (by rw [m_sendN, if_pos hc16]; exact relC_sendA hw kd t i (by omega))
          | exact ih _ (by omega) (i + 1) _ (by omega) rfl (by rw [m_sendN, if_pos hc16]; exact relC_sendB hw kd t i (by omega))
      · refine e_aload0 dX1_send_19 ?_
        refine e_dup dX1_send_20 rfl ?_
        refine e_getfieldF flX1_64 dX1_send_21 rfl rfl ?_
        try rw [rC15 hw]
        refine e_iconst (z := 1) dX1_send_24 ?_
        first | refine e_iaddN dX1_send_25 ?_ | refine e_iadd dX1_send_25 ?_
        refine e_putfieldF flX1_64 dX1_send_26 rfl (Nat.le_of_ble_eq_true rfl) (fun _ => rfl) (fun _ => rfl) ?_
        refine e_aload0 dX1_send_29 ?_
        refine e_getfieldF flX1_61 dX1_send_30 rfl rfl ?_
        try rw [rC14 hw]
        have hwn := m_sendN_wn kd t mk i hwn0
        refine e_bipush (v := nI 60) dX1_send_33 (by decide) ?_
        first | refine e_icmp_geN 70 dX1_send_35 (by decide) (by omega) (by omega) (fun hc35 => ?_) (fun hc35 => ?_) | refine e_icmp_ge 70 dX1_send_35 (by decide) (fun hc35 => ?_) (fun hc35 => ?_)
        · refine e_aload0 dX1_send_70 ?_
          refine e_dup dX1_send_71 rfl ?_
          refine e_getfieldF flX1_70 dX1_send_72 rfl rfl ?_
          try rw [rC17 hw]
          refine e_iconst (z := 1) dX1_send_75 ?_
          first | refine e_iaddN dX1_send_76 ?_ | refine e_iadd dX1_send_76 ?_
          refine e_putfieldF flX1_70 dX1_send_77 rfl (Nat.le_of_ble_eq_true rfl) (fun _ => rfl) (fun _ => rfl) ?_
          first | refine e_iinc4N (z := 1) dX1_send_80 rfl (by decide) ?_ | refine e_iinc4 dX1_send_80 rfl rfl (by decide) ?_
          refine e_goto 3 dX1_send_83 (by decide) ?_
          first
            | exact ih _ (by omega) (i + 1) _ (by omega) rfl (by rw [m_sendN, if_neg hc16]; exact hw)
            | exact ih _ (by omega) (i + 1) _ (by omega) rfl (by rw [m_sendN, if_pos hc16]; exact relC_sendA hw kd t i (by omega))
            | exact ih _ (by omega) (i + 1) _ (by omega) rfl (by rw [m_sendN, if_pos hc16]; exact relC_sendB hw kd t i (by omega))
        · refine e_aload0 dX1_send_38 ?_
          refine e_getfieldF flX1_42 dX1_send_39 rfl rfl ?_
          refine e_aload0 dX1_send_42 ?_
          refine e_getfieldF flX1_61 dX1_send_43 rfl rfl ?_
          try rw [rC14 hw]
          refine e_iload1 dX1_send_46 ?_
          refine e_iconst (z := 5) dX1_send_47 ?_
          refine e_ishl dX1_send_48 ?_
          refine e_iload2 dX1_send_49 ?_
          refine e_iconst (z := 2) dX1_send_50 ?_
          refine e_ishl dX1_send_51 ?_
          refine e_ior dX1_send_52 ?_
          refine e_iload4 dX1_send_53 ?_
          refine e_ior dX1_send_55 ?_
          rw [b_msg _ hk _ ht _ (by omega)]
          refine e_iastoreN dX1_send_56 rfl (by omega) (by decide) ?_
          refine e_aload0 dX1_send_57 ?_
          refine e_dup dX1_send_58 rfl ?_
          refine e_getfieldF flX1_61 dX1_send_59 rfl rfl ?_
          try rw [rC14 hw]
          refine e_iconst (z := 1) dX1_send_62 ?_
          first | refine e_iaddN dX1_send_63 ?_ | refine e_iadd dX1_send_63 ?_
          refine e_putfieldF flX1_61 dX1_send_64 rfl (Nat.le_of_ble_eq_true rfl) (fun _ => rfl) (fun _ => rfl) ?_
          refine e_goto 80 dX1_send_67 (by decide) ?_
          first | refine e_iinc4N (z := 1) dX1_send_80 rfl (by decide) ?_ | refine e_iinc4 dX1_send_80 rfl rfl (by decide) ?_
          refine e_goto 3 dX1_send_83 (by decide) ?_
          first
            | exact ih _ (by omega) (i + 1) _ (by omega) rfl (by rw [m_sendN, if_neg hc16]; exact hw)
            | exact ih _ (by omega) (i + 1) _ (by omega) rfl (by rw [m_sendN, if_pos hc16]; exact relC_sendA hw kd t i (by omega))
            | exact ih _ (by omega) (i + 1) _ (by omega) rfl (by rw [m_sendN, if_pos hc16]; exact relC_sendB hw kd t i (by omega))
  exact H _ 0 w (Nat.zero_le _) rfl hR
theorem m_sendN_one (X : qm) (kd t : Nat) {s : Nat} (hs : s < 4) : m_sendN X kd t (2 ^ s) 4 = m_send X kd t s := by
  rcases (show s = 0 ∨ s = 1 ∨ s = 2 ∨ s = 3 by omega) with rfl | rfl | rfl | rfl <;> simp [m_sendN]
theorem b_one : ∀ s, s < 4 → nI 1 <<< (nI s &&& 31) = nI (2 ^ s) := by decide +kernel
theorem b_two : ∀ s, s < 4 → 2 ^ s < 16 := by decide +kernel
theorem b_or : ∀ a, a < 16 → ∀ s, s < 4 → nI a ||| (nI 1 <<< (nI s &&& 31)) = nI (a ||| 2 ^ s) := by decide +kernel
theorem b_dn : ∀ m, m < 32 → ∀ k, k < 5 → nI m &&& ((nI 1 <<< (nI k &&& 31)) ^^^ (-1)) = nI (m - m / 2 ^ k % 2 * 2 ^ k) := by decide +kernel
theorem b_uu : ∀ m, m < 32 → ∀ k, k < 5 → nI m ||| (nI 1 <<< (nI k &&& 31)) = nI (m + (1 - m / 2 ^ k % 2) * 2 ^ k) := by decide +kernel
theorem b_ee : ∀ m, m < 256 → ∀ k, k < 8 → nI m ||| (nI 1 <<< (nI k &&& 31)) = nI (m + (1 - m / 2 ^ k % 2) * 2 ^ k) := by decide +kernel
theorem relC_write {w : qw} {X : qm} (hR : RelC w X) {s kd t : Nat} (hs : s < 5) (hl : X.1 10 s < 24) (hL : ∀ s, s < 5 → X.1 10 s ≤ 24) : RelC (wt (wt w 11 (upd (w 11) (s * 24 + X.1 10 s) (nI (8 * kd + t)))) 12 (upd (w 12) s (nI (X.1 10 s + 1)))) (m_write X s kd t) := by
  unfold m_write
  exact ⟨by simpa [wt, xs, xa, m_part, m_share, m_mask5, m_mask8] using rC0 hR, by simpa [wt, xs, xa, m_part, m_share, m_mask5, m_mask8] using rC1 hR, by simpa [wt, xs, xa, m_part, m_share, m_mask5, m_mask8] using rC2 hR, by simpa [wt, xs, xa, m_part, m_share, m_mask5, m_mask8] using rC3 hR, by simpa [wt, xs, xa, m_part, m_share, m_mask5, m_mask8] using rC4 hR, by simpa [wt, xs, xa, m_part, m_share, m_mask5, m_mask8] using rC5 hR, by simpa [wt, xs, xa, m_part, m_share, m_mask5, m_mask8] using rC6 hR, by simpa [wt, xs, xa, m_part, m_share, m_mask5, m_mask8] using rC7 hR, by simpa [wt, xs, xa, m_part, m_share, m_mask5, m_mask8] using rC8 hR, by simpa [wt, xs, xa, m_part, m_share, m_mask5, m_mask8] using rC9 hR, by simpa [wt, xs, xa, m_part, m_share, m_mask5, m_mask8] using rC10 hR, fun s2 k hs2 hk => by
      simp [wt, xs] at hk ⊢
      by_cases h1 : s2 = s
      · subst h1
        by_cases h2 : k = X.1 10 s2
        · subst h2; simp [upd]
        · simp [h2] at hk ⊢
          have h3 := rC11 hR s2 k hs2 (by omega)
          rw [upd_ne (by omega), h3]
          try (simp; try omega)
      · simp [h1] at hk ⊢
        have h3 := rC11 hR s2 k hs2 hk
        have h4 := hL s2 hs2
        rw [upd_ne (by omega), h3]
        rw [if_neg (by omega)], fun s2 hs2 => by
      by_cases h1 : s2 = s
      · subst h1; simp [wt, xs, upd]
      · have h3 := rC12 hR s2 hs2
        simp [wt, xs, upd, h1, h3], by simpa [wt, xs, xa, m_part, m_share, m_mask5, m_mask8] using rC13 hR, by simpa [wt, xs, xa, m_part, m_share, m_mask5, m_mask8] using rC14 hR, by simpa [wt, xs, xa, m_part, m_share, m_mask5, m_mask8] using rC15 hR, by simpa [wt, xs, xa, m_part, m_share, m_mask5, m_mask8] using rC16 hR, by simpa [wt, xs, xa, m_part, m_share, m_mask5, m_mask8] using rC17 hR⟩
set_option maxRecDepth 20000 in
set_option maxHeartbeats 4000000 in
theorem w_write (h : qB) (b : Fin 16) (w : qw) (X : qm) (hR : RelC w X) {s kd t : Nat} (hs : s < 5) (hk : kd < 5) (ht : t < 8) (hl : X.1 10 s < 24) (hL : ∀ s, s < 5 → X.1 10 s ≤ 24) : CtV mX1_write 0 [qR b 0, qI (nI s), qI (nI kd), qI (nI t)] (q_put h b (wblk b w)) (fun h2 => ∃ w', RelC w' (m_write X s kd t) ∧ h2 = q_put h b (wblk b w')) := by
  refine ct_of (by decide +kernel) rfl rfl (Nat.le_of_ble_eq_true rfl) ?_
  show Ev mX1_write 0 0 [some (qR b 0), some (qI (nI s)), some (qI (nI kd)), some (qI (nI t)), none] [] 124 (q_put h b (wblk b w)) 0 0 _ _
  refine e_aload0 dX1_write_0 ?_
  refine e_getfieldF flX1_39 dX1_write_1 rfl rfl ?_
  refine e_iload1 dX1_write_4 ?_
  refine e_ialoadN dX1_write_5 rfl (by omega) (by decide) ?_
  rw [rC12 hR _ hs]
  refine e_istore4 dX1_write_6 rfl (by decide) ?_
  refine e_iload4 dX1_write_8 ?_
  refine e_bipush (v := nI 24) dX1_write_10 (by decide) ?_
  first | refine e_icmp_geN 42 dX1_write_12 (by decide) (by omega) (by omega) (fun hc12 => ?_) (fun hc12 => ?_) | refine e_icmp_ge 42 dX1_write_12 (by decide) (fun hc12 => ?_) (fun hc12 => ?_)
  · refine e_vret dX1_write_42 rfl ?_
    first
      | exact ⟨rfl, rfl, _, relC_write hR hs hl hL, rfl⟩
      | exact (by omega)
  · refine e_aload0 dX1_write_15 ?_
    refine e_getfieldF flX1_36 dX1_write_16 rfl rfl ?_
    refine e_iload1 dX1_write_19 ?_
    refine e_bipush (v := nI 24) dX1_write_20 (by decide) ?_
    first | refine e_imulN dX1_write_22 ?_ | refine e_imul dX1_write_22 ?_
    refine e_iload4 dX1_write_23 ?_
    first | refine e_iaddN dX1_write_25 ?_ | refine e_iadd dX1_write_25 ?_
    refine e_iload2 dX1_write_26 ?_
    refine e_iconst (z := 3) dX1_write_27 ?_
    refine e_ishl dX1_write_28 ?_
    refine e_iload3 dX1_write_29 ?_
    refine e_ior dX1_write_30 ?_
    rw [b_rec _ hk _ ht]
    refine e_iastoreN dX1_write_31 rfl (by omega) (by decide) ?_
    refine e_aload0 dX1_write_32 ?_
    refine e_getfieldF flX1_39 dX1_write_33 rfl rfl ?_
    refine e_iload1 dX1_write_36 ?_
    refine e_iload4 dX1_write_37 ?_
    refine e_iconst (z := 1) dX1_write_39 ?_
    first | refine e_iaddN dX1_write_40 ?_ | refine e_iadd dX1_write_40 ?_
    refine e_iastoreN dX1_write_41 rfl (by omega) (by decide) ?_
    refine e_vret dX1_write_42 rfl ?_
    first
      | exact ⟨rfl, rfl, _, relC_write hR hs hl hL, rfl⟩
      | exact (by omega)
theorem relC_take {w : qw} {X : qm} (hR : RelC w X) {p : Nat} (hp : p < X.1 0 4) {f : Nat → Int32} (hf : ∀ k, k < X.1 0 4 → f k = if p ≤ k ∧ k + 1 < X.1 0 4 then w 13 (k + 1) else w 13 k) : RelC (wt (wt w 13 f) 14 (fun _ => nI (X.1 0 4 - 1))) (m_takeOut X p) := by
  exact ⟨by simpa [wt, m_takeOut, m_part, m_share, m_mask5, m_mask8] using rC0 hR, by simpa [wt, m_takeOut, m_part, m_share, m_mask5, m_mask8] using rC1 hR, by simpa [wt, m_takeOut, m_part, m_share, m_mask5, m_mask8] using rC2 hR, by simpa [wt, m_takeOut, m_part, m_share, m_mask5, m_mask8] using rC3 hR, by simpa [wt, m_takeOut, m_part, m_share, m_mask5, m_mask8] using rC4 hR, by simpa [wt, m_takeOut, m_part, m_share, m_mask5, m_mask8] using rC5 hR, by simpa [wt, m_takeOut, m_part, m_share, m_mask5, m_mask8] using rC6 hR, by simpa [wt, m_takeOut, m_part, m_share, m_mask5, m_mask8] using rC7 hR, by simpa [wt, m_takeOut, m_part, m_share, m_mask5, m_mask8] using rC8 hR, by simpa [wt, m_takeOut, m_part, m_share, m_mask5, m_mask8] using rC9 hR, by simpa [wt, m_takeOut, m_part, m_share, m_mask5, m_mask8] using rC10 hR, by simpa [wt, m_takeOut, m_part, m_share, m_mask5, m_mask8] using rC11 hR, by simpa [wt, m_takeOut, m_part, m_share, m_mask5, m_mask8] using rC12 hR, fun k hk => by
      simp [wt, m_takeOut] at hk ⊢
      rw [hf k (by omega)]
      by_cases h1 : k < p
      · rw [if_neg (by omega), if_pos h1]; exact rC13 hR k (by omega)
      · rw [if_pos (by omega), if_neg h1]; exact rC13 hR (k + 1) (by omega), by simp [wt, m_takeOut], by simpa [wt, m_takeOut, m_part, m_share, m_mask5, m_mask8] using rC15 hR, by simpa [wt, m_takeOut, m_part, m_share, m_mask5, m_mask8] using rC16 hR, by simpa [wt, m_takeOut, m_part, m_share, m_mask5, m_mask8] using rC17 hR⟩
set_option maxRecDepth 20000 in
set_option maxHeartbeats 4000000 in
theorem w_takeOut (h : qB) (b : Fin 16) (w : qw) (X : qm) (hR : RelC w X) (hwn : X.1 0 4 ≤ 60) {p : Nat} (hp : p < X.1 0 4) : CtI mX1_takeOut 0 [qR b 0, qI (nI p)] (q_put h b (wblk b w)) (fun r h2 => r = nI (X.1 12 p) ∧ ∃ w', RelC w' (m_takeOut X p) ∧ h2 = q_put h b (wblk b w')) := by
  refine ct_of (by decide +kernel) rfl rfl (Nat.le_of_ble_eq_true rfl) ?_
  show Ev mX1_takeOut 0 0 [some (qR b 0), some (qI (nI p)), none, none] [] 124 (q_put h b (wblk b w)) 0 0 _ _
  refine e_aload0 dX1_takeOut_0 ?_
  refine e_getfieldF flX1_42 dX1_takeOut_1 rfl rfl ?_
  refine e_iload1 dX1_takeOut_4 ?_
  refine e_ialoadN dX1_takeOut_5 rfl (by omega) (by decide) ?_
  rw [rC13 hR _ hp]
  refine e_istore2 dX1_takeOut_6 rfl (by decide) ?_
  refine e_iload1 dX1_takeOut_7 ?_
  refine e_iconst (z := 1) dX1_takeOut_8 ?_
  first | refine e_iaddN dX1_takeOut_9 ?_ | refine e_iadd dX1_takeOut_9 ?_
  refine e_istore3 dX1_takeOut_10 rfl (by decide) ?_
  have H : ∀ (m i : Nat) (f : Nat → Int32), i ≤ X.1 0 4 → m = X.1 0 4 - i → p + 1 ≤ i → (∀ k, k < X.1 0 4 → f k = if p ≤ k ∧ k + 1 < i then w 13 (k + 1) else w 13 k) → Ev mX1_takeOut 0 11 [some (qR b 0), some (qI (nI p)), some (qI (nI (X.1 12 p))), some (qI (nI i))] [] 124 (q_put h b (wblk b (wt w 13 f))) 0 0 (fun r n h' => ∃ x, r = some (qI x) ∧ n = 124 ∧ ((fun r h2 => r = nI (X.1 12 p) ∧ ∃ w', RelC w' (m_takeOut X p) ∧ h2 = q_put h b (wblk b w'))) x h') qNo := by
    intro m
    induction m using Nat.strongRecOn with
    | _ m ih =>
    intro i f hi hm hpi hf
    refine e_iload3 dX1_takeOut_11 ?_
    refine e_aload0 dX1_takeOut_12 ?_
    refine e_getfieldF flX1_61 dX1_takeOut_13 rfl rfl ?_
    rw [show (wt w 13 f) 14 0 = nI (X.1 0 4) from (show w 14 0 = _ from rC14 hR)]
    first | refine e_icmp_geN 39 dX1_takeOut_16 (by decide) (by omega) (by omega) (fun hc16 => ?_) (fun hc16 => ?_) | refine e_icmp_ge 39 dX1_takeOut_16 (by decide) (fun hc16 => ?_) (fun hc16 => ?_)
    · refine e_aload0 dX1_takeOut_39 ?_
      refine e_dup dX1_takeOut_40 rfl ?_
      refine e_getfieldF flX1_61 dX1_takeOut_41 rfl rfl ?_
      rw [show (wt w 13 f) 14 0 = nI (X.1 0 4) from (show w 14 0 = _ from rC14 hR)]
      obtain rfl : i = X.1 0 4 := by omega
      refine e_iconst (z := 1) dX1_takeOut_44 ?_
      first | refine e_isubN dX1_takeOut_45 (by omega) ?_ | refine e_isub dX1_takeOut_45 ?_
      refine e_putfieldF flX1_61 dX1_takeOut_46 rfl (Nat.le_of_ble_eq_true rfl) (fun _ => rfl) (fun _ => rfl) ?_
      refine e_iload2 dX1_takeOut_49 ?_
      refine e_iret dX1_takeOut_50 rfl ?_
      exact ⟨_, rfl, rfl, rfl, _, relC_take hR hp hf, rfl⟩
    · refine e_aload0 dX1_takeOut_19 ?_
      refine e_getfieldF flX1_42 dX1_takeOut_20 rfl rfl ?_
      refine e_iload3 dX1_takeOut_23 ?_
      refine e_iconst (z := 1) dX1_takeOut_24 ?_
      first | refine e_isubN dX1_takeOut_25 (by omega) ?_ | refine e_isub dX1_takeOut_25 ?_
      refine e_aload0 dX1_takeOut_26 ?_
      refine e_getfieldF flX1_42 dX1_takeOut_27 rfl rfl ?_
      refine e_iload3 dX1_takeOut_30 ?_
      refine e_ialoadN dX1_takeOut_31 rfl (by omega) (by decide) ?_
      refine e_iastoreN dX1_takeOut_32 rfl (by omega) (by decide) ?_
      first | refine e_iinc3N (z := 1) dX1_takeOut_33 rfl (by decide) ?_ | refine e_iinc3 dX1_takeOut_33 rfl rfl (by decide) ?_
      refine e_goto 11 dX1_takeOut_36 (by decide) ?_
      refine ih _ (by omega) (i + 1) (upd f (i - 1) (f i)) (by omega) rfl (by omega) (fun k hk => ?_)
      show upd f (i - 1) (f i) k = _
      by_cases h1 : k = i - 1
      · subst h1; rw [upd_same, hf i (by omega), if_neg (by omega), if_pos (by omega)]; congr 1; omega
      · rw [upd_ne h1, hf k hk]
        by_cases h2 : p ≤ k ∧ k + 1 < i
        · rw [if_pos h2, if_pos (by omega)]
        · rw [if_neg h2, if_neg (by omega)]
  exact H _ (p + 1) (w 13) (by omega) rfl (Nat.le_refl _) (fun k hk => by rw [if_neg (by omega)])
def m_lose (X : qm) (p : Nat) : qm := m_takeOut (xs X 0 3 (X.1 0 3 + 1)) p
def m_kd (st : Nat) : Nat := if st = 1 then 4 else st - 1
/-- a store is in another state, and writes it -/
def m_become (X : qm) (s t st : Nat) : qm :=
  if st = 2 then xa (xs (m_write X s (m_kd st) t) 9 (8 * s + t) st) s (X.2 s + m_share X t s) else xs (m_write X s (m_kd st) t) 9 (8 * s + t) st
theorem relC_state {w : qw} {X : qm} (hR : RelC w X) {s t st : Nat} (hs : s < 4) (ht : t < 8) : RelC (wt w 10 (upd (w 10) (s * 8 + t) (nI st))) (xs X 9 (8 * s + t) st) := by
  exact ⟨by simpa [wt, xs, xa, m_part, m_share, m_mask5, m_mask8] using rC0 hR, by simpa [wt, xs, xa, m_part, m_share, m_mask5, m_mask8] using rC1 hR, by simpa [wt, xs, xa, m_part, m_share, m_mask5, m_mask8] using rC2 hR, by simpa [wt, xs, xa, m_part, m_share, m_mask5, m_mask8] using rC3 hR, by simpa [wt, xs, xa, m_part, m_share, m_mask5, m_mask8] using rC4 hR, by simpa [wt, xs, xa, m_part, m_share, m_mask5, m_mask8] using rC5 hR, by simpa [wt, xs, xa, m_part, m_share, m_mask5, m_mask8] using rC6 hR, by simpa [wt, xs, xa, m_part, m_share, m_mask5, m_mask8] using rC7 hR, by simpa [wt, xs, xa, m_part, m_share, m_mask5, m_mask8] using rC8 hR, by simpa [wt, xs, xa, m_part, m_share, m_mask5, m_mask8] using rC9 hR, fun s2 t2 hs2 ht2 => by
      have h3 := rC10 hR s2 t2 hs2 ht2
      by_cases h1 : 8 * s2 + t2 = 8 * s + t
      · rw [show s2 * 8 + t2 = s * 8 + t by omega]; simp [wt, xs, upd, h1]
      · simp only [wt, xs, if_true]; rw [upd_ne (by omega), h3]; simp [h1], by simpa [wt, xs, xa, m_part, m_share, m_mask5, m_mask8] using rC11 hR, by simpa [wt, xs, xa, m_part, m_share, m_mask5, m_mask8] using rC12 hR, by simpa [wt, xs, xa, m_part, m_share, m_mask5, m_mask8] using rC13 hR, by simpa [wt, xs, xa, m_part, m_share, m_mask5, m_mask8] using rC14 hR, by simpa [wt, xs, xa, m_part, m_share, m_mask5, m_mask8] using rC15 hR, by simpa [wt, xs, xa, m_part, m_share, m_mask5, m_mask8] using rC16 hR, by simpa [wt, xs, xa, m_part, m_share, m_mask5, m_mask8] using rC17 hR⟩
theorem relC_am {w : qw} {X : qm} (hR : RelC w X) {s : Nat} {v : Int32} : RelC (wt w 9 (upd (w 9) s v)) (xa X s v) := by
  exact ⟨by simpa [wt, xs, xa, m_part, m_share, m_mask5, m_mask8] using rC0 hR, by simpa [wt, xs, xa, m_part, m_share, m_mask5, m_mask8] using rC1 hR, (show ∀ t, t < 8 → w 2 t = nI (if t < X.1 0 0 then m_part X t else 0) from rC2 hR), by simpa [wt, xs, xa, m_part, m_share, m_mask5, m_mask8] using rC3 hR, by simpa [wt, xs, xa, m_part, m_share, m_mask5, m_mask8] using rC4 hR, by simpa [wt, xs, xa, m_part, m_share, m_mask5, m_mask8] using rC5 hR, by simpa [wt, xs, xa, m_part, m_share, m_mask5, m_mask8] using rC6 hR, by simpa [wt, xs, xa, m_part, m_share, m_mask5, m_mask8] using rC7 hR, by simpa [wt, xs, xa, m_part, m_share, m_mask5, m_mask8] using rC8 hR, fun s2 hs2 => by
      have h3 := rC9 hR s2 hs2
      by_cases h1 : s2 = s
      · subst h1; simp [wt, xa, upd]
      · simp [wt, xa, upd, h1, h3], by simpa [wt, xs, xa, m_part, m_share, m_mask5, m_mask8] using rC10 hR, by simpa [wt, xs, xa, m_part, m_share, m_mask5, m_mask8] using rC11 hR, by simpa [wt, xs, xa, m_part, m_share, m_mask5, m_mask8] using rC12 hR, by simpa [wt, xs, xa, m_part, m_share, m_mask5, m_mask8] using rC13 hR, by simpa [wt, xs, xa, m_part, m_share, m_mask5, m_mask8] using rC14 hR, by simpa [wt, xs, xa, m_part, m_share, m_mask5, m_mask8] using rC15 hR, by simpa [wt, xs, xa, m_part, m_share, m_mask5, m_mask8] using rC16 hR, by simpa [wt, xs, xa, m_part, m_share, m_mask5, m_mask8] using rC17 hR⟩
theorem wOb (b : Fin 16) (w : qw) : (wblk b w)[0]? = some (eO 1 [qI (w 0 0), qR b 1, qR b 2, qR b 3, qR b 4, qR b 5, qR b 6, qI (w 7 0), qI (w 8 0), qR b 7, qR b 8, qR b 9, qR b 10, qR b 11, qI (w 14 0), qI (w 15 0), qI (w 16 0), qI (w 17 0)]) := rfl
theorem m_kdst : ∀ kd, kd < 5 → (kd = 4 ∨ kd = 1 ∨ kd = 2) → m_kd (m_stAfter kd) = kd ∧ (m_stAfter kd = 2 ↔ kd = 1) := by decide +kernel
set_option maxRecDepth 20000 in
set_option maxHeartbeats 4000000 in
theorem w_storeWrites (h : qB) (b : Fin 16) (w : qw) (X : qm) (hR : RelC w X) {s kd t : Nat} (hs : s < 4) (hk : kd < 5) (hkk : kd = 4 ∨ kd = 1 ∨ kd = 2) (ht : t < 8) (hl : X.1 10 s < 24) (hL : ∀ s, s < 5 → X.1 10 s ≤ 24) : CtV mX1_storeWrites 1 [qR b 0, qI (nI s), qI (nI kd), qI (nI t)] (q_put h b (wblk b w)) (fun h2 => ∃ w', RelC w' (m_become X s t (m_stAfter kd)) ∧ h2 = q_put h b (wblk b w')) := by
  refine ct_of (by decide +kernel) rfl rfl (Nat.le_of_ble_eq_true rfl) ?_
  show Ev mX1_storeWrites 1 0 [some (qR b 0), some (qI (nI s)), some (qI (nI kd)), some (qI (nI t))] [] 124 (q_put h b (wblk b w)) 0 0 _ _
  refine e_aload0 dX1_storeWrites_0 ?_
  refine e_iload1 dX1_storeWrites_1 ?_
  refine e_iload2 dX1_storeWrites_2 ?_
  refine e_iload3 dX1_storeWrites_3 ?_
  refine e_vVF (M' := mX1_write) fX1_write lkX1_140 (w_write h b w X hR (s := s) (kd := kd) (t := t) (by omega) hk ht hl hL) rfl rfl dX1_storeWrites_4 rfl rfl (by decide) (Nat.le_of_ble_eq_true rfl) rfl ?_
  rintro _ ⟨w1, hR1, rfl⟩
  refine e_aload0 dX1_storeWrites_7 ?_
  refine e_getfieldF flX1_33 dX1_storeWrites_8 rfl rfl ?_
  refine e_iload1 dX1_storeWrites_11 ?_
  refine e_bipush (v := nI 8) dX1_storeWrites_12 (by decide) ?_
  first | refine e_imulN dX1_storeWrites_14 ?_ | refine e_imul dX1_storeWrites_14 ?_
  refine e_iload3 dX1_storeWrites_15 ?_
  first | refine e_iaddN dX1_storeWrites_16 ?_ | refine e_iadd dX1_storeWrites_16 ?_
  refine e_iload2 dX1_storeWrites_17 ?_
  refine e_nI (M' := mX2_stateAfterRecord) fX2_stateAfterRecord lkX1_144 (w_stateAfterRecord _ (k := kd) hk) rfl rfl dX1_storeWrites_18 (by decide) (Nat.le_of_ble_eq_true rfl) rfl ?_
  rintro _ _ ⟨rfl, rfl⟩
  refine e_iastoreN dX1_storeWrites_21 rfl (by omega) (by decide) ?_
  refine e_iload2 dX1_storeWrites_22 ?_
  refine e_iconst (z := 1) dX1_storeWrites_23 ?_
  first | refine e_icmp_neN 42 dX1_storeWrites_24 (by decide) (by omega) (by omega) (fun hc24 => ?_) (fun hc24 => ?_) | refine e_icmp_ne 42 dX1_storeWrites_24 (by decide) (fun hc24 => ?_) (fun hc24 => ?_)
  · refine e_vret dX1_storeWrites_42 rfl ?_
    first
      | exact ⟨rfl, rfl, wt w1 10 (upd (w1 10) (s * 8 + t) (nI (m_stAfter kd))), by rw [m_become, if_neg (fun e => hc24 ((m_kdst kd hk hkk).2.mp e)), (m_kdst kd hk hkk).1]; exact relC_state hR1 hs ht, rfl⟩
      | exact ⟨rfl, rfl, wt (wt w1 10 (upd (w1 10) (s * 8 + t) (nI (m_stAfter kd)))) 9 (upd (w1 9) s (X.2 s + m_share X t s)), by rw [m_become, if_pos ((m_kdst kd hk hkk).2.mpr hc24), (m_kdst kd hk hkk).1]; exact relC_am (relC_state hR1 hs ht), rfl⟩
  · refine e_aload0 dX1_storeWrites_27 ?_
    refine e_getfieldF flX1_30 dX1_storeWrites_28 rfl rfl ?_
    refine e_iload1 dX1_storeWrites_31 ?_
    refine e_dup2 dX1_storeWrites_32 rfl rfl ?_
    refine e_ialoadN dX1_storeWrites_33 rfl (by omega) (by decide) ?_
    rw [show w1 9 s = X.2 s from rC9 hR1 s hs]
    refine e_aload0 dX1_storeWrites_34 ?_
    refine e_iload3 dX1_storeWrites_35 ?_
    refine e_iload1 dX1_storeWrites_36 ?_
    refine e_vIF (M' := mX1_shareOf) fX1_shareOf lkX1_83 (w_shareOf h b _ _ (relC_state hR1 (s := s) (t := t) (st := m_stAfter kd) hs ht) (t := t) (s := s) ht hs) rfl rfl dX1_storeWrites_37 rfl rfl (by decide) (Nat.le_of_ble_eq_true rfl) rfl ?_
    rintro _ _ ⟨rfl, rfl⟩
    rw [show m_share (xs (m_write X s kd t) 9 (8 * s + t) (m_stAfter kd)) t s = m_share X t s from rfl]
    first | refine e_iaddN dX1_storeWrites_40 ?_ | refine e_iadd dX1_storeWrites_40 ?_
    refine e_iastoreN dX1_storeWrites_41 rfl (by omega) (by decide) ?_
    refine e_vret dX1_storeWrites_42 rfl ?_
    first
      | exact ⟨rfl, rfl, wt w1 10 (upd (w1 10) (s * 8 + t) (nI (m_stAfter kd))), by rw [m_become, if_neg (fun e => hc24 ((m_kdst kd hk hkk).2.mp e)), (m_kdst kd hk hkk).1]; exact relC_state hR1 hs ht, rfl⟩
      | exact ⟨rfl, rfl, wt (wt w1 10 (upd (w1 10) (s * 8 + t) (nI (m_stAfter kd)))) 9 (upd (w1 9) s (X.2 s + m_share X t s)), by rw [m_become, if_pos ((m_kdst kd hk hkk).2.mpr hc24), (m_kdst kd hk hkk).1]; exact relC_am (relC_state hR1 hs ht), rfl⟩
