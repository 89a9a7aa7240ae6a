/-! SAVED STATES -/
/-- the saved row: six worlds of their own, and the first c tell Sv -/
def RelL (pi : Nat → Option qK) (w : Fin 16 → qw) (c : Nat) (Sv : Nat → qm) : Prop := ∃ v : Nat → Fin 16, (∀ i, i < 6 → pi i = some (v i, 0) ∧ 5 ≤ (v i).val ∧ (v i).val ≤ 10) ∧ (∀ i j, i < 6 → j < 6 → v i = v j → i = j) ∧ (∀ i, i < c → RelC (w (v i)) (Sv i) ∧ J (Sv i))
def m_svC (c : Nat) : Nat := if c = 6 then 6 else c + 1
def m_sv (c : Nat) (Sv : Nat → qm) (X : qm) : Nat → qm := if c = 6 then (fun i => if i = 5 then X else Sv (i + 1)) else fun i => if i = c then X else Sv i
theorem w_copyK (h : qB) (o : List qE) (w : Fin 16 → qw) (b b2 : Fin 16) (hne : b2 ≠ b) (h1 : b ≠ 0) (h2 : b.val ≤ 10) (h3 : b2 ≠ 0) (h4 : b2.val ≤ 10) (X : qm) (hR : RelC (w b2) X) (hJ : J X) :
    CtV mX1_copyFrom 1 [qR b 0, qR b2 0] (hK h o w 10) (fun h3 => ∃ x, RelC x X ∧ h3 = hK h o (uw w b x) 10) := by
  have a := w_copyFrom (hK h o w 10) b b2 hne (w b) (w b2) X hR hJ
  rw [hK_self h3 h4, hK_self h1 h2] at a
  have e : (fun h3 => ∃ w', RelC w' X ∧ h3 = q_put (hK h o w 10) b (wblk b w')) = (fun h3 => ∃ x, RelC x X ∧ h3 = hK h o (uw w b x) 10) := by
    funext h3
    refine propext ⟨?_, ?_⟩
    · rintro ⟨x, q, rfl⟩; exact ⟨x, q, hK_put h1 h2 x⟩
    · rintro ⟨x, q, rfl⟩; exact ⟨x, q, (hK_put h1 h2 x).symm⟩
  rw [e] at a
  exact a
theorem e_aaloadB {M : qM} {d pc : Nat} {L : List (Option qV)} {st : List qV} {n : Nat} {h : qB} {kc ks : Nat} {P : qP} {X : qX} {o : Fin 16} {N : Nat} {f : Nat → Option qK} {i : Nat} {k1 : qK} {F : List qE} {w : Fin 16 → qw} {m : Nat} (dg : decode M.2.1 pc = .ok (.aaload, 1)) (hF : F[o.val]? = some (eQ N f)) (hi : i < N) (hN : N < 2147483648) (hk : f i = some k1)
    (k : Ev M d (pc + 1) L (qR k1.1 k1.2 :: st) n (hK h F w m) kc ks P X) : Ev M d pc L (qI (nI i) :: qR 0 o :: st) n (hK h F w m) kc ks P X := e_aaload dg (by rw [hK_0]; exact hF) hi hN hk k
theorem e_aastoreB {M : qM} {d pc : Nat} {L : List (Option qV)} {st : List qV} {n : Nat} {h : qB} {kc ks : Nat} {P : qP} {X : qX} {b1 o : Fin 16} {N : Nat} {f : Nat → Option qK} {i : Nat} {F : List qE} {w : Fin 16 → qw} {m : Nat} (dg : decode M.2.1 pc = .ok (.aastore, 1)) (h1 : b1 ≠ 0) (h2 : b1.val ≤ m) (hF : F[o.val]? = some (eQ N f)) (hi : i < N) (hN : N < 2147483648)
    (k : Ev M d (pc + 1) L st n (hK h (F.set o.val (eQ N (fun j => if j = i then some (b1, 0) else f j))) w m) kc ks P X) : Ev M d pc L (qR b1 0 :: qI (nI i) :: qR 0 o :: st) n (hK h F w m) kc ks P X := by
  refine e_aastore (fs := [qI (w b1 0 0), qR b1 1, qR b1 2, qR b1 3, qR b1 4, qR b1 5, qR b1 6, qI (w b1 7 0), qI (w b1 8 0), qR b1 7, qR b1 8, qR b1 9, qR b1 10, qR b1 11, qI (w b1 14 0), qI (w b1 15 0), qI (w b1 16 0), qI (w b1 17 0)]) dg (by rw [hK_0]; exact hF) (by rw [hK_at h1 h2]; rfl) hi hN ?_
  rw [hK_up0]; exact k
theorem v_ne0 {b : Fin 16} (h : 5 ≤ b.val) : b ≠ 0 := by intro q; subst q; exact absurd h (by decide)
theorem v_ne1 {b : Fin 16} (h : 5 ≤ b.val) : (1 : Fin 16) ≠ b := by intro q; subst q; exact absurd h (by decide)
set_option maxRecDepth 20000 in
set_option maxHeartbeats 4000000 in
theorem v_save (h : qB) (pi : Nat → Option qK) (buf : Nat → Int32) (c : Nat) (sn len : Int32) (rd : Nat → Int32) (w : Fin 16 → qw) (X : qm) (hR : RelC (w 1) X) (hJ : J X) (Sv : Nat → qm) (hc : c ≤ 6) (hL : RelL pi w c Sv) : CtV mX2_save 2 [qR 0 0] (hK h (oC pi buf (nI c) sn len rd) w 10) (fun h2 => ∃ pi' w', h2 = hK h (oC pi' buf (nI (m_svC c)) sn len rd) w' 10 ∧ (∀ b : Fin 16, b.val ≤ 4 → w' b = w b) ∧ RelL pi' w' (m_svC c) (m_sv c Sv X)) := by
  have HT : ∀ (pi : Nat → Option qK) (c2 : Nat) (Sv2 : Nat → qm) (l1 l2 : Option qV), c2 < 6 → c2 + 1 = m_svC c → (∀ i, i < c2 → Sv2 i = m_sv c Sv X i) → m_sv c Sv X c2 = X → RelL pi w c2 Sv2 → Ev mX2_save 2 56 [some (qR 0 0), l1, l2] [] 124 (hK h (oC pi buf (nI c2) sn len rd) w 10) 0 0 (fun r n h' => r = none ∧ n = 124 ∧ (fun h2 => ∃ pi' w', h2 = hK h (oC pi' buf (nI (m_svC c)) sn len rd) w' 10 ∧ (∀ b : Fin 16, b.val ≤ 4 → w' b = w b) ∧ RelL pi' w' (m_svC c) (m_sv c Sv X)) h') qNo := by
    rintro pi c2 Sv2 l1 l2 hc2 he hs1 hs2 ⟨v, v1, v2, v3⟩
    have hv := v1 c2 hc2
    refine e_aload0 dX2_save_56 ?_
    refine e_get0 flX2_25 dX2_save_57 rfl rfl ?_
    refine e_aload0 dX2_save_60 ?_
    refine e_get0 flX2_40 dX2_save_61 rfl rfl ?_
    refine e_aaloadB dX2_save_64 rfl hc2 (by decide) hv.1 ?_
    refine e_aload0 dX2_save_65 ?_
    refine e_get0 flX2_10 dX2_save_66 rfl rfl ?_
    refine e_vV (M' := mX1_copyFrom) fX1_copyFrom lkX2_167 (w_copyK h _ w (v c2) 1 (v_ne1 hv.2.1) (v_ne0 hv.2.1) hv.2.2 (by decide) (by decide) X hR hJ) rfl rfl dX2_save_69 (by rw [hK_at (v_ne0 hv.2.1) hv.2.2]; rfl) rfl (by decide) (Nat.le_of_ble_eq_true rfl) rfl ?_
    rintro _ ⟨x, hx, rfl⟩
    refine e_aload0 dX2_save_72 ?_
    refine e_dup dX2_save_73 rfl ?_
    refine e_get0 flX2_40 dX2_save_74 rfl rfl ?_
    refine e_iconst (z := 1) dX2_save_77 ?_
    refine e_iaddN dX2_save_78 ?_
    refine e_put0 flX2_40 dX2_save_79 rfl (Nat.le_of_ble_eq_true rfl) (fun _ => rfl) (fun _ => rfl) ?_
    refine e_vret dX2_save_82 rfl ?_
    refine ⟨rfl, rfl, pi, uw w (v c2) x, by rw [← he]; rfl, fun b hb => ?_, v, v1, v2, fun i hi => ?_⟩
    · have : b ≠ v c2 := by intro q; subst q; omega
      simp [uw, this]
    · by_cases q : i = c2
      · subst q; rw [hs2]; simp [uw]; exact ⟨hx, hJ⟩
      · have q2 : v i ≠ v c2 := fun e => q (v2 i c2 (by omega) hc2 e)
        rw [← hs1 i (by omega)]
        simp [uw, q2]; exact v3 i (by omega)
  refine ct_of (by decide +kernel) rfl rfl (Nat.le_of_ble_eq_true rfl) ?_
  show Ev mX2_save 2 0 [some (qR 0 0), none, none] [] 124 (hK h (oC pi buf (nI c) sn len rd) w 10) 0 0 _ _
  refine e_aload0 dX2_save_0 ?_
  refine e_get0 flX2_40 dX2_save_1 rfl rfl ?_
  refine e_bipush (v := nI 6) dX2_save_4 (by decide) ?_
  refine e_icmp_ltN 56 dX2_save_6 (by decide) (by omega) (by decide) (fun q => ?_) (fun q => ?_)
  · refine HT pi c Sv none none q (by rw [m_svC, if_neg (by omega)]) (fun i hi => by rw [m_sv, if_neg (by omega)]; rw [if_neg (by omega)]) (by rw [m_sv, if_neg (by omega)]; simp) hL
  · obtain rfl : c = 6 := by omega
    obtain ⟨v, v1, v2, v3⟩ := hL
    have p0 := v1 0 (by decide)
    have p1 := v1 1 (by decide)
    have p2 := v1 2 (by decide)
    have p3 := v1 3 (by decide)
    have p4 := v1 4 (by decide)
    have p5 := v1 5 (by decide)
    refine e_aload0 dX2_save_9 ?_
    refine e_get0 flX2_25 dX2_save_10 rfl rfl ?_
    refine e_iconst (z := 0) dX2_save_13 ?_
    refine e_aaloadB dX2_save_14 rfl (by decide) (by decide) p0.1 ?_
    refine e_astore1 dX2_save_15 rfl (by decide) ?_
    refine e_iconst (z := 1) dX2_save_16 ?_
    refine e_istore2 dX2_save_17 rfl (by decide) ?_
    show Ev mX2_save 2 18 [some (qR 0 0), some (qR (v 0) 0), some (qI (nI 1))] [] 124 (hK h (oC pi buf (nI 6) sn len rd) w 10) 0 0 _ _
    refine e_iload2 dX2_save_18 ?_
    refine e_bipush (v := nI 6) dX2_save_19 (by decide) ?_
    refine e_icmp_geN 44 dX2_save_21 (by decide) (by decide) (by decide) (fun q => absurd q (by decide)) (fun _ => ?_)
    refine e_aload0 dX2_save_24 ?_
    refine e_get0 flX2_25 dX2_save_25 rfl rfl ?_
    refine e_iload2 dX2_save_28 ?_
    refine e_iconst (z := 1) dX2_save_29 ?_
    refine e_isubN dX2_save_30 (by decide) ?_
    refine e_aload0 dX2_save_31 ?_
    refine e_get0 flX2_25 dX2_save_32 rfl rfl ?_
    refine e_iload2 dX2_save_35 ?_
    refine e_aaloadB dX2_save_36 rfl (by decide) (by decide) p1.1 ?_
    refine e_aastoreB (i := 0) dX2_save_37 (v_ne0 p1.2.1) p1.2.2 rfl (by decide) (by decide) ?_
    refine e_iinc2N (z := 1) dX2_save_38 rfl (by decide) ?_
    refine e_goto 18 dX2_save_41 (by decide) ?_
    show Ev mX2_save 2 18 [some (qR 0 0), some (qR (v 0) 0), some (qI (nI 2))] [] 124 (hK h (oC (fun j => if j = 0 then some (v 1, (0 : Fin 16)) else pi j) buf (nI 6) sn len rd) w 10) 0 0 _ _
    refine e_iload2 dX2_save_18 ?_
    refine e_bipush (v := nI 6) dX2_save_19 (by decide) ?_
    refine e_icmp_geN 44 dX2_save_21 (by decide) (by decide) (by decide) (fun q => absurd q (by decide)) (fun _ => ?_)
    refine e_aload0 dX2_save_24 ?_
    refine e_get0 flX2_25 dX2_save_25 rfl rfl ?_
    refine e_iload2 dX2_save_28 ?_
    refine e_iconst (z := 1) dX2_save_29 ?_
    refine e_isubN dX2_save_30 (by decide) ?_
    refine e_aload0 dX2_save_31 ?_
    refine e_get0 flX2_25 dX2_save_32 rfl rfl ?_
    refine e_iload2 dX2_save_35 ?_
    refine e_aaloadB dX2_save_36 rfl (by decide) (by decide) p2.1 ?_
    refine e_aastoreB (i := 1) dX2_save_37 (v_ne0 p2.2.1) p2.2.2 rfl (by decide) (by decide) ?_
    refine e_iinc2N (z := 1) dX2_save_38 rfl (by decide) ?_
    refine e_goto 18 dX2_save_41 (by decide) ?_
    show Ev mX2_save 2 18 [some (qR 0 0), some (qR (v 0) 0), some (qI (nI 3))] [] 124 (hK h (oC (fun j => if j = 1 then some (v 2, (0 : Fin 16)) else (fun j => if j = 0 then some (v 1, (0 : Fin 16)) else pi j) j) buf (nI 6) sn len rd) w 10) 0 0 _ _
    refine e_iload2 dX2_save_18 ?_
    refine e_bipush (v := nI 6) dX2_save_19 (by decide) ?_
    refine e_icmp_geN 44 dX2_save_21 (by decide) (by decide) (by decide) (fun q => absurd q (by decide)) (fun _ => ?_)
    refine e_aload0 dX2_save_24 ?_
    refine e_get0 flX2_25 dX2_save_25 rfl rfl ?_
    refine e_iload2 dX2_save_28 ?_
    refine e_iconst (z := 1) dX2_save_29 ?_
    refine e_isubN dX2_save_30 (by decide) ?_
    refine e_aload0 dX2_save_31 ?_
    refine e_get0 flX2_25 dX2_save_32 rfl rfl ?_
    refine e_iload2 dX2_save_35 ?_
    refine e_aaloadB dX2_save_36 rfl (by decide) (by decide) p3.1 ?_
    refine e_aastoreB (i := 2) dX2_save_37 (v_ne0 p3.2.1) p3.2.2 rfl (by decide) (by decide) ?_
    refine e_iinc2N (z := 1) dX2_save_38 rfl (by decide) ?_
    refine e_goto 18 dX2_save_41 (by decide) ?_
    show Ev mX2_save 2 18 [some (qR 0 0), some (qR (v 0) 0), some (qI (nI 4))] [] 124 (hK h (oC (fun j => if j = 2 then some (v 3, (0 : Fin 16)) else (fun j => if j = 1 then some (v 2, (0 : Fin 16)) else (fun j => if j = 0 then some (v 1, (0 : Fin 16)) else pi j) j) j) buf (nI 6) sn len rd) w 10) 0 0 _ _
    refine e_iload2 dX2_save_18 ?_
    refine e_bipush (v := nI 6) dX2_save_19 (by decide) ?_
    refine e_icmp_geN 44 dX2_save_21 (by decide) (by decide) (by decide) (fun q => absurd q (by decide)) (fun _ => ?_)
    refine e_aload0 dX2_save_24 ?_
    refine e_get0 flX2_25 dX2_save_25 rfl rfl ?_
    refine e_iload2 dX2_save_28 ?_
    refine e_iconst (z := 1) dX2_save_29 ?_
    refine e_isubN dX2_save_30 (by decide) ?_
    refine e_aload0 dX2_save_31 ?_
    refine e_get0 flX2_25 dX2_save_32 rfl rfl ?_
    refine e_iload2 dX2_save_35 ?_
    refine e_aaloadB dX2_save_36 rfl (by decide) (by decide) p4.1 ?_
    refine e_aastoreB (i := 3) dX2_save_37 (v_ne0 p4.2.1) p4.2.2 rfl (by decide) (by decide) ?_
    refine e_iinc2N (z := 1) dX2_save_38 rfl (by decide) ?_
    refine e_goto 18 dX2_save_41 (by decide) ?_
    show Ev mX2_save 2 18 [some (qR 0 0), some (qR (v 0) 0), some (qI (nI 5))] [] 124 (hK h (oC (fun j => if j = 3 then some (v 4, (0 : Fin 16)) else (fun j => if j = 2 then some (v 3, (0 : Fin 16)) else (fun j => if j = 1 then some (v 2, (0 : Fin 16)) else (fun j => if j = 0 then some (v 1, (0 : Fin 16)) else pi j) j) j) j) buf (nI 6) sn len rd) w 10) 0 0 _ _
    refine e_iload2 dX2_save_18 ?_
    refine e_bipush (v := nI 6) dX2_save_19 (by decide) ?_
    refine e_icmp_geN 44 dX2_save_21 (by decide) (by decide) (by decide) (fun q => absurd q (by decide)) (fun _ => ?_)
    refine e_aload0 dX2_save_24 ?_
    refine e_get0 flX2_25 dX2_save_25 rfl rfl ?_
    refine e_iload2 dX2_save_28 ?_
    refine e_iconst (z := 1) dX2_save_29 ?_
    refine e_isubN dX2_save_30 (by decide) ?_
    refine e_aload0 dX2_save_31 ?_
    refine e_get0 flX2_25 dX2_save_32 rfl rfl ?_
    refine e_iload2 dX2_save_35 ?_
    refine e_aaloadB dX2_save_36 rfl (by decide) (by decide) p5.1 ?_
    refine e_aastoreB (i := 4) dX2_save_37 (v_ne0 p5.2.1) p5.2.2 rfl (by decide) (by decide) ?_
    refine e_iinc2N (z := 1) dX2_save_38 rfl (by decide) ?_
    refine e_goto 18 dX2_save_41 (by decide) ?_
    show Ev mX2_save 2 18 [some (qR 0 0), some (qR (v 0) 0), some (qI (nI 6))] [] 124 (hK h (oC (fun j => if j = 4 then some (v 5, (0 : Fin 16)) else (fun j => if j = 3 then some (v 4, (0 : Fin 16)) else (fun j => if j = 2 then some (v 3, (0 : Fin 16)) else (fun j => if j = 1 then some (v 2, (0 : Fin 16)) else (fun j => if j = 0 then some (v 1, (0 : Fin 16)) else pi j) j) j) j) j) buf (nI 6) sn len rd) w 10) 0 0 _ _
    refine e_iload2 dX2_save_18 ?_
    refine e_bipush (v := nI 6) dX2_save_19 (by decide) ?_
    refine e_icmp_geN 44 dX2_save_21 (by decide) (by decide) (by decide) (fun _ => ?_) (fun q => absurd q (by decide))
    refine e_aload0 dX2_save_44 ?_
    refine e_get0 flX2_25 dX2_save_45 rfl rfl ?_
    refine e_iconst (z := 5) dX2_save_48 ?_
    refine e_aload1 dX2_save_49 ?_
    refine e_aastoreB (i := 5) dX2_save_50 (v_ne0 p0.2.1) p0.2.2 rfl (by decide) (by decide) ?_
    refine e_aload0 dX2_save_51 ?_
    refine e_iconst (z := 5) dX2_save_52 ?_
    refine e_put0 flX2_40 dX2_save_53 rfl (Nat.le_of_ble_eq_true rfl) (fun _ => rfl) (fun _ => rfl) ?_
    refine HT (fun j => if j = 5 then some (v 0, (0 : Fin 16)) else (fun j => if j = 4 then some (v 5, (0 : Fin 16)) else (fun j => if j = 3 then some (v 4, (0 : Fin 16)) else (fun j => if j = 2 then some (v 3, (0 : Fin 16)) else (fun j => if j = 1 then some (v 2, (0 : Fin 16)) else (fun j => if j = 0 then some (v 1, (0 : Fin 16)) else pi j) j) j) j) j) j) 5 (fun i => Sv (i + 1)) _ _ (by decide) (by decide) (fun i hi => by rw [m_sv, if_pos rfl]; rw [if_neg (by omega)]) rfl ⟨fun i => if i = 5 then v 0 else v (i + 1), fun i hi => ?_, fun i j hi hj e => ?_, fun i hi => ?_⟩
    · rcases (show i = 0 ∨ i = 1 ∨ i = 2 ∨ i = 3 ∨ i = 4 ∨ i = 5 by omega) with rfl | rfl | rfl | rfl | rfl | rfl
      · exact ⟨rfl, p1.2⟩
      · exact ⟨rfl, p2.2⟩
      · exact ⟨rfl, p3.2⟩
      · exact ⟨rfl, p4.2⟩
      · exact ⟨rfl, p5.2⟩
      · exact ⟨rfl, p0.2⟩
    · simp only at e
      by_cases q1 : i = 5
      · by_cases q2 : j = 5
        · omega
        · rw [if_pos q1, if_neg q2] at e; exact absurd (v2 _ _ (by decide) (by omega) e) (by omega)
      · by_cases q2 : j = 5
        · rw [if_neg q1, if_pos q2] at e; exact absurd (v2 _ _ (by omega) (by decide) e) (by omega)
        · rw [if_neg q1, if_neg q2] at e; have := v2 _ _ (by omega) (by omega) e; omega
    · simp only; rw [if_neg (by omega)]; exact v3 (i + 1) (by omega)
