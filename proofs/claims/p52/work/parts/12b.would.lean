/-- what a store would have, all ready transfers of the same sign counted -/
def m_takeSum (X : qm) (s : Nat) (sh : Int32) : Nat → Int32
  | 0 => X.2 s + sh
  | n + 1 => if ((¬ 0 ≤ sh ∧ ¬ 0 ≤ m_share X n s) ∨ (0 ≤ sh ∧ ¬ m_share X n s ≤ 0)) ∧ X.1 9 (8 * s + n) = 1 then m_takeSum X s sh n + m_share X n s else m_takeSum X s sh n
def m_would (X : qm) (s : Nat) (sh : Int32) : Bool := decide (¬ m_takeSum X s sh (X.1 0 0) < 0 ∧ ¬ nI 999 < m_takeSum X s sh (X.1 0 0))
set_option maxRecDepth 20000 in
set_option maxHeartbeats 4000000 in
theorem w_wouldTake (h : qB) (b : Fin 16) (w : qw) (X : qm) (hR : RelC w X) (I : Inv X) {s : Nat} {sh : Int32} (hs : s < 4) : CtI mX1_wouldTake 1 [qR b 0, qI (nI s), qI sh] (q_put h b (wblk b w)) (fun r h2 => r = q_b (m_would X s sh) ∧ h2 = q_put h b (wblk b w)) := by
  refine ct_of (by decide +kernel) rfl rfl (Nat.le_of_ble_eq_true rfl) ?_
  show Ev mX1_wouldTake 1 0 [some (qR b 0), some (qI (nI s)), some (qI sh), none, none, none, none] [] 124 (q_put h b (wblk b w)) 0 0 _ _
  refine e_aload0 dX1_wouldTake_0 ?_
  refine e_getfieldF flX1_30 dX1_wouldTake_1 rfl rfl ?_
  refine e_iload1 dX1_wouldTake_4 ?_
  refine e_ialoadN dX1_wouldTake_5 rfl (by omega) (by decide) ?_
  refine e_iload2 dX1_wouldTake_6 ?_
  rw [rC9 hR _ hs]
  have i1 := iV1 I
  first | refine e_iaddN dX1_wouldTake_7 ?_ | refine e_iadd dX1_wouldTake_7 ?_
  refine e_istore3 dX1_wouldTake_8 rfl (by decide) ?_
  refine e_iconst (z := 0) dX1_wouldTake_9 ?_
  refine e_istore4 dX1_wouldTake_10 rfl (by decide) ?_
  have H : ∀ (m i : Nat) (v : Int32), i ≤ X.1 0 0 → m = X.1 0 0 - i → v = m_takeSum X s sh i → Ev mX1_wouldTake 1 12 [some (qR b 0), some (qI (nI s)), some (qI sh), some (qI v), some (qI (nI i)), none, none] [] 124 (q_put h b (wblk b w)) 0 0 (fun r n h' => ∃ x, r = some (qI x) ∧ n = 124 ∧ ((fun r h2 => r = q_b (m_would X s sh) ∧ h2 = q_put h b (wblk b w))) x h') qNo := by
    intro m
    induction m using Nat.strongRecOn with
    | _ m ih =>
    intro i v hi hm hv
    refine e_iload4 dX1_wouldTake_12 ?_
    refine e_aload0 dX1_wouldTake_14 ?_
    refine e_getfieldF flX1_49 dX1_wouldTake_15 rfl rfl ?_
    rw [rC0 hR]
    first | refine e_icmp_geN 86 dX1_wouldTake_18 (by decide) (by omega) (by omega) (fun hc18 => ?_) (fun hc18 => ?_) | refine e_icmp_ge 86 dX1_wouldTake_18 (by decide) (fun hc18 => ?_) (fun hc18 => ?_)
    · obtain rfl : i = X.1 0 0 := by omega
      subst hv
      refine e_iload3 dX1_wouldTake_86 ?_
      refine e_if_lt 101 dX1_wouldTake_87 (by decide) (fun hc87 => ?_) (fun hc87 => ?_)
      · refine e_iconst (z := 0) dX1_wouldTake_101 ?_
        refine e_zret dX1_wouldTake_102 rfl (by first | rfl | exact q_nar _) ?_
        exact ⟨_, rfl, rfl, by first | (refine q_b1 ?_; simp [m_would, *]; done) | (refine q_b0 ?_; simp [m_would, *]; done), rfl⟩
      · refine e_iload3 dX1_wouldTake_90 ?_
        refine e_sipush (v := nI 999) dX1_wouldTake_91 (by decide) ?_
        first | refine e_icmp_gtN 101 dX1_wouldTake_94 (by decide) (by omega) (by omega) (fun hc94 => ?_) (fun hc94 => ?_) | refine e_icmp_gt 101 dX1_wouldTake_94 (by decide) (fun hc94 => ?_) (fun hc94 => ?_)
        · refine e_iconst (z := 0) dX1_wouldTake_101 ?_
          refine e_zret dX1_wouldTake_102 rfl (by first | rfl | exact q_nar _) ?_
          exact ⟨_, rfl, rfl, by first | (refine q_b1 ?_; simp [m_would, *]; done) | (refine q_b0 ?_; simp [m_would, *]; done), rfl⟩
        · refine e_iconst (z := 1) dX1_wouldTake_97 ?_
          refine e_goto 102 dX1_wouldTake_98 (by decide) ?_
          refine e_zret dX1_wouldTake_102 rfl (by first | rfl | exact q_nar _) ?_
          exact ⟨_, rfl, rfl, by first | (refine q_b1 ?_; simp [m_would, *]; done) | (refine q_b0 ?_; simp [m_would, *]; done), rfl⟩
    · refine e_aload0 dX1_wouldTake_21 ?_
      refine e_iload4 dX1_wouldTake_22 ?_
      refine e_iload1 dX1_wouldTake_24 ?_
      refine e_vIF (M' := mX1_shareOf) fX1_shareOf lkX1_83 (w_shareOf h b w X hR (t := i) (s := s) (by omega) hs) rfl rfl dX1_wouldTake_25 rfl rfl (by decide) (Nat.le_of_ble_eq_true rfl) rfl ?_
      rintro _ _ ⟨rfl, rfl⟩
      refine e_istore5 dX1_wouldTake_28 rfl (by decide) ?_
      refine e_iload2 dX1_wouldTake_30 ?_
      refine e_if_ge 47 dX1_wouldTake_31 (by decide) (fun hc31 => ?_) (fun hc31 => ?_)
      · refine e_iload5 dX1_wouldTake_47 ?_
        refine e_if_le 56 dX1_wouldTake_49 (by decide) (fun hc49 => ?_) (fun hc49 => ?_)
        · refine e_iconst (z := 0) dX1_wouldTake_56 ?_
          refine e_istore6 dX1_wouldTake_57 rfl (by decide) ?_
          refine e_iload6 dX1_wouldTake_59 ?_
          first | refine e_if_eqN 80 dX1_wouldTake_61 (by decide) (by omega) (fun hc61 => ?_) (fun hc61 => ?_) | refine e_if_eq 80 dX1_wouldTake_61 (by decide) (fun hc61 => ?_) (fun hc61 => ?_)
          · first | refine e_iinc4N (z := 1) dX1_wouldTake_80 rfl (by decide) ?_ | refine e_iinc4 dX1_wouldTake_80 rfl rfl (by decide) ?_
            refine e_goto 12 dX1_wouldTake_83 (by decide) ?_
            refine e_drop5 (e_drop6 ?_)
            exact ih _ (by omega) (i + 1) _ (by omega) rfl (by first | (exfalso; omega) | (simp only [m_takeSum]; rw [if_neg (by rintro ⟨⟨a, a2⟩ | ⟨a, a2⟩, c⟩ <;> first | exact a hc31 | exact hc31 a | exact a2 hc36 | exact a2 hc49 | exact hc72 c)]; exact hv) | (simp only [m_takeSum]; rw [if_pos (by first | exact ⟨Or.inl ⟨hc31, hc36⟩, hc72⟩ | exact ⟨Or.inr ⟨hc31, hc49⟩, hc72⟩)]; rw [hv]))
          · refine e_aload0 dX1_wouldTake_64 ?_
            refine e_iload1 dX1_wouldTake_65 ?_
            refine e_iload4 dX1_wouldTake_66 ?_
            refine e_vIF (M' := mX1_stateOf) fX1_stateOf lkX1_80 (w_stateOf h b w X hR (t := i) (s := s) (by omega) hs) rfl rfl dX1_wouldTake_68 rfl rfl (by decide) (Nat.le_of_ble_eq_true rfl) rfl ?_
            rintro _ _ ⟨rfl, rfl⟩
            have ho := (iV6 I s i hs (by omega)).1
            refine e_iconst (z := 1) dX1_wouldTake_71 ?_
            first | refine e_icmp_neN 80 dX1_wouldTake_72 (by decide) (by omega) (by omega) (fun hc72 => ?_) (fun hc72 => ?_) | refine e_icmp_ne 80 dX1_wouldTake_72 (by decide) (fun hc72 => ?_) (fun hc72 => ?_)
            · first | refine e_iinc4N (z := 1) dX1_wouldTake_80 rfl (by decide) ?_ | refine e_iinc4 dX1_wouldTake_80 rfl rfl (by decide) ?_
              refine e_goto 12 dX1_wouldTake_83 (by decide) ?_
              refine e_drop5 (e_drop6 ?_)
              exact ih _ (by omega) (i + 1) _ (by omega) rfl (by first | (exfalso; omega) | (simp only [m_takeSum]; rw [if_neg (by rintro ⟨⟨a, a2⟩ | ⟨a, a2⟩, c⟩ <;> first | exact a hc31 | exact hc31 a | exact a2 hc36 | exact a2 hc49 | exact hc72 c)]; exact hv) | (simp only [m_takeSum]; rw [if_pos (by first | exact ⟨Or.inl ⟨hc31, hc36⟩, hc72⟩ | exact ⟨Or.inr ⟨hc31, hc49⟩, hc72⟩)]; rw [hv]))
            · refine e_iload3 dX1_wouldTake_75 ?_
              refine e_iload5 dX1_wouldTake_76 ?_
              first | refine e_iaddN dX1_wouldTake_78 ?_ | refine e_iadd dX1_wouldTake_78 ?_
              refine e_istore3 dX1_wouldTake_79 rfl (by decide) ?_
              first | refine e_iinc4N (z := 1) dX1_wouldTake_80 rfl (by decide) ?_ | refine e_iinc4 dX1_wouldTake_80 rfl rfl (by decide) ?_
              refine e_goto 12 dX1_wouldTake_83 (by decide) ?_
              refine e_drop5 (e_drop6 ?_)
              exact ih _ (by omega) (i + 1) _ (by omega) rfl (by first | (exfalso; omega) | (simp only [m_takeSum]; rw [if_neg (by rintro ⟨⟨a, a2⟩ | ⟨a, a2⟩, c⟩ <;> first | exact a hc31 | exact hc31 a | exact a2 hc36 | exact a2 hc49 | exact hc72 c)]; exact hv) | (simp only [m_takeSum]; rw [if_pos (by first | exact ⟨Or.inl ⟨hc31, hc36⟩, hc72⟩ | exact ⟨Or.inr ⟨hc31, hc49⟩, hc72⟩)]; rw [hv]))
        · refine e_iconst (z := 1) dX1_wouldTake_52 ?_
          refine e_goto 57 dX1_wouldTake_53 (by decide) ?_
          refine e_istore6 dX1_wouldTake_57 rfl (by decide) ?_
          refine e_iload6 dX1_wouldTake_59 ?_
          first | refine e_if_eqN 80 dX1_wouldTake_61 (by decide) (by omega) (fun hc61 => ?_) (fun hc61 => ?_) | refine e_if_eq 80 dX1_wouldTake_61 (by decide) (fun hc61 => ?_) (fun hc61 => ?_)
          · first | refine e_iinc4N (z := 1) dX1_wouldTake_80 rfl (by decide) ?_ | refine e_iinc4 dX1_wouldTake_80 rfl rfl (by decide) ?_
            refine e_goto 12 dX1_wouldTake_83 (by decide) ?_
            refine e_drop5 (e_drop6 ?_)
            exact ih _ (by omega) (i + 1) _ (by omega) rfl (by first | (exfalso; omega) | (simp only [m_takeSum]; rw [if_neg (by rintro ⟨⟨a, a2⟩ | ⟨a, a2⟩, c⟩ <;> first | exact a hc31 | exact hc31 a | exact a2 hc36 | exact a2 hc49 | exact hc72 c)]; exact hv) | (simp only [m_takeSum]; rw [if_pos (by first | exact ⟨Or.inl ⟨hc31, hc36⟩, hc72⟩ | exact ⟨Or.inr ⟨hc31, hc49⟩, hc72⟩)]; rw [hv]))
          · refine e_aload0 dX1_wouldTake_64 ?_
            refine e_iload1 dX1_wouldTake_65 ?_
            refine e_iload4 dX1_wouldTake_66 ?_
            refine e_vIF (M' := mX1_stateOf) fX1_stateOf lkX1_80 (w_stateOf h b w X hR (t := i) (s := s) (by omega) hs) rfl rfl dX1_wouldTake_68 rfl rfl (by decide) (Nat.le_of_ble_eq_true rfl) rfl ?_
            rintro _ _ ⟨rfl, rfl⟩
            have ho := (iV6 I s i hs (by omega)).1
            refine e_iconst (z := 1) dX1_wouldTake_71 ?_
            first | refine e_icmp_neN 80 dX1_wouldTake_72 (by decide) (by omega) (by omega) (fun hc72 => ?_) (fun hc72 => ?_) | refine e_icmp_ne 80 dX1_wouldTake_72 (by decide) (fun hc72 => ?_) (fun hc72 => ?_)
            · first | refine e_iinc4N (z := 1) dX1_wouldTake_80 rfl (by decide) ?_ | refine e_iinc4 dX1_wouldTake_80 rfl rfl (by decide) ?_
              refine e_goto 12 dX1_wouldTake_83 (by decide) ?_
              refine e_drop5 (e_drop6 ?_)
              exact ih _ (by omega) (i + 1) _ (by omega) rfl (by first | (exfalso; omega) | (simp only [m_takeSum]; rw [if_neg (by rintro ⟨⟨a, a2⟩ | ⟨a, a2⟩, c⟩ <;> first | exact a hc31 | exact hc31 a | exact a2 hc36 | exact a2 hc49 | exact hc72 c)]; exact hv) | (simp only [m_takeSum]; rw [if_pos (by first | exact ⟨Or.inl ⟨hc31, hc36⟩, hc72⟩ | exact ⟨Or.inr ⟨hc31, hc49⟩, hc72⟩)]; rw [hv]))
            · refine e_iload3 dX1_wouldTake_75 ?_
              refine e_iload5 dX1_wouldTake_76 ?_
              first | refine e_iaddN dX1_wouldTake_78 ?_ | refine e_iadd dX1_wouldTake_78 ?_
              refine e_istore3 dX1_wouldTake_79 rfl (by decide) ?_
              first | refine e_iinc4N (z := 1) dX1_wouldTake_80 rfl (by decide) ?_ | refine e_iinc4 dX1_wouldTake_80 rfl rfl (by decide) ?_
              refine e_goto 12 dX1_wouldTake_83 (by decide) ?_
              refine e_drop5 (e_drop6 ?_)
              exact ih _ (by omega) (i + 1) _ (by omega) rfl (by first | (exfalso; omega) | (simp only [m_takeSum]; rw [if_neg (by rintro ⟨⟨a, a2⟩ | ⟨a, a2⟩, c⟩ <;> first | exact a hc31 | exact hc31 a | exact a2 hc36 | exact a2 hc49 | exact hc72 c)]; exact hv) | (simp only [m_takeSum]; rw [if_pos (by first | exact ⟨Or.inl ⟨hc31, hc36⟩, hc72⟩ | exact ⟨Or.inr ⟨hc31, hc49⟩, hc72⟩)]; rw [hv]))
      · refine e_iload5 dX1_wouldTake_34 ?_
        refine e_if_ge 43 dX1_wouldTake_36 (by decide) (fun hc36 => ?_) (fun hc36 => ?_)
        · refine e_iconst (z := 0) dX1_wouldTake_43 ?_
          refine e_goto 57 dX1_wouldTake_44 (by decide) ?_
          refine e_istore6 dX1_wouldTake_57 rfl (by decide) ?_
          refine e_iload6 dX1_wouldTake_59 ?_
          first | refine e_if_eqN 80 dX1_wouldTake_61 (by decide) (by omega) (fun hc61 => ?_) (fun hc61 => ?_) | refine e_if_eq 80 dX1_wouldTake_61 (by decide) (fun hc61 => ?_) (fun hc61 => ?_)
          · first | refine e_iinc4N (z := 1) dX1_wouldTake_80 rfl (by decide) ?_ | refine e_iinc4 dX1_wouldTake_80 rfl rfl (by decide) ?_
            refine e_goto 12 dX1_wouldTake_83 (by decide) ?_
            refine e_drop5 (e_drop6 ?_)
            exact ih _ (by omega) (i + 1) _ (by omega) rfl (by first | (exfalso; omega) | (simp only [m_takeSum]; rw [if_neg (by rintro ⟨⟨a, a2⟩ | ⟨a, a2⟩, c⟩ <;> first | exact a hc31 | exact hc31 a | exact a2 hc36 | exact a2 hc49 | exact hc72 c)]; exact hv) | (simp only [m_takeSum]; rw [if_pos (by first | exact ⟨Or.inl ⟨hc31, hc36⟩, hc72⟩ | exact ⟨Or.inr ⟨hc31, hc49⟩, hc72⟩)]; rw [hv]))
          · refine e_aload0 dX1_wouldTake_64 ?_
            refine e_iload1 dX1_wouldTake_65 ?_
            refine e_iload4 dX1_wouldTake_66 ?_
            refine e_vIF (M' := mX1_stateOf) fX1_stateOf lkX1_80 (w_stateOf h b w X hR (t := i) (s := s) (by omega) hs) rfl rfl dX1_wouldTake_68 rfl rfl (by decide) (Nat.le_of_ble_eq_true rfl) rfl ?_
            rintro _ _ ⟨rfl, rfl⟩
            have ho := (iV6 I s i hs (by omega)).1
            refine e_iconst (z := 1) dX1_wouldTake_71 ?_
            first | refine e_icmp_neN 80 dX1_wouldTake_72 (by decide) (by omega) (by omega) (fun hc72 => ?_) (fun hc72 => ?_) | refine e_icmp_ne 80 dX1_wouldTake_72 (by decide) (fun hc72 => ?_) (fun hc72 => ?_)
            · first | refine e_iinc4N (z := 1) dX1_wouldTake_80 rfl (by decide) ?_ | refine e_iinc4 dX1_wouldTake_80 rfl rfl (by decide) ?_
              refine e_goto 12 dX1_wouldTake_83 (by decide) ?_
              refine e_drop5 (e_drop6 ?_)
              exact ih _ (by omega) (i + 1) _ (by omega) rfl (by first | (exfalso; omega) | (simp only [m_takeSum]; rw [if_neg (by rintro ⟨⟨a, a2⟩ | ⟨a, a2⟩, c⟩ <;> first | exact a hc31 | exact hc31 a | exact a2 hc36 | exact a2 hc49 | exact hc72 c)]; exact hv) | (simp only [m_takeSum]; rw [if_pos (by first | exact ⟨Or.inl ⟨hc31, hc36⟩, hc72⟩ | exact ⟨Or.inr ⟨hc31, hc49⟩, hc72⟩)]; rw [hv]))
            · refine e_iload3 dX1_wouldTake_75 ?_
              refine e_iload5 dX1_wouldTake_76 ?_
              first | refine e_iaddN dX1_wouldTake_78 ?_ | refine e_iadd dX1_wouldTake_78 ?_
              refine e_istore3 dX1_wouldTake_79 rfl (by decide) ?_
              first | refine e_iinc4N (z := 1) dX1_wouldTake_80 rfl (by decide) ?_ | refine e_iinc4 dX1_wouldTake_80 rfl rfl (by decide) ?_
              refine e_goto 12 dX1_wouldTake_83 (by decide) ?_
              refine e_drop5 (e_drop6 ?_)
              exact ih _ (by omega) (i + 1) _ (by omega) rfl (by first | (exfalso; omega) | (simp only [m_takeSum]; rw [if_neg (by rintro ⟨⟨a, a2⟩ | ⟨a, a2⟩, c⟩ <;> first | exact a hc31 | exact hc31 a | exact a2 hc36 | exact a2 hc49 | exact hc72 c)]; exact hv) | (simp only [m_takeSum]; rw [if_pos (by first | exact ⟨Or.inl ⟨hc31, hc36⟩, hc72⟩ | exact ⟨Or.inr ⟨hc31, hc49⟩, hc72⟩)]; rw [hv]))
        · refine e_iconst (z := 1) dX1_wouldTake_39 ?_
          refine e_goto 57 dX1_wouldTake_40 (by decide) ?_
          refine e_istore6 dX1_wouldTake_57 rfl (by decide) ?_
          refine e_iload6 dX1_wouldTake_59 ?_
          first | refine e_if_eqN 80 dX1_wouldTake_61 (by decide) (by omega) (fun hc61 => ?_) (fun hc61 => ?_) | refine e_if_eq 80 dX1_wouldTake_61 (by decide) (fun hc61 => ?_) (fun hc61 => ?_)
          · first | refine e_iinc4N (z := 1) dX1_wouldTake_80 rfl (by decide) ?_ | refine e_iinc4 dX1_wouldTake_80 rfl rfl (by decide) ?_
            refine e_goto 12 dX1_wouldTake_83 (by decide) ?_
            refine e_drop5 (e_drop6 ?_)
            exact ih _ (by omega) (i + 1) _ (by omega) rfl (by first | (exfalso; omega) | (simp only [m_takeSum]; rw [if_neg (by rintro ⟨⟨a, a2⟩ | ⟨a, a2⟩, c⟩ <;> first | exact a hc31 | exact hc31 a | exact a2 hc36 | exact a2 hc49 | exact hc72 c)]; exact hv) | (simp only [m_takeSum]; rw [if_pos (by first | exact ⟨Or.inl ⟨hc31, hc36⟩, hc72⟩ | exact ⟨Or.inr ⟨hc31, hc49⟩, hc72⟩)]; rw [hv]))
          · refine e_aload0 dX1_wouldTake_64 ?_
            refine e_iload1 dX1_wouldTake_65 ?_
            refine e_iload4 dX1_wouldTake_66 ?_
            refine e_vIF (M' := mX1_stateOf) fX1_stateOf lkX1_80 (w_stateOf h b w X hR (t := i) (s := s) (by omega) hs) rfl rfl dX1_wouldTake_68 rfl rfl (by decide) (Nat.le_of_ble_eq_true rfl) rfl ?_
            rintro _ _ ⟨rfl, rfl⟩
            have ho := (iV6 I s i hs (by omega)).1
            refine e_iconst (z := 1) dX1_wouldTake_71 ?_
            first | refine e_icmp_neN 80 dX1_wouldTake_72 (by decide) (by omega) (by omega) (fun hc72 => ?_) (fun hc72 => ?_) | refine e_icmp_ne 80 dX1_wouldTake_72 (by decide) (fun hc72 => ?_) (fun hc72 => ?_)
            · first | refine e_iinc4N (z := 1) dX1_wouldTake_80 rfl (by decide) ?_ | refine e_iinc4 dX1_wouldTake_80 rfl rfl (by decide) ?_
              refine e_goto 12 dX1_wouldTake_83 (by decide) ?_
              refine e_drop5 (e_drop6 ?_)
              exact ih _ (by omega) (i + 1) _ (by omega) rfl (by first | (exfalso; omega) | (simp only [m_takeSum]; rw [if_neg (by rintro ⟨⟨a, a2⟩ | ⟨a, a2⟩, c⟩ <;> first | exact a hc31 | exact hc31 a | exact a2 hc36 | exact a2 hc49 | exact hc72 c)]; exact hv) | (simp only [m_takeSum]; rw [if_pos (by first | exact ⟨Or.inl ⟨hc31, hc36⟩, hc72⟩ | exact ⟨Or.inr ⟨hc31, hc49⟩, hc72⟩)]; rw [hv]))
            · refine e_iload3 dX1_wouldTake_75 ?_
              refine e_iload5 dX1_wouldTake_76 ?_
              first | refine e_iaddN dX1_wouldTake_78 ?_ | refine e_iadd dX1_wouldTake_78 ?_
              refine e_istore3 dX1_wouldTake_79 rfl (by decide) ?_
              first | refine e_iinc4N (z := 1) dX1_wouldTake_80 rfl (by decide) ?_ | refine e_iinc4 dX1_wouldTake_80 rfl rfl (by decide) ?_
              refine e_goto 12 dX1_wouldTake_83 (by decide) ?_
              refine e_drop5 (e_drop6 ?_)
              exact ih _ (by omega) (i + 1) _ (by omega) rfl (by first | (exfalso; omega) | (simp only [m_takeSum]; rw [if_neg (by rintro ⟨⟨a, a2⟩ | ⟨a, a2⟩, c⟩ <;> first | exact a hc31 | exact hc31 a | exact a2 hc36 | exact a2 hc49 | exact hc72 c)]; exact hv) | (simp only [m_takeSum]; rw [if_pos (by first | exact ⟨Or.inl ⟨hc31, hc36⟩, hc72⟩ | exact ⟨Or.inr ⟨hc31, hc49⟩, hc72⟩)]; rw [hv]))
  exact H _ 0 _ (Nat.zero_le _) rfl rfl
