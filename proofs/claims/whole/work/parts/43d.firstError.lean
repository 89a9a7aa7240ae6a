def a_run (A : qA) : qA := ((t_run (aT A) (aL A) (aX A)).1, ((m_svC (aC A), m_sv (aC A) (aS A) (aX A)), (A.2.2.1, (0, aT A))))
def S_firstError (A : qA) (code : Nat) (v : Int32) (A2 : qA) : Prop :=
  (code = 0 ∧ v = nI (t_err (aT A) (aL A)) ∧ A = A2)
def S_runCourse (A : qA) (code : Nat) (v : Int32) (A2 : qA) : Prop :=
  (t_ok (aT A) (aL A) = false ∧ code = 1 ∧ A = A2) ∨
  (t_ok (aT A) (aL A) = true ∧ code = 0 ∧ v = nI (t_runN (aT A) (aL A) (aX A)) ∧ A2 = a_run A)
theorem t_ok_err {tx : Nat → Nat} {n : Nat} (h : t_ok tx n = true) : t_err tx n = n := by
  unfold t_ok at h
  rw [Bool.and_eq_true] at h
  exact of_decide_eq_true h.1
set_option maxRecDepth 20000 in
set_option maxHeartbeats 4000000 in
theorem p_firstError (h : qB) {n : Nat} {A : qA} (hG : GA n A) {F : List qE} (hB : RB A F) {code : Nat} {v : Int32} {A2 : qA} (hS : S_firstError A code v A2) : CtI mX3_firstError 12 [qR 11 0] (q_put h 11 F) (fun r h2 => ∃ F', RBt A2 F' (nI code) ∧ (code = 0 → r = v) ∧ h2 = q_put h 11 F') := by
  obtain ⟨th, sf, asd, sts, snp, txt, rdd, pt, iw, rm, rfl, hR, hS2, hY, hT⟩ := hB
  have hJ := hG.1.1
  have hW := wk_J hJ
  have hT61 : (aX A).1 0 0 < 61 := Nat.lt_of_le_of_lt hW.1 (by decide)
  have hW61 : (aX A).1 0 4 < 61 := Nat.lt_of_le_of_lt hW.2.1 (by decide)
  have hT31 : (aX A).1 0 0 < 2 ^ 31 := Nat.lt_of_lt_of_le hT61 (by decide)
  have hW31 : (aX A).1 0 4 < 2 ^ 31 := Nat.lt_of_lt_of_le hW61 (by decide)
  obtain ⟨rfl, rfl, rfl⟩ := hS
  refine ct_of (by decide +kernel) rfl rfl (Nat.le_of_ble_eq_true rfl) ?_
  show Ev mX3_firstError 12 0 [some (qR 11 0)] [] 132 (q_put h 11 (oR th sf asd sts snp txt rdd (nI (aC A)) (nI (aN A)) (nI (aL A)) pt iw rm)) 0 0 _ _
  refine e_aload0 dX3_firstError_0 ?_
  refine e_iconst (z := 0) dX3_firstError_1 ?_
  refine e_putfieldF flX3_28 dX3_firstError_2 rfl (Nat.le_of_ble_eq_true rfl) (fun _ => rfl) (fun _ => rfl) ?_
  refine e_aload0 dX3_firstError_5 ?_
  refine e_vIF (M' := mX3_readsCourse) fX3_readsCourse lkX3_184 (rp_course h (nI 0) sf asd sts snp txt rdd (nI (aC A)) (nI (aN A)) (tx := aT A) (nt := aL A) hG.2.2.2.2.2.1 (fun i hi => ⟨hT i hi, (hG.2.2.2.2.2.2 i hi).1, (hG.2.2.2.2.2.2 i hi).2⟩) pt iw rm) rfl rfl dX3_firstError_6 rfl rfl (by decide) (Nat.le_of_ble_eq_true rfl) rfl ?_
  rintro _ _ ⟨rfl, r2, m2, iw2, rfl, hE⟩
  cases hok : t_ok (aT A) (aL A)
  · refine e_if_eqN 19 dX3_firstError_9 (by decide) (by decide) (fun _ => ?_) (fun q => absurd rfl q)
    refine e_aload0 dX3_firstError_19 ?_
    refine e_getfieldF flX3_159 dX3_firstError_20 rfl rfl ?_
    refine e_iret dX3_firstError_23 rfl ?_
    exact ⟨_, rfl, rfl, _, ⟨sf, asd, sts, snp, txt, r2, nI (t_err (aT A) (aL A)), iw2, nI m2, rfl, hR, hS2, hY, hT⟩, fun _ => rfl, rfl⟩
  · refine e_if_eqN 19 dX3_firstError_9 (by decide) (by decide) (fun q => absurd q (by decide)) (fun _ => ?_)
    refine e_aload0 dX3_firstError_12 ?_
    refine e_getfieldF flX3_156 dX3_firstError_13 rfl rfl ?_
    refine e_goto 23 dX3_firstError_16 (by decide) ?_
    refine e_iret dX3_firstError_23 rfl ?_
    exact ⟨_, rfl, rfl, _, ⟨sf, asd, sts, snp, txt, r2, nI (t_err (aT A) (aL A)), iw2, nI m2, rfl, hR, hS2, hY, hT⟩, fun _ => by rw [t_ok_err hok], rfl⟩
