/-! MEANS -/
def fM (sum T : Nat) : UInt32 := FP.fdiv (FP.i2f (nI sum)) (FP.i2f (nI T))
def f_end : Nat → UInt32 → Nat → Option (UInt32 × Nat)
  | 0, _, _ => none
  | m + 1, x, e => match FP.fcmp x FP.fconst2 with
    | none => none
    | some .lt => some (x, e)
    | some .eq => if FP.fdiv x FP.fconst2 &&& 0x7fffffff ≤ 0x7f800000 then f_end m (FP.fdiv x FP.fconst2) (e + 1) else none
    | some .gt => if FP.fdiv x FP.fconst2 &&& 0x7fffffff ≤ 0x7f800000 then f_end m (FP.fdiv x FP.fconst2) (e + 1) else none
def f_chk (x : UInt32) : Bool := decide (x &&& 0x7fffffff ≤ 0x7f800000) && (decide (FP.fcmp x FP.fconst0 = some .gt) && (decide (FP.fcmp x x = some .eq) && (decide (FP.f2d x &&& 0x7fffffffffffffff ≤ 0x7ff0000000000000) && (decide (FP.dcmp (FP.f2d x) (FP.f2d x) = some .eq) && match f_end 8 x 127 with
  | none => false
  | some (y, e) => decide (FP.fsub y FP.fconst1 &&& 0x7fffffff ≤ 0x7f800000) && (decide (FP.fmul (FP.fsub y FP.fconst1) 1258291200 &&& 0x7fffffff ≤ 0x7f800000) && decide (nI e <<< (nI 23 &&& 31) + FP.f2i (FP.fmul (FP.fsub y FP.fconst1) 1258291200) = x.toInt32))))))
theorem f_all : ∀ T, T < 9 → ∀ s, s < 401 → (T == 0 || (decide (s < T) || (decide (50 * T < s) || f_chk (fM s T)))) = true := by decide +kernel
/-- a mean: 0, or one that all was tried of -/
def q_ff (x : UInt32) : Prop := x = FP.fconst0 ∨ f_chk x = true
def m_sz (X : qm) : Nat → Nat
  | 0 => 0
  | n + 1 => m_sz X n + X.1 4 n
def m_mean (X : qm) : UInt32 := if X.1 0 0 = 0 then FP.fconst0 else fM (m_sz X (X.1 0 0)) (X.1 0 0)
theorem m_sz_b {X : qm} (hJ : J X) : ∀ n, n ≤ X.1 0 0 → n ≤ m_sz X n ∧ m_sz X n ≤ 50 * n := by
  intro n
  induction n with
  | zero => intro _; exact ⟨Nat.le_refl _, Nat.le_refl _⟩
  | succ n ih =>
    intro hn
    obtain ⟨a, b⟩ := ih (by omega)
    have c := (hJ.2.2.2.2.2.2 n (by omega)).2.2
    have d := (iV4 hJ.1 n (by have := iV1 hJ.1; omega)).2.2.1
    rw [m_sz]
    omega
theorem m_mean_chk {X : qm} (hJ : J X) (h : ¬ X.1 0 0 = 0) : f_chk (fM (m_sz X (X.1 0 0)) (X.1 0 0)) = true := by
  have b := m_sz_b hJ _ (Nat.le_refl _)
  have h8 := iV1 hJ.1
  have a := f_all (X.1 0 0) (by omega) (m_sz X (X.1 0 0)) (by omega)
  rw [Bool.or_eq_true, Bool.or_eq_true, Bool.or_eq_true] at a
  rcases a with a | a | a | a
  · exact absurd (beq_iff_eq.mp a) h
  · exact absurd (of_decide_eq_true a) (by omega)
  · exact absurd (of_decide_eq_true a) (by omega)
  · exact a
theorem m_mean_ff {X : qm} (hJ : J X) : q_ff (m_mean X) := by
  unfold m_mean
  by_cases q : X.1 0 0 = 0
  · rw [if_pos q]; exact Or.inl rfl
  · rw [if_neg q]; exact Or.inr (m_mean_chk hJ q)
theorem f_chk_of {x : UInt32} (h : f_chk x = true) : vf_n32 x ∧ FP.fcmp x FP.fconst0 = some .gt ∧ FP.fcmp x x = some .eq ∧ vf_n64 (FP.f2d x) ∧ FP.dcmp (FP.f2d x) (FP.f2d x) = some .eq ∧ ∃ y e, f_end 8 x 127 = some (y, e) ∧ vf_n32 (FP.fsub y FP.fconst1) ∧ vf_n32 (FP.fmul (FP.fsub y FP.fconst1) 1258291200) ∧ nI e <<< (nI 23 &&& 31) + FP.f2i (FP.fmul (FP.fsub y FP.fconst1) 1258291200) = x.toInt32 := by
  unfold f_chk at h
  simp only [Bool.and_eq_true, decide_eq_true_eq] at h
  obtain ⟨h1, h2, h3, h4, h5, h6⟩ := h
  refine ⟨h1, h2, h3, h4, h5, ?_⟩
  split at h6
  · cases h6
  · rename_i y e he
    simp only [Bool.and_eq_true, decide_eq_true_eq] at h6
    exact ⟨y, e, he, h6.1, h6.2.1, h6.2.2⟩
theorem q_ff_self {x : UInt32} (h : q_ff x) : FP.fcmp x x = some .eq ∧ vf_n64 (FP.f2d x) ∧ FP.dcmp (FP.f2d x) (FP.f2d x) = some .eq := by
  rcases h with rfl | h
  · exact ⟨by decide +kernel, by unfold vf_n64; decide +kernel, by decide +kernel⟩
  · obtain ⟨-, -, a, b, c, -⟩ := f_chk_of h
    exact ⟨a, b, c⟩
theorem q_ofWF {l : Launch} {y : MethodName} {ws ws' : List Cond} {rm : Room} {Pc : Array Value → State → Prop} {Qc : Array Value → State → Outcome → State → Prop} {XC : String → State → State → Prop} {mc ms : Nat} {free : Addr → Prop} {cc : ByteArray} {maxL : Nat} {ret : Option FieldType}
    (hy : plainFor y = true) (hw : ws = Cond.code y cc maxL ret :: ws')
    (body : ∀ p e s m args below meth c s₁, BodyLoose p l y (headSpec ws rm) cc maxL ret e s m args below meth c s₁ → c.maxLocals = maxL → (∀ x ∈ c.exceptionTable.toList, False) → Pc args s →
      W p l e (headSpec ws rm).room s m args below meth c s.heap [] 0 0 (vx_MQ below Qc XC args s mc ms free) (entryFrame m args maxL)) : vx_Met l y ws rm Pc Qc XC mc ms free := by
  refine MetFree.of_bodySF (code := cc) (maxLocals := maxL) (ret := ret) hy ?_ ?_
  · intro args s m h hn
    obtain ⟨meth, c, h1, h2, h3, h4, h5, h6, -, -⟩ := Cond.code_spec hn (atoms_spec (ws := ws) h _ (by rw [hw]; exact List.mem_cons_self))
    exact ⟨meth, c, h1, h2, h3, h4, h5, h6⟩
  · intro p e s m args below meth c s₁ B hml hP _
    have hh0 : s₁.heap = s.heap := by rw [B.state]; rfl
    have ht : ∀ x ∈ c.exceptionTable.toList, False := by
      obtain ⟨meth9, c9, h1, h2, -, -, -, -, h7, -⟩ := Cond.code_spec B.named (atoms_spec (ws := ws) B.pre _ (by rw [hw]; exact List.mem_cons_self))
      cases Option.some.inj (h1.symm.trans B.method)
      cases Option.some.inj (h2.symm.trans (Stand.of_body B).code)
      intro x hx
      rw [Array.isEmpty_iff.mp h7] at hx
      cases hx
    obtain ⟨t, a1, o, b1, b2, b3⟩ := body p e s m args below meth c s₁ B hml ht hP s₁ hh0 (Stand.of_body B)
    exact ⟨t, o, a1, b1, b2, b3⟩
theorem ct_ofF {M : qM} {d mc ms : Nat} {as : List qV} {n : Nat} {h : qB} {P : qP} {X : qX} (hp : plainFor M.1 = true) (hh : M.2.2.2.2.1 = []) (hsx : M.2.2.2.2.2 = none) (hl : (q_en as).length ≤ M.2.2.1)
    (k : Ev M d 0 (q_ent M.2.2.1 as) [] n h mc ms P X) : Ct M d mc ms as n h P X := by
  intro G l hst
  refine q_ofWF (cc := M.2.1) (maxL := M.2.2.1) (ret := M.2.2.2.1) hp (q_wd_code hh) ?_
  intro p e s m args below meth c s₁ B hml ht hv
  obtain ⟨rfl, hK, hP, hz, hu⟩ := hv
  rw [lg_entry_eq]
  have hts := atoms_spec (ws := q_wd M) B.pre
  refine k G p l e (q_rm d mc ms) s m _ below meth c s.heap [] _ ⟨B.exec, B.bytes, hml, findClass_of_methodNamed B.named, fun w hw => hts w (List.mem_cons_of_mem _ hw), B.returns, B.notSynchronized, ?_, hst, (name_of_methodNamed B.named B.method).1, hK, Nat.le_refl _, Nat.le_refl _, fun sx hx => ?_⟩ (q_ent_lo G hl) hP hz va_S.rf 0 0 (fun hn => by simpa using hu hn) (by show 0 + mc ≤ mc; omega) (by show 0 + ms ≤ ms; omega)
  · rw [hh]
    cases hq : c.exceptionTable.toList with
    | nil => rfl
    | cons a t => exact (ht a (by rw [hq]; exact List.mem_cons_self)).elim
  · rw [hsx] at hx; cases hx
