/-! FIELDS, NEW CELLS, CALLS, THROWS -/
/-- a field's link: of which kind, which field, its type, whether it is final -/
def q_FL (own : String) (idx ci k : Nat) (ty : FieldType) (fin : Bool) : Prop := ∃ (C : String) (T : u_T) (N : Nat) (ty0 : Nat → FieldType),
  vwCl[ci]? = some (C, T, N) ∧ k < N ∧ Cond.fieldLink own idx (T k).1 (T k).2.1 (T k).2.2.1 ∈ lwA ∧ (∀ w ∈ u_ws C T N, w ∈ lwA) ∧ (∀ k, k < N → parseFieldDescriptor (T k).2.2.1 = some (ty0 k)) ∧
  (∀ a, a < N → ∀ b, b < N → a ≠ b → (T a).2.1 ≠ (T b).2.1) ∧ parseFieldDescriptor (T k).2.2.1 = some ty ∧ (T k).2.2.2 = fin
theorem q_e_O (G : qG) (ci : Nat) (fs : List qV) : q_e G (eO ci fs) = .inr (ci, fs.map (q_v G)) := rfl
theorem e_getfield {M : qM} {d pc : Nat} {L : List (Option qV)} {st : List qV} {n : Nat} {h : qB} {kc ks : Nat} {P : qP} {X : qX} {idx ci j : Nat} {ty : FieldType} {fin : Bool} {b o : Fin 16} {fs : List qV} {v : qV}
    (hf : q_FL M.1.cls idx ci j ty fin) (dg : decode M.2.1 pc = .ok (.getfield idx, 3)) (hF : (h b)[o.val]? = some (eO ci fs)) (hv : fs[j]? = some v)
    (k : Ev M d (pc + 3) L (v :: st) n h kc ks P X) : Ev M d pc L (qR b o :: st) n h kc ks P X := by
  intro G p l e R s m args below meth c H locs ls C hl hP hz hS cells slots hu hc hs
  obtain ⟨q0, h0⟩ := q_ws_of (G := G) (k := (b, o)) hF
  obtain ⟨hx, hb, hml, hown, hts, hrt, hlocks, htab, hst, hnm, hK, hdR, hlR⟩ := id C
  obtain ⟨CC, T, N, ty0, f1, f2, f3, f4, f5, f6, f7, f8⟩ := hf
  exact va_get (fs := fs.map (q_v G)) hx hb hts f4 hown hK.1 hP q0 h0 f1 j f2 (hts _ f3) (fun _ h9 => h9) (v := q_v G v) (by rw [List.getElem?_map, hv]; rfl) dg (k G p l e R s m args below meth c H locs ls C hl hP hz hS cells slots hu hc hs)
theorem e_getfieldF {M : qM} {d pc : Nat} {L : List (Option qV)} {st : List qV} {n : Nat} {h : qB} {kc ks : Nat} {P : qP} {X : qX} {idx ci j : Nat} {ty : FieldType} {fin : Bool} {b o : Fin 16} {fs : List qV} {v : qV} {F : List qE}
    (hf : q_FL M.1.cls idx ci j ty fin) (dg : decode M.2.1 pc = .ok (.getfield idx, 3)) (hF : F[o.val]? = some (eO ci fs)) (hv : fs[j]? = some v)
    (k : Ev M d (pc + 3) L (v :: st) n (q_put h b F) kc ks P X) : Ev M d pc L (qR b o :: st) n (q_put h b F) kc ks P X := e_getfield hf dg (by rw [q_put_at]; exact hF) hv k
theorem e_putfield {M : qM} {d pc : Nat} {L : List (Option qV)} {st : List qV} {n : Nat} {h : qB} {kc ks : Nat} {P : qP} {X : qX} {idx ci j : Nat} {ty : FieldType} {b o : Fin 16} {fs : List qV} {v : qV}
    (hf : q_FL M.1.cls idx ci j ty false) (dg : decode M.2.1 pc = .ok (.putfield idx, 3)) (hF : (h b)[o.val]? = some (eO ci fs)) (hj : j < fs.length) (hn : ∀ G, narrow ty (q_v G v) = q_v G v) (hfit : ∀ G, fits ty (q_v G v) = true)
    (k : Ev M d (pc + 3) L st n (q_up h (b, o) (eO ci (fs.set j v))) kc ks P X) : Ev M d pc L (v :: qR b o :: st) n h kc ks P X := by
  intro G p l e R s m args below meth c H locs ls C hl hP hz hS cells slots hu hc hs
  obtain ⟨q0, h0⟩ := q_ws_of (G := G) (k := (b, o)) hF
  obtain ⟨hx, hb, hml, hown, hts, hrt, hlocks, htab, hst, hnm, hK, hdR, hlR⟩ := id C
  obtain ⟨CC, T, N, ty0, f1, f2, f3, f4, f5, f6, f7, f8⟩ := hf
  refine va_put (fs := fs.map (q_v G)) hx hb hts f4 ty0 f5 f6 hown hK.1 hP (q_D G h) (q_S_self hS) q0 h0 f1 j f2 (hts _ f3) (fun _ h9 => h9) f8 f7 (hn G) (hfit G) (by rw [List.length_map]; exact hj) dg (fun H1 locs1 hP1 _ hS1 => ?_)
  rw [← List.map_set] at hP1
  exact k G p l e R s m args below meth c H1 locs1 ls C hl (q_P_set (e' := eO ci (fs.set j v)) hF h0 hP1) (q_lb_le hz hS1.1) (q_S_trans hS hS1) cells slots hu hc hs
theorem e_putfieldF {M : qM} {d pc : Nat} {L : List (Option qV)} {st : List qV} {n : Nat} {h : qB} {kc ks : Nat} {P : qP} {X : qX} {idx ci j : Nat} {ty : FieldType} {b o : Fin 16} {fs : List qV} {v : qV} {F : List qE}
    (hf : q_FL M.1.cls idx ci j ty false) (dg : decode M.2.1 pc = .ok (.putfield idx, 3)) (hF : F[o.val]? = some (eO ci fs)) (hj : j < fs.length) (hn : ∀ G, narrow ty (q_v G v) = q_v G v) (hfit : ∀ G, fits ty (q_v G v) = true)
    (k : Ev M d (pc + 3) L st n (q_put h b (F.set o.val (eO ci (fs.set j v)))) kc ks P X) : Ev M d pc L (v :: qR b o :: st) n (q_put h b F) kc ks P X := e_putfield hf dg (by rw [q_put_at]; exact hF) hj hn hfit (by rw [q_up_put]; exact k)
/-- a final field, in its class's constructor -/
theorem e_putfieldI {M : qM} {d pc : Nat} {L : List (Option qV)} {st : List qV} {n : Nat} {h : qB} {kc ks : Nat} {P : qP} {X : qX} {idx ci j : Nat} {ty : FieldType} {b o : Fin 16} {fs : List qV} {v : qV} {F : List qE}
    (hi : M.1.name = "<init>") (hd0 : ∀ CC T N, vwCl[ci]? = some (CC, T, N) → (T j).1 = M.1.cls) (hf : q_FL M.1.cls idx ci j ty true) (dg : decode M.2.1 pc = .ok (.putfield idx, 3)) (hF : F[o.val]? = some (eO ci fs)) (hj : j < fs.length) (hn : ∀ G, narrow ty (q_v G v) = q_v G v) (hfit : ∀ G, fits ty (q_v G v) = true)
    (k : Ev M d (pc + 3) L st n (q_put h b (F.set o.val (eO ci (fs.set j v)))) kc ks P X) : Ev M d pc L (v :: qR b o :: st) n (q_put h b F) kc ks P X := by
  intro G p l e R s m args below meth c H locs ls C hl hP hz hS cells slots hu hc hs
  have hF' : ((q_put h b F) b)[o.val]? = some (eO ci fs) := by rw [q_put_at]; exact hF
  obtain ⟨q0, h0⟩ := q_ws_of (G := G) (k := (b, o)) hF'
  obtain ⟨hx, hb, hml, hown, hts, hrt, hlocks, htab, hst, hnm, hK, hdR, hlR⟩ := id C
  obtain ⟨CC, T, N, ty0, f1, f2, f3, f4, f5, f6, f7, f8⟩ := hf
  refine va_putF (fs := fs.map (q_v G)) hx hb hts f4 ty0 f5 f6 hown hK.1 hP (q_D G _) (q_S_self hS) q0 h0 f1 j f2 (hts _ f3) (fun _ h9 => h9) f8 (hnm.trans hi) (hd0 _ _ _ f1) f7 (hn G) (hfit G) (by rw [List.length_map]; exact hj) dg (fun H1 locs1 hP1 _ hS1 => ?_)
  rw [← List.map_set] at hP1
  have hP2 := q_P_set (e' := eO ci (fs.set j v)) hF' h0 hP1
  rw [q_up_put] at hP2
  exact k G p l e R s m args below meth c H1 locs1 ls C hl hP2 (q_lb_le hz hS1.1) (q_S_trans hS hS1) cells slots hu hc hs
/-- rows of references -/
theorem e_aaload {M : qM} {d pc : Nat} {L : List (Option qV)} {st : List qV} {n : Nat} {h : qB} {kc ks : Nat} {P : qP} {X : qX} {b o : Fin 16} {N : Nat} {f : Nat → Option qK} {i : Nat} {k1 : qK}
    (dg : decode M.2.1 pc = .ok (.aaload, 1)) (hF : (h b)[o.val]? = some (eQ N f)) (hi : i < N) (hN : N < 2147483648) (hk : f i = some k1)
    (k : Ev M d (pc + 1) L (qR k1.1 k1.2 :: st) n h kc ks P X) : Ev M d pc L (qI (nI i) :: qR b o :: st) n h kc ks P X := by
  intro G p l e R s m args below meth c H locs ls C hl hP hz hS cells slots hu hc hs
  obtain ⟨q0, h0⟩ := q_ws_of (G := G) (k := (b, o)) hF
  refine va_aldq (f := fun j => (f j).map (q_ad G)) C.1 C.2.1 C.2.2.2.2.2.2.2.2.2.2.1.1 hP q0 2 h0 rfl (vp_in_nI hi hN) dg ?_
  rw [nI_clamp (Nat.lt_trans hi hN), hk]
  exact k G p l e R s m args below meth c H locs ls C hl hP hz hS cells slots hu hc hs
theorem e_aastore {M : qM} {d pc : Nat} {L : List (Option qV)} {st : List qV} {n : Nat} {h : qB} {kc ks : Nat} {P : qP} {X : qX} {b o b1 o1 : Fin 16} {N : Nat} {f : Nat → Option qK} {i : Nat} {fs : List qV}
    (dg : decode M.2.1 pc = .ok (.aastore, 1)) (hF : (h b)[o.val]? = some (eQ N f)) (hv : (h b1)[o1.val]? = some (eO 1 fs)) (hi : i < N) (hN : N < 2147483648)
    (k : Ev M d (pc + 1) L st n (q_up h (b, o) (eQ N (fun j => if j = i then some (b1, o1) else f j))) kc ks P X) : Ev M d pc L (qR b1 o1 :: qI (nI i) :: qR b o :: st) n h kc ks P X := by
  intro G p l e R s m args below meth c H locs ls C hl hP hz hS cells slots hu hc hs
  obtain ⟨q0, h0⟩ := q_ws_of (G := G) (k := (b, o)) hF
  obtain ⟨q1, h1⟩ := q_ws_of (G := G) (k := (b1, o1)) hv
  refine va_astq (r := (RX1, TX1, 18)) (f := fun j => (f j).map (q_ad G)) C.1 C.2.1 C.2.2.2.2.2.2.2.2.2.2.1.1 hP (q_D G h) (q_S_self hS) q0 2 q1 1 h0 rfl h1 rfl (vp_in_nI hi hN) dg (fun H1 locs1 hP1 _ hS1 => ?_)
  have he : (va_up (fun j => (f j).map (q_ad G)) (nI i).toNatClampNeg (some (q_ad G (b1, o1)))) = fun j => ((fun j => if j = i then some (b1, o1) else f j) j).map (q_ad G) := by
    funext j
    rw [nI_clamp (Nat.lt_trans hi hN)]
    by_cases hj : j = i <;> simp [va_up, hj]
  rw [he] at hP1
  exact k G p l e R s m args below meth c H1 locs1 ls C hl (q_P_set (e' := eQ N (fun j => if j = i then some (b1, o1) else f j)) hF h0 hP1) (q_lb_le hz hS1.1) (q_S_trans hS hS1) cells slots hu hc hs
/-- a stretch of one row of ints copied into another -/
def q_cpy (f g : Nat → Int32) (N : Nat) : Nat → Int32 := fun j => if j < N then f j else g j
theorem e_arraycopy {M : qM} {d pc : Nat} {L : List (Option qV)} {st : List qV} {n : Nat} {h : qB} {kc ks : Nat} {P : qP} {X : qX} {idx : Nat} {b o b1 o1 : Fin 16} {N N0 N1 : Nat} {f g : Nat → Int32}
    (hm : Cond.methodLink M.1.cls idx arraycopyName ∈ lwA) (hnat : Cond.native arraycopyName ∈ lwA) (hstat : Cond.static arraycopyName ∈ lwA) (hini : Cond.initialized "java/lang/System" ∈ lwA)
    (hd : 1 ≤ d) (hst : (st.map fun v => if q_wide v then 2 else 1).sum ≤ 8) (hnw : nativeFrameWords "java/lang/System" "arraycopy" 5 + 11 ≤ 30)
    (dg : decode M.2.1 pc = .ok (.invokestatic idx, 3)) (hF : (h b)[o.val]? = some (eI N0 f)) (hF1 : (h b1)[o1.val]? = some (eI N1 g)) (h0 : N ≤ N0) (h1 : N ≤ N1) (hN : N < 2147483648)
    (k : Ev M d (pc + 3) L st n (q_up h (b1, o1) (eI N1 (q_cpy f g N))) kc ks P X) :
    Ev M d pc L (qI (nI N) :: qI (nI 0) :: qR b1 o1 :: qI (nI 0) :: qR b o :: st) n h kc ks P X := by
  intro G p l e R s m args below meth c H locs ls C hl hP hz hS cells slots hu hc hs
  obtain ⟨q0, hq0⟩ := q_ws_of (G := G) (k := (b, o)) hF
  obtain ⟨q1, hq1⟩ := q_ws_of (G := G) (k := (b1, o1)) hF1
  obtain ⟨hx, hb, hml, hown, hts, hrt, hlocks, htab, hstr, hnm, hK, hdR, hlR, hsx⟩ := id C
  have hclN : (nI N).toNatClampNeg = N := nI_clamp (by omega)
  have hcl0 : (nI 0).toNatClampNeg = 0 := nI_clamp (by decide)
  have hsum : ((st.map (q_v G)).map fun v => v.category).sum ≤ 8 := by
    rw [List.map_map]
    have he : ((fun v : Value => v.category) ∘ q_v G) = fun v => if q_wide v then 2 else 1 := by
      funext v
      exact q_cat G v
    rw [he]; exact hst
  refine va_copyi (f := f) (g := g) (ty := .int) hx hb (hml.trans hl.1.symm) hown (hts _ hm) (hts _ hnat) (hts _ hstat) (hts _ hini) hK.1 hP (q_D G h) (q_S_self hS) q0 q1 0 0 hq0 hq1 rfl rfl rfl (nI_pos (by decide)) (nI_pos (by decide)) (nI_pos (by omega)) (by rw [hclN, hcl0]; omega) (by rw [hclN, hcl0]; omega) (fun _ _ => rfl) (by omega) (by omega) dg (fun H1 locs1 hP1 _ hS1 => ?_)
  have he : va_cpy f g (nI 0).toNatClampNeg (nI 0).toNatClampNeg (nI N).toNatClampNeg = q_cpy f g N := by
    funext j
    rw [hclN, hcl0]
    unfold q_cpy
    by_cases hj : j < N
    · rw [pk_cpy_in (Nat.zero_le j) (by omega), if_pos hj]; congr 1; omega
    · rw [pk_cpy_out (Or.inr (by omega)), if_neg hj]
  rw [he] at hP1
  exact k G p l e R s m args below meth c H1 locs1 ls C hl (q_P_set (e' := eI N1 (q_cpy f g N)) hF1 hq1 hP1) (q_lb_le hz hS1.1) (q_S_trans hS hS1) cells slots hu hc hs
