/-! HANDLERS: a call whose throw the method itself takes; a static call of a method with handlers -/
theorem Ct.imp {M : qM} {d mc ms : Nat} {as : List qV} {n : Nat} {h : qB} {P P' : qP} {X X' : qX} (hc : Ct M d mc ms as n h P X) (hP : ∀ r n h, P r n h → P' r n h) (hX : ∀ E n h, X E n h → X' E n h) : Ct M d mc ms as n h P' X' := by
  intro G l hst
  have hm := hc G l hst
  intro p e ha hcas hck s m args below hf happ hp hK
  obtain ⟨n', o, h1, h2, h3, h4⟩ := hm p e ha hcas hck s m args below hf happ hp hK
  refine ⟨n', o, h1, h2, h3, ?_⟩
  rcases h4 with ⟨⟨⟨v, n2, h2', e1, e2, e3⟩, e4⟩, e5⟩ | ⟨q, e1, E, ce, L, ⟨⟨n2, h2', x1, x2⟩, x3⟩, x4⟩
  · exact Or.inl ⟨⟨⟨v, n2, h2', e1, hP _ _ _ e2, e3⟩, e4⟩, e5⟩
  · exact Or.inr ⟨q, e1, E, ce, L, ⟨⟨n2, h2', hX _ _ _ x1, x2⟩, x3⟩, x4⟩
/-- the handler of E for a throw at pc: rows ahead don't take it; the throwable goes into local i and is forgotten -/
def q_HD (M : qM) (pc : Nat) (E : String) (i tgt : Nat) : Prop := ∃ (pre : List ExceptionTableEntry) (x : ExceptionTableEntry) (suf : List ExceptionTableEntry) (nm : String),
  tableOf M.2.2.2.2.1 = pre ++ x :: suf ∧ (∀ z ∈ pre, covers z pc = false ∨ (z.catchType ≠ 0 ∧ ∃ nz, Cond.classLink M.1.cls z.catchType nz ∈ lwA ∧ (E, nz) ∈ q_ncs)) ∧ covers x pc = true ∧ x.catchType ≠ 0 ∧ Cond.classLink M.1.cls x.catchType nm ∈ lwA ∧ Cond.castable E nm ∈ q_nest ∧
  ((∃ k : Fin 4, (k : Nat) = i ∧ decode M.2.1 x.handlerPc = .ok (.astore_n k, 1) ∧ tgt = x.handlerPc + 1) ∨ (decode M.2.1 x.handlerPc = .ok (.astore i, 2) ∧ tgt = x.handlerPc + 2))
theorem e_callVH {M M' : qM} {d d' pc idx mc ms : Nat} {L : List (Option qV)} {st rest as : List qV} {n : Nat} {h : qB} {kc ks : Nat} {P PC : qP} {X XC : qX} {b o : Fin 16} {ci : Nat} {fs : List qV} {T : u_T} {N : Nat}
    (hM : q_MV M' as.length) (hl : Cond.methodLink M.1.cls idx M'.1 ∈ lwA) (hc : Ct M' d' mc ms (qR b o :: as) n h PC XC) (hst : st = as.reverse ++ qR b o :: rest) (dg : decode M.2.1 pc = .ok (.invokevirtual idx, 3))
    (hF : (h b)[o.val]? = some (eO ci fs)) (hcl : vwCl[ci]? = some (M'.1.cls, T, N)) (hd : d' + 1 ≤ d) (hr : q_cats rest ≤ 8) (hkc : mc ≤ kc) (hks : ms ≤ ks)
    (hnn : ∀ v n' h', PC v n' h' → n' < 132 → n + mc ≤ n')
    (kx : ∀ E n' h', XC E n' h' → (n' < 132 → n + mc ≤ n') ∧ ∃ i tgt, q_HD M pc E i tgt ∧ q_nw L i = true ∧ i < M.2.2.1 ∧ Ev M d tgt (L.set i none) [] n' h' (kc - mc) (ks - ms) P X)
    (kk : ∀ v n' h', PC v n' h' → Ev M d (pc + 3) L (v.toList ++ rest) n' h' (kc - mc) (ks - ms) P X) : Ev M d pc L st n h kc ks P X := by
  intro G p l e R s m args below meth c H locs ls C hlo hP hz hS cells slots hu hcc hss
  obtain ⟨hx, hb, hml, hown, hts, hrt, hlocks, htab, hstr, hnm, hK, hdR, hlR, hsx⟩ := id C
  obtain ⟨⟨m1, m2, m3, m4, m5, m6⟩, m7, m8⟩ := hM
  subst hst
  refine qw_size fun hsz => ?_
  obtain ⟨q0, h0⟩ := q_ws_of (G := G) (k := (b, o)) hF
  have hrun := vx_runV (H := H) (locs := locs) (As := as.map (q_v G)) (rest := rest.map (q_v G)) (b := q_ad G (b, o)) (e := e) (below := below) (meth := meth) (cells := cells) (slots := slots) (g := F0 m pc ls ((as.reverse ++ qR b o :: rest).map (q_v G)))
    ⟨hx, hb, hml, hown, hts⟩ (hc G l hstr) (C := M'.1.cls) (own := M.1.cls) (index := idx) (bytes := M'.2.1) (maxL := M'.2.2.1) (ret := M'.2.2.2.1) (n := as.length) (R := R)
    ⟨callB_of as.length hts (q_good m1 m2) (q_wd_code m1) rfl rfl (hts _ m6) (hts _ hl) ⟨m3.1, m3.2, m4⟩ ⟨by show d' + 1 ≤ R.frames; omega, by show 8 + (M'.2.2.1 + 11) + 40 * d' ≤ R.locals; omega⟩, hts _ m7, hts _ m8⟩
    ⟨q_blind G _ n h, va_recv hK.1 hP hcl h0, q_pre (av := qR b o :: as) hK hP hz hS hu hsz⟩ rfl (by rw [List.length_map]) hlo.1 (by rw [q_st_eq]; rfl) (lv_room (by rw [q_cats_eq]; exact hr)) dg ⟨by omega, by omega⟩
  refine qw_call hrun hS (fun E n' h' H1 locs1 ce q9 f1 f2 f3 f4 f5 f6 f7 => ?_) (fun v n' h' H1 locs1 f1 f2 f3 f4 => ?_)
  · obtain ⟨hn9, i, tgt, ⟨pre, x, suf, nm, t1, t2, t3, t4, t5, t6, t7⟩, hnw, hi, kv⟩ := kx _ _ _ f1
    refine vx_catch (own := M.1.cls) (name := nm) (E := E) hown pre x suf (by rw [htab]; exact t1) (fun z hz9 => ?_) t3 t4 (hts _ t5) (va_Nw.use (q_nest_ot _ t6) (hK.2.2.2.2.2.1 _ t6)) f5 f6 f7 ?_
    · rcases t2 z hz9 with h9 | ⟨z0, nz, l1, l2⟩
      · exact Or.inl h9
      · exact Or.inr ⟨z0, nz, hts _ l1, hK.2.2.2.2.2.2.2.1.2 _ l2⟩
    · rcases t7 with ⟨k, hk, dg1, rfl⟩ | ⟨dg1, rfl⟩
      · exact lv_astore_n (lv' := _) hx hb dg1 hk hlo hi rfl (fun ls2 hl2 => kv G p l e R s m args below meth c H1 locs1 ls2 C (q_lo_none (i := i) hnw hl2) f2 f3 f4 (cells + mc) (slots + ms) (fun hn => by have h9 := hn9 hn; have h8 := hu (by omega); omega) (by omega) (by omega))
      · exact lv_astore (lv' := _) hx hb dg1 hlo hi rfl (fun ls2 hl2 => kv G p l e R s m args below meth c H1 locs1 ls2 C (q_lo_none (i := i) hnw hl2) f2 f3 f4 (cells + mc) (slots + ms) (fun hn => by have h9 := hn9 hn; have h8 := hu (by omega); omega) (by omega) (by omega))
  · rw [q_vs_eq]
    exact kk v n' h' f1 G p l e R s m args below meth c H1 locs1 ls C hlo f2 f3 f4 (cells + mc) (slots + ms) (fun hn => by have h9 := hnn _ _ _ f1 hn; have h8 := hu (by omega); omega) (by omega) (by omega)
/-- a method with handlers that never throws -/
def q_MSW (M : qM) (na : Nat) : Prop := (∃ x0 hh0, M.2.2.2.2.1 = x0 :: hh0) ∧ Cond.codeWith M.1 M.2.1 M.2.2.1 M.2.2.2.1 M.2.2.2.2.1 ∈ lwA ∧ q_mh M.1.cls ∧ (parseMethodDescriptor M.1.desc).map (fun d => d.parameters.length) = some na ∧ M.2.2.1 ≤ 21 ∧ Cond.initialized M.1.cls ∈ lwA ∧ Cond.static M.1 ∈ lwA
theorem qw_callR {p : Program} {l : Launch} {e : Env} {R : Room} {s : State} {m : MethodId} {args : Array Value} {below : List Frame} {meth : Method} {c : Code} {H : Heap} {locs : List Loc} {cells slots mc ms : Nat} {Q : State → Prop} {pc : Nat} {ls : Array Slot} {st0 rest : List Value} {G : qG} {PC : qP} {a : Array Value}
    (hr : va_Run p l e R s m args below meth c H locs cells slots mc ms (F0 m pc ls st0) rest (q_Qc G PC a) (q_A G)) (hS : va_S (q_A G) s.heap H locs)
    (kk : ∀ (v : Option qV) (n : Nat) (h : qB) (H1 : Heap) (locs1 : List Loc), PC v n h → q_P G h H1 → q_lb G n H1 → va_S (q_A G) s.heap H1 locs1 →
      W p l e R s m args below meth c H1 locs1 (cells + mc) (slots + ms) Q (F0 m (pc + 3) ls ((v.map (q_v G)).toList ++ rest))) :
    W p l e R s m args below meth c H locs cells slots Q (F0 m pc ls st0) := by
  intro T hT X
  obtain ⟨v, st₀, t, T', L, h0, X', hL, e1, e2, ⟨⟨w, n, h, hv, hp, hb⟩, hF⟩, st⟩ := hr T hT X
  cases hv
  obtain ⟨k1, k2, k3⟩ := vx_keep h0 e1 hS (fun q _ hq => hq) (fun q hq => hq) hL hF
  obtain ⟨t2, a1, b1⟩ := kk w n h T'.heap (locs ++ L) hp (by rw [e1]; exact hb.1) (by rw [e1]; exact hb.2) k3 T' rfl X'
  exact ⟨t2, st t2 a1, b1⟩
theorem e_callSW {M M' : qM} {d d' pc idx mc ms : Nat} {L : List (Option qV)} {st rest as : List qV} {n : Nat} {h : qB} {kc ks : Nat} {P PC : qP} {X : qX}
    (hM : q_MSW M' as.length) (hl : Cond.methodLink M.1.cls idx M'.1 ∈ lwA) (hc : Ct M' d' mc ms as n h PC qNo) (hst : st = as.reverse ++ rest) (dg : decode M.2.1 pc = .ok (.invokestatic idx, 3))
    (hd : d' + 1 ≤ d) (hr : q_cats rest ≤ 8) (hkc : mc ≤ kc) (hks : ms ≤ ks)
    (hnn : ∀ v n' h', PC v n' h' → n' < 132 → n + mc ≤ n')
    (kk : ∀ v n' h', PC v n' h' → Ev M d (pc + 3) L (v.toList ++ rest) n' h' (kc - mc) (ks - ms) P X) : Ev M d pc L st n h kc ks P X := by
  intro G p l e R s m args below meth c H locs ls C hlo hP hz hS cells slots hu hcc hss
  obtain ⟨hx, hb, hml, hown, hts, hrt, hlocks, htab, hstr, hnm, hK, hdR, hlR, hsx⟩ := id C
  obtain ⟨⟨x0, hh0, m1⟩, m2, m3, m4, m5, m6, m7⟩ := hM
  subst hst
  refine qw_size fun hsz => ?_
  have hw : q_wd M' = Cond.codeWith M'.1 M'.2.1 M'.2.2.1 M'.2.2.2.1 M'.2.2.2.2.1 :: lwA := by
    unfold q_wd q_hd
    rw [m1]
  have hMt : Met l M'.1 (q_wd M') (q_rm d' mc ms) (q_Pc G as n h) (q_Qc G PC) mc ms (q_A G) := by
    have hm := hc G l hstr
    intro p e ha hcas hck s m args below hf happ hp hK
    obtain ⟨n', o, h1, h2, h3, h4⟩ := hm p e ha hcas hck s m args below hf happ hp hK
    refine ⟨n', o, h1, h2, h3, ?_⟩
    rcases h4 with h4 | ⟨q, e1, E, ce, L, ⟨⟨n2, h2', x1, x2⟩, x3⟩, x4⟩
    · exact h4
    · exact x1.elim
  have hgi : GoodIn lwA (va_wsS M.1.cls idx M'.1 (q_wd M')) := by
    intro w hw9
    have h9 : w ∈ lwA := by
      unfold va_wsS at hw9
      rw [hw] at hw9
      simp only [List.cons_append, List.nil_append, List.mem_cons] at hw9
      rcases hw9 with rfl | rfl | rfl | rfl | hw9
      · exact hl
      · exact m7
      · exact m6
      · exact m2
      · exact hw9
    exact ⟨h9, good_of_word (lwA_good h9)⟩
  have hrun := vx_runSW (H := H) (locs := locs) (As := as.map (q_v G)) (rest := rest.map (q_v G)) (e := e) (below := below) (meth := meth) (cells := cells) (slots := slots) (g := F0 m pc ls ((as.reverse ++ rest).map (q_v G)))
    ⟨hx, hb, hml, hown, hts⟩ hMt (own := M.1.cls) (index := idx) (bytes := M'.2.1) (maxL := M'.2.2.1) (ret := M'.2.2.2.1) (hh := M'.2.2.2.2.1) (n := as.length) (R := R)
    (vx_cwSW as.length hts hgi hw rfl rfl ⟨m3.1, m3.2, m4⟩ ⟨by show d' + 1 ≤ R.frames; omega, by show 8 + (M'.2.2.1 + 11) + 40 * d' ≤ R.locals; omega⟩)
    ⟨q_blind G _ n h, q_pre (av := as) hK hP hz hS hu hsz⟩ rfl (by rw [List.length_map]) hlo.1 (by rw [q_st_eq]) (lv_room (by rw [q_cats_eq]; exact hr)) dg ⟨by omega, by omega⟩
  refine qw_callR hrun hS (fun v n' h' H1 locs1 f1 f2 f3 f4 => ?_)
  rw [q_vs_eq]
  exact kk v n' h' f1 G p l e R s m args below meth c H1 locs1 ls C hlo f2 f3 f4 (cells + mc) (slots + ms) (fun hn => by have h9 := hnn _ _ _ f1 hn; have h8 := hu (by omega); omega) (by omega) (by omega)
