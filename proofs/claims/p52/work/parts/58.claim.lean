/-! THE CLAIM OUT OF ONE WALK OF THE LAW'S BODY. Your part is whole_start (and what it stands on); all else here is the same for every law, but numbers. -/
def R_law : String := "VoteLogsLaw"
def lw_P (b : Addr) (xs : List Int32) (args : Array Value) (s : State) : Prop := args = #[.ref b] ∧ s.IntsAt b xs ∧ xs.length ≤ 260 ∧ (Jvm.Cond.and given_1 narrow_1).before args s = true
/-- what a walk over the start with the record d0 says of its end, said of the start itself -/
theorem lw_closed {s t : State} {o : Outcome} {d0 : Drawn} {L : List Loc} {k n : Nat} (hd0 : s.drawn.sameBut d0 lw_cs) (hv : ∃ v, o = .returned v) (hW : (s.setDrawn d0).WarmedH t.vm) (hs : (s.setDrawn d0).sameButNew ({ t with vm := s.vm } : State) L k n) : State.butDraws s t lw_cs (fun t1 => Framed s o t1 L k n) := by
  have h2 : t.drawn = d0 := congrArg State.drawn hs.1
  refine ⟨⟨hv, hW, State.sameButNew.setDrawn hs s.drawn⟩, ?_, by decide⟩
  rw [h2]
  exact hd0
def lw_Q (_ : Array Value) (s : State) (o : Outcome) (t : State) : Prop := o = .returned (some (.int 1)) ∧ State.butDraws s t lw_cs (fun t1 => Framed s o t1 [] 600130 7301080)
def lw_Z (below : List Frame) (a : Array Value) (s : State) : State → Prop := fun t => ∃ o, t.status = .running ∧ Ended t below o ∧ lw_Q a s o t
/-- the law's own end, with 1 on the stack, nothing written that was there before, its room as the claim has it; d0: the record of draws at this point (at the entry s.drawn: begin with 'refine W.base ?_' and 'have hd0 := Drawn.sameBut.refl s.drawn lw_cs') -/
theorem lw_ret {p : Program} {l : Launch} {e : Env} {s : State} {m : MethodId} {below : List Frame} {meth : Method} {c : Code} {b : Nat} {d0 : Drawn} (hd0 : s.drawn.sameBut d0 lw_cs) (hx : p.tables.exec = Jvm.exec) (hb : c.code = code) (hr : meth.sig.returnType = ret) (hlocks : meth.locks = false) {pc : Nat} {H : Heap} {ls : Array Slot} (hdg : decode code pc = .ok (.ireturn, 1)) : W p l e room_1 (s.setDrawn d0) m #[Value.ref b] below meth c H [] 600130 7301080 (lw_Z below #[Value.ref b] s) (F0 m pc ls [.int 1]) := by
  intro T hT X
  obtain ⟨fs, hret, hrun, hended, hW, hframe⟩ := X.leave (v := some (.int 1)) (hlocks := hlocks) (fun h => by rw [hr] at h; cases h)
  have hmeth' : T.vm.method? m = some meth := X.method'
  refine ⟨T.setFrames fs, ?_, .returned (some (.int 1)), hrun, hended, rfl, lw_closed hd0 ⟨_, rfl⟩ hW hframe⟩
  jvm_step X.here [X.here.top, hx, hb, hdg, hmeth', hr, ret, narrow_b1]
  (try refine ⟨rfl, ?_⟩); (try refine ⟨rfl, ?_⟩)
  first | (intro acts; rw [hret _ acts rfl rfl rfl]) | rw [hret _ _ rfl rfl rfl]
  exact Steps.refl _

theorem lw_traces {l : Launch} (h : l.flags = flags0) : l.stackTraces = false := by
  unfold Launch.stackTraces
  rw [h]
  decide +kernel
theorem q_nest_in : ∀ w ∈ q_nest, w ∈ lw_tbl := by decide +kernel
theorem q_strs_in : ∀ q ∈ q_strs, q.1 = "VoteLogs" ∧ Cond.stringRef q.1 q.2.1 q.2.2 ∈ lw_tbl := by decide +kernel
theorem lw_arr {s : State} {args : Array Value} {t : FieldType} (h : (Cond.arrayClass t).before args s = true) : ∃ cA : ClassId, ArrOfT s cA t ∧ s.vm.findClass ("[" ++ t.toString) = some cA := by
  obtain ⟨cA, kA, comp, h1, h2, h3⟩ := Cond.arrayClass_spec h
  exact ⟨cA, fun n z => ⟨fun k h => (by cases h), kA, h2, comp, h3⟩, h1⟩
/-- what stands still, at the law's entry -/
theorem lw_K0 {s : State} {args : Array Value} {b L : Nat} {xs : Nat → Int32} (hts : ∀ w ∈ lw_tbl, w.before args s = true) (hX : va_X b L xs s s.heap) (hbl : b < s.heap.size) (hgv : (Jvm.Cond.and given_1 narrow_1).before args s = true) :
    ∃ G : qG, q_K0 G s ∧ G.2.2.1 = s.heap.size ∧ G.2.2.2.1 = b ∧ G.2.2.2.2 = (L, xs) := by
  have hs := flat_of_before _ hgv
  have htA : ∀ w ∈ lwA, w.before args s = true := fun w hw => hts w (List.mem_filter.mp hw).1
  obtain ⟨C0, T0, y0, a0, -, i0, -, u0, -⟩ := cnX2_33
  obtain ⟨C1, T1, y1, a1, -, i1, -, u1, -⟩ := cnX2_7
  obtain ⟨C2, T2, y2, a2, -, i2, -, u2, -⟩ := cnL_13
  obtain ⟨c0, s0, k0⟩ := u_known htA u0 (htA _ i0)
  obtain ⟨c1, s1, k1⟩ := u_known htA u1 (htA _ i1)
  obtain ⟨c2, s2, k2⟩ := u_known htA u2 (htA _ i2)
  obtain ⟨cI, e1, e2⟩ := lw_arr (htA _ w_ai)
  have hao : (Cond.arrayOver (.object RX1)).before args s = true := hts _ (by decide +kernel)
  obtain ⟨comp, cQ, kQ, g1, g2, g3, g4, g5⟩ := Cond.arrayOver_spec hao
  refine ⟨((fun c => if c = 0 then c0 else if c = 1 then c1 else c2, fun c => if c = 0 then s0 else if c = 1 then s1 else s2), (cI, cI, cQ), (s.heap.size, b, L, xs)), ⟨⟨fun c q hq => ?_, fun k q hq => ?_⟩, hX, hbl, ?_, ?_, fun w hw => va_Nw.of (q_nest_ot w hw) (hts w (q_nest_in w hw)), fun q hq => ?_, ⟨va_AO.of hao, ?_⟩, Nat.le_refl _⟩, rfl, rfl, rfl⟩
  · have hc : c < 3 := (List.getElem?_eq_some_iff.mp hq).1
    rcases (show c = 0 ∨ c = 1 ∨ c = 2 by omega) with rfl | rfl | rfl
    · cases Option.some.inj (a0.symm.trans hq); exact k0
    · cases Option.some.inj (a1.symm.trans hq); exact k1
    · cases Option.some.inj (a2.symm.trans hq); exact k2
  · have hk : k < 3 := (List.getElem?_eq_some_iff.mp hq).1
    rcases (show k = 0 ∨ k = 1 ∨ k = 2 by omega) with rfl | rfl | rfl
    · cases hq; exact ⟨e1, e2⟩
    · cases hq; exact ⟨e1, e2⟩
    · cases hq; exact ⟨fun n z => ⟨fun k h => (by cases h), kQ, g3, comp, g4⟩, kQ, comp, g3, g4, g1, g5⟩
  · exact vx_Zqof (hts _ (by decide +kernel)) (hts _ (by decide +kernel)) (hs _ (by decide +kernel)) (fun q hq => Nat.not_le.mpr hq)
  · exact vx_Zqof (hts _ (by decide +kernel)) (hts _ (by decide +kernel)) (hs _ (by decide +kernel)) (fun q hq => Nat.not_le.mpr hq)
  · obtain ⟨n1, n2⟩ := q_strs_in q hq
    have h9 := hts _ n2
    obtain ⟨cC, kC, hfc, -⟩ := Cond.instantiable_spec (htA _ i2)
    have hn : C2 = q.1 := by rw [n1]; exact congrArg (fun z : String × u_T × Nat => z.1) (Option.some.inj (a2.symm.trans (rfl : vwCl[2]? = some (RX2, TX2, 10))))
    rw [hn] at hfc
    obtain ⟨-, -, -, sa, -, -, -, -, -, h10⟩ := Cond.stringRef_spec hfc h9
    exact ⟨sa, vk_R.of h9 h10⟩
  · intro q hq
    cases hq
set_option maxHeartbeats 4000000 in
theorem lw_walk (l : Launch) (hflags : l.flags = flags0) (b : Addr) (xs : List Int32) : MetFree l x (headSpec (Jvm.Cond.code x code maxLocals ret :: tables_1) room_1) (lw_P b xs) (fun _ _ _ _ _ => True) lw_Q := by
  refine MetFree.of_bodyS (code := code) (maxLocals := maxLocals) (ret := ret) (by decide) ?_ ?_
  · intro args s m h hn
    obtain ⟨meth, c, h1, h2, h3, h4, h5, h6, -, -⟩ := Cond.code_spec hn (atoms_spec (ws := Jvm.Cond.code x code maxLocals ret :: tables_1) h _ List.mem_cons_self)
    exact ⟨meth, c, h1, h2, h3, h4, h5, h6⟩
  · intro p e s m args below meth c s₁ B hml0 hP _
    obtain ⟨rfl, hx, hbd, hgv⟩ := hP
    obtain ⟨scr, harrAt, hlist, hof, hsmall⟩ := hx
    obtain ⟨hcb, hkn, -, -⟩ := State.arrayAt?_spec harrAt
    have hown : s.vm.findClass R_law = some m.cls := findClass_of_methodNamed B.named
    have hts0 : ∀ c ∈ (Jvm.Cond.code x code maxLocals ret :: tables_1), c.before #[Value.ref b] s = true := atoms_spec (ws := Jvm.Cond.code x code maxLocals ret :: tables_1) B.pre
    have hts : ∀ w ∈ lw_tbl, w.before #[Value.ref b] s = true := k2_hts_sels lw_privs (fun w hw => hts0 w (List.mem_cons_of_mem _ hw)) lw_privs_ok
    have hml : c.maxLocals = 10 := B.maxLocals_eq (hts0 _ List.mem_cons_self)
    have X₀ : Stand p l e room_1 s m #[Value.ref b] below meth c s₁ [] 0 0 := Stand.of_body B
    have hh0 : s₁.heap = s.heap := by rw [B.state]; rfl
    have hsz : scr.slots.size = xs.length := by rw [← Array.length_toList, hlist, List.length_map]
    have hval : ∀ j : Nat, j < xs.length → scr.slots[j]? = some (.int (xs.getD j 0)) := fun j hj => by
      rw [← Array.getElem?_toList, hlist]
      simp [hj]
    have hbl : b < s.heap.size := (Array.getElem?_eq_some_iff.mp hcb).1
    have hX : va_X b xs.length (fun j => xs.getD j 0) s s.heap := ⟨scr, hcb, hof, hkn, hsz, hval⟩
    have htab : c.exceptionTable.toList = [] := by
      obtain ⟨meth9, c9, h1, h2, -, -, -, -, h7, -⟩ := Cond.code_spec B.named (hts0 _ List.mem_cons_self)
      cases Option.some.inj (h1.symm.trans B.method)
      cases Option.some.inj (h2.symm.trans (Stand.of_body B).code)
      rw [Array.isEmpty_iff.mp h7]
    have hnm : meth.name = x.name := (name_of_methodNamed B.named B.method).1
    have hst : l.stackTraces = false := lw_traces hflags
    obtain ⟨G, hK, hG1, hG2, hG3⟩ := lw_K0 hts hX hbl hgv
    have hlo : q_lo G 10 (q_ent 10 [qS]) ((lg_sl ([qS].map (q_v G)) ++ List.replicate (10 - (lg_sl ([qS].map (q_v G))).length) Slot.unset).toArray) := q_ent_lo G (by decide)
    have hqs : [qS].map (q_v G) = [Value.ref b] := by rw [← hG2]; rfl
    have hC : q_Cx (mL_law xs.length (fun j => xs.getD j 0)) 7 G p l room_1 s m #[Value.ref b] meth c :=
      ⟨B.exec, B.bytes, hml, hown, fun w hw => hts w (List.mem_filter.mp hw).1, B.returns, B.notSynchronized, htab, hst, hnm, hK, by decide, by decide, fun sx hsx => by cases hsx; exact hG3⟩
    have K := L_law hbd G p l e room_1 s m #[Value.ref b] below meth c s.heap [] _ hC hlo (fun k q hq => by
      obtain ⟨k', e', h1, -⟩ := q_ws_to hq
      cases h1) (by show G.2.2.1 + min 0 124 ≤ s.heap.size; rw [hG1]; exact Nat.le_refl _) va_S.rf 0 0 (fun _ => by show s.heap.size + 0 ≤ G.2.2.1 + 0; rw [hG1]; exact Nat.le_refl _) (by decide) (by decide)
    have he : entryFrame m #[Value.ref b] 10 = F0 m 0 ((lg_sl ([qS].map (q_v G)) ++ List.replicate (10 - (lg_sl ([qS].map (q_v G))).length) Slot.unset).toArray) [] := by
      rw [show (#[Value.ref b] : Array Value) = ([qS].map (q_v G)).toArray by rw [hqs], lg_entry_eq]
    obtain ⟨t, a1, o, b1, b2, b3⟩ := K s₁ hh0 X₀
    refine ⟨t, o, by show Steps p.tables e below (s₁.setTop (entryFrame m #[Value.ref b] 10)) t; rw [he]; exact a1, b1, b2, ?_⟩
    rcases b3 with ⟨⟨⟨v, n2, h2', e1, e2, e3⟩, e4⟩, L9, ⟨d1, d2, d3⟩, d4⟩ | ⟨q, d1, E, ce, L9, ⟨⟨n2, h2', x1, x2⟩, x3⟩, x4⟩
    · have e2 : v = some (qI (nI 1)) := e2
      subst e2
      have e1 : o = .returned (some (.int 1)) := e1
      refine ⟨e1, lw_closed (d0 := s.drawn) (Drawn.sameBut.refl s.drawn lw_cs) ⟨_, e1⟩ d2 ?_⟩
      exact d3.weaken (fun y hy hlt => absurd hlt (Nat.not_lt.mpr (by have := d4 y hy; have h9 : G.2.2.1 ≤ y.base := this; rw [hG1] at h9; exact h9))) (Nat.le_refl _) (Nat.le_refl _)
    · exact x1.elim
theorem lw_pre_spec {args : Array Value} {s : State} (h : (Jvm.Cond.and given_1 narrow_1).before args s = true) (hr : rest_1_c.before args s = true) : ∃ (b : Addr) (xs : List Int32), lw_P b xs args s := by
  have hs := flat_of_before _ h
  have hq := flat_of_before _ hr
  have hc : (Cond.count 1).before args s = true := hs _ (by decide +kernel)
  have harr : (Cond.arrayOf (.arg 0) .int).before args s = true := hs _ (by decide +kernel)
  have hle : (Cond.le (.length (.arg 0)) (.int 260)).before args s = true := hs _ (by decide +kernel)
  have hlen : (Cond.isInt (.length (.arg 0))).before args s = true := hq _ (by decide +kernel)
  have hall : (Cond.all (.arg 0) (.isInt (.elem (.arg 0) (.index 0)))).before args s = true := hq _ (by decide +kernel)
  obtain ⟨b, xs, hb, hx⟩ := State.ints_of_pre rfl harr hlen hall
  have hsm : xs.length < 2 ^ 31 := hx.choose_spec.2.2.2
  have hev : (Term.length (.arg 0)).eval args s none [] s = some (.int xs.length.toInt32) := hx.length_eval hb
  have hv := Cond.le_ints hev (show (Term.int 260).eval args s none [] s = some (.int 260) from rfl)
  have hd : xs.length.toInt32 ≤ 260 := by
    simpa [Cond.before, Cond.holds, hv] using hle
  have hN : xs.length ≤ 260 := (Int32.ofNat_le_ofNat hsm (by decide)).mp (show Int32.ofNat xs.length ≤ Int32.ofNat 260 from hd)
  exact ⟨b, xs, Cond.one_arg hc (show args[0]? = some (.ref b) from hb), hx, hN, h⟩
theorem lw_comes (l : Launch) (hflags : l.flags = flags0) : Comes l x (Jvm.Cond.code x code maxLocals ret :: tables_1) room_1 (fun tb e args s => Calls_1 tb e args s ∧ rest_1 tb e args s ∧ Pre_1 tb e args s)
    (fun _ _ args s o t => lw_Q args s o t) := by
  intro p e ha hc hk s m args below hf hfit hheap happ hpre
  obtain ⟨b, xs, hP⟩ := lw_pre_spec hpre.2.2 hpre.2.1
  obtain ⟨k, o, h1, h2, h3, hQ⟩ := lw_walk l hflags b xs p e ha hc hk s m args below hf ((Spec.applies_iff_loose hf).mp happ).1 hP trivial
  exact ⟨k, o, h1, h2, h3, hQ⟩
theorem lw_frame {s t : State} {o : Outcome} {args : Array Value} (h : State.butDraws s t lw_cs (fun t1 => Framed s o t1 [] 600130 7301080)) :
    State.butDraws s t [Jvm.Choice.named "NaN.bits"] (fun t1 => Framed s o t1 (fieldLocs frame_1_writes args s ++ arrayLocs frame_1_arrays args s ++ staticLocs frame_1_statics s) 600130 7301080) := h
theorem lw_limb (L : Cond) (hL : ∀ (args : Array Value) (s t : State), L.after args s (.returned (some (.int 1))) t = true) :
    ArmFor flags0 classFile x code maxLocals ret World_1 tables_1 room_1 Calls_1 rest_1 Pre_1
      (fun tb e a s o t => postC L tb e a s o t ∧ State.butDraws s t [Jvm.Choice.named "NaN.bits"] (fun t1 => Framed s o t1 (fieldLocs frame_1_writes a s ++ arrayLocs frame_1_arrays a s ++ staticLocs frame_1_statics s) 600130 7301080)) := by
  intro l hflags _ _ p e ha hc hk s m args below hf hfit hheap happ hpre
  obtain ⟨k, o, h1, h2, h3, rfl, hF⟩ := lw_comes l hflags p e ha hc hk s m args below hf hfit hheap happ hpre
  exact ⟨k, _, h1, h2, h3, hL args s _, lw_frame hF⟩
theorem i_vc : Claimed_1_1 ∧ Claimed_1_2 := ⟨lw_limb limb_1_1 (fun args s t => by simp [limb_1_1, Cond.after, Cond.holds, Cond.value]), lw_limb limb_1_2 (fun args s t => Cond.after_iff.mpr (by
  first | (rw [show limb_1_2 = Cond.eq .result (.int 1) from rfl, Cond.eq_ints (x := 1) (y := 1) rfl rfl]; simp; done) | (simp [limb_1_2, Cond.value, Term.eval]; done)))⟩
