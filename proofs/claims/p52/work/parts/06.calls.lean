/-! CALLS, NEW CELLS, THROWS, A METHOD'S ENTRY. The two sections that follow are pasted from kit/laws/EXCEPTIONS.to-paste. -/
section VXIA
variable {p : Program} {l : Launch} {e : Env} {R : Room} {s : State} {m : MethodId} {args : Array Value} {below : List Frame} {meth : Method} {c : Code} {T : State} {locs : List Loc} {cells slots : Nat}
theorem vx_callI (X : Stand p l e R s m args below meth c T locs cells slots) (hexec : p.tables.exec = Jvm.exec) {own : String} {index : Nat} {y : MethodName} {bytes : ByteArray} {maxL : Nat}
    (hown : s.vm.findClass own = some m.cls) (hy1 : y.name = "<init>") (hlink : (Cond.methodLink own index y).before args s = true) (hinst : (Cond.instanceMethod y).before args s = true)
    (hcode : (Cond.code y bytes maxL none).before args s = true) (hy : y.cls ≠ "java/lang/invoke/MethodHandle" ∧ y.cls ≠ "java/lang/invoke/VarHandle")
    {W9 : Nat} {Pre : Pt → Array Value → Prop} {Post : Pt → Array Value → Option Value → Pt → Prop} {PostX : Pt → Array Value → Addr → Pt → Prop} (hK : vx_Back l R p e below s args y 3 W9 Pre Post PostX)
    {g : JFrame} (hg : g.method = m) (hsize : g.locals.size = c.maxLocals) {a : Addr} {argsL rest : List Value} (hlen : ∀ sig, parseMethodDescriptor y.desc = some sig → argsL.length = sig.parameters.length)
    (hstack : g.stack = argsL.reverse ++ .ref a :: rest) (hW : 2 * g.monitorRoom + (rest.map fun v => v.category).sum ≤ W9) (hdg : decode c.code g.pc = .ok (.invokespecial index, 3))
    (hpre : ∀ vm₁, s.WarmedH vm₁ → Pre ⟨T.setVm vm₁, locs, cells, slots⟩ (Value.ref a :: argsL).toArray) :
    (∃ (v : Option Value) (vm₁ : Vm) (B : Pt), s.WarmedH vm₁ ∧ Stand p l e R s m args below meth c B.U B.locs B.cells B.slots ∧ Post ⟨T.setVm vm₁, locs, cells, slots⟩ (Value.ref a :: argsL).toArray v B ∧
      ∀ target, Steps p.tables e below (B.U.setTop { g with pc := g.pc + 3, stack := v.toList ++ rest }) target → Steps p.tables e below (T.setTop g) target) ∨
    (∃ (q : Addr) (vm₁ : Vm) (B : Pt), s.WarmedH vm₁ ∧ Stand p l e R s m args below meth c B.U B.locs B.cells B.slots ∧ PostX ⟨T.setVm vm₁, locs, cells, slots⟩ (Value.ref a :: argsL).toArray q B ∧
      Steps p.tables e below (T.setTop g) ((B.U.setTop { g with stack := rest }).pushFrame (.throwing q))) := by
  subst hg
  have hpl : e.platform.magicAccessors = ({} : Platform).magicAccessors := by rw [X.admits.platform]
  obtain ⟨mk, methM, cM, kP, vm₁, hnamed, hmethM, hcodeM, -, hlocalsM, -, hkP, -, hW₁, hstep₁⟩ := Steps.initColdArgs (e := e) X.here hexec X.warmed hpl hown hy1 hy hlink hinst hcode (f := g) rfl hlen hstack hdg
  have X₁ := X.noted hW₁
  rcases hK g.method meth c ⟨T.setVm vm₁, locs, cells, slots⟩ { g with stack := rest } (.invokespecial index) mk (Value.ref a :: argsL).toArray X₁ rfl hsize hdg hW (X₁.named hnamed) (hpre vm₁ X₁.warmed) with ⟨v, B, X', hpost, hsteps⟩ | ⟨q, B, X', hpost, hsteps⟩
  · exact Or.inl ⟨v, vm₁, B, X₁.warmed, X', hpost, fun target h => hstep₁ _ fun acts => by rw [doInvoke_state]; exact hsteps.trans h⟩
  · exact Or.inr ⟨q, vm₁, B, X₁.warmed, X', hpost, hstep₁ _ fun acts => by rw [doInvoke_state]; exact hsteps⟩
end VXIA
section VXIB
variable {p : Program} {l : Launch} {e : Env} {R : Room} {s : State} {m : MethodId} {args : Array Value} {below : List Frame} {meth : Method} {c : Code} {H : Heap} {locs : List Loc} {cells slots : Nat}
variable {y : MethodName} {bytes cc : ByteArray} {maxL nL mc ms n index : Nat} {ret : Option FieldType} {ws : List Cond} {rm : Room} {Pc : Array Value → State → Prop} {Qc : Array Value → State → Outcome → State → Prop} {XC : String → State → State → Prop} {free : Addr → Prop} {Ts : List Cond} {own C : String} {b : Addr} {As rest : List Value} {g : JFrame}
theorem vx_runI (S : CallFix p m c cc nL s args Ts own) (hM : vx_Met l y ws rm Pc Qc XC mc ms free) (cw : CallB R s args own index y bytes maxL none ws rm mc ms n ∧ y.name = "<init>" ∧ (Cond.instanceMethod y).before args s = true) (hp : PreS s H Pc (.ref b :: As))
    (hg : g.method = m) (hn : As.length = n) (hsize : g.locals.size = nL) (hstack : g.stack = As.reverse ++ .ref b :: rest) (hW : 2 * g.monitorRoom + (rest.map fun v => v.category).sum ≤ 8) (hdg : decode cc g.pc = .ok (.invokespecial index, 3)) (hf : cells + mc ≤ R.cells ∧ slots + ms ≤ R.slots) :
    vx_Run p l e R s m args below meth c H locs cells slots mc ms g rest (Qc (Value.ref b :: As).toArray) XC free := by
  have hK : vx_Back l R p e below s args y 3 8 (PreOf R mc ms Pc) (PostOf Qc mc ms free) (vx_Post XC mc ms free) := vx_callBack cw.1 hM hp.1
  obtain ⟨⟨-, -, -, -, -, -, hcode, -, hy, hlen, hl⟩, hy1, hin⟩ := cw
  obtain ⟨hx, hb, hml, ho, -⟩ := S
  have hPc := hp.2
  intro T hT X
  rcases vx_callI X hx (bytes := bytes) (maxL := maxL) ho hy1 hl hin hcode hy hK hg (hsize.trans hml.symm) (a := b) (argsL := As) (rest := rest) (fun sig h => hn.trans (hlen sig h)) hstack hW (by rw [hb]; exact hdg)
    (fun vm₁ hW₁ => ⟨hf.1, hf.2, hPc (T.setVm vm₁) hT hW₁⟩) with ⟨v, vm₁, ⟨U', l2, c2, s2⟩, hW₁, X', ⟨g', mk, t, L, e1, e2, hq, h1, hL, h2, h3⟩, st⟩ | ⟨q, vm₁, ⟨U', l2, c2, s2⟩, hW₁, X', ⟨g', mk, t, L, E, ce, e1, e2, hq, hce, hcv, hcl, h1, hL, h2, h3⟩, st⟩
  · dsimp only [Pt.U, Pt.locs, Pt.cells, Pt.slots] at X' e1 e2 h1 h2 h3 st
    subst h1; subst h2; subst h3
    exact Or.inl ⟨v, (T.setVm vm₁).calling g' mk (Value.ref b :: As).toArray, t, U', L, hT, X', hL, e1, e2, hq, st⟩
  · dsimp only [Pt.U, Pt.locs, Pt.cells, Pt.slots] at X' e1 e2 h1 h2 h3 st hcl
    subst h1; subst h2; subst h3
    exact Or.inr ⟨q, (T.setVm vm₁).calling g' mk (Value.ref b :: As).toArray, t, U', L, E, ce, hT, X', hL, e1, e2, hq, hce, hcv, vx_cls hW₁ hcl, st⟩
end VXIB
section
variable {p : Program} {l : Launch} {e : Env} {R : Room} {s : State} {m : MethodId} {args : Array Value} {below : List Frame} {meth : Method} {c : Code} {H : Heap} {locs : List Loc} {cells slots : Nat}
variable {T : State}
theorem vx_callVN (X : Stand p l e R s m args below meth c T locs cells slots) (hexec : p.tables.exec = Jvm.exec) {own C : String} {index : Nat} {host : String} {y : MethodName} {bytes : ByteArray} {maxL : Nat} {ret : Option FieldType}
    (hown : s.vm.findClass own = some m.cls) (hlink : (Cond.methodLinkNest own index y host).before args s = true) (hinst : (Cond.instanceMethod y).before args s = true) (hsel : (Cond.selects C y y).before args s = true)
    (hcode : (Cond.code y bytes maxL ret).before args s = true) (hy : y.cls ≠ "java/lang/invoke/MethodHandle" ∧ y.cls ≠ "java/lang/invoke/VarHandle")
    {W : Nat} {Pre : Pt → Array Value → Prop} {Post : Pt → Array Value → Option Value → Pt → Prop} {PostX : Pt → Array Value → Addr → Pt → Prop} (hK : vx_Back l R p e below s args y 3 W Pre Post PostX)
    {b : Addr} {cellB : Cell} (hcell : T.heap[b]? = some cellB) (hobj : cellB.vm.isStatics = false) (hcls : s.vm.findClass C = some cellB.cls)
    {g : JFrame} (hg : g.method = m) (hsize : g.locals.size = c.maxLocals) {argsL rest : List Value} (hlen : ∀ sig, parseMethodDescriptor y.desc = some sig → argsL.length = sig.parameters.length)
    (hstack : g.stack = argsL.reverse ++ .ref b :: rest) (hW : 2 * g.monitorRoom + (rest.map fun v => v.category).sum ≤ W) (hdg : decode c.code g.pc = .ok (.invokevirtual index, 3))
    (hpre : ∀ vm₁, s.WarmedH vm₁ → Pre ⟨T.setVm vm₁, locs, cells, slots⟩ (Value.ref b :: argsL).toArray) :
    (∃ (v : Option Value) (vm₁ : Vm) (B : Pt), s.WarmedH vm₁ ∧ Stand p l e R s m args below meth c B.U B.locs B.cells B.slots ∧ Post ⟨T.setVm vm₁, locs, cells, slots⟩ (Value.ref b :: argsL).toArray v B ∧
      ∀ target, Steps p.tables e below (B.U.setTop { g with pc := g.pc + 3, stack := v.toList ++ rest }) target → Steps p.tables e below (T.setTop g) target) ∨
    (∃ (q : Addr) (vm₁ : Vm) (B : Pt), s.WarmedH vm₁ ∧ Stand p l e R s m args below meth c B.U B.locs B.cells B.slots ∧ PostX ⟨T.setVm vm₁, locs, cells, slots⟩ (Value.ref b :: argsL).toArray q B ∧
      Steps p.tables e below (T.setTop g) ((B.U.setTop { g with stack := rest }).pushFrame (.throwing q))) := by
  obtain ⟨mk, methM, hnamed, hmethM, hstM, habM⟩ := Cond.instanceMethod_spec hinst
  obtain ⟨methM', cM, hmethM', -, -, -, -, -, -, hsigM⟩ := Cond.code_spec hnamed hcode
  cases hmethM.symm.trans hmethM'
  obtain ⟨c2, r2, m2, q1, q2, q3, q4, kP, hkP, hkPi⟩ := Cond.selects_spec hsel
  cases hcls.symm.trans q1
  cases (State.methodFound?_of_named hnamed hy).symm.trans q2
  cases hnamed.symm.trans q3
  have hselP : selectMethod e.platform s.vm cellB.cls mk = .method mk := by rw [Launch.admits_selectMethod X.admits]; exact q4
  obtain ⟨vm₁, X₁, hstep₁⟩ := X.invokevirtualNest hexec hown hlink hnamed hmethM hstM hkP hkPi hy (a := b) (cell := cellB) hcell
    (fun z h => by rw [h] at hobj; cases hobj) hselP hmethM habM hkP hkPi (g := g) hg (argsL := argsL) (rest := rest) (hlen _ hsigM) hstack hdg
  rcases hK m meth c ⟨T.setVm vm₁, locs, cells, slots⟩ { g with stack := rest } (.invokevirtual index) mk (Value.ref b :: argsL).toArray X₁ hg hsize hdg hW (X₁.named hnamed) (hpre vm₁ X₁.warmed) with ⟨v, B, X', hpost, hsteps⟩ | ⟨q, B, X', hpost, hsteps⟩
  · exact Or.inl ⟨v, vm₁, B, X₁.warmed, X', hpost, fun target h => hstep₁ _ fun acts => by rw [doInvoke_state]; exact hsteps.trans h⟩
  · exact Or.inr ⟨q, vm₁, B, X₁.warmed, X', hpost, hstep₁ _ fun acts => by rw [doInvoke_state]; exact hsteps⟩
theorem vx_callSN (X : Stand p l e R s m args below meth c T locs cells slots) (hexec : p.tables.exec = Jvm.exec) {own : String} {index : Nat} {host : String} {y : MethodName} {bytes : ByteArray} {maxL : Nat} {ret : Option FieldType}
    (hown : s.vm.findClass own = some m.cls) (hlink : (Cond.methodLinkNest own index y host).before args s = true) (hstat : (Cond.static y).before args s = true) (hinit : (Cond.initialized y.cls).before args s = true)
    (hcode : (Cond.code y bytes maxL ret).before args s = true) (hy : y.cls ≠ "java/lang/invoke/MethodHandle" ∧ y.cls ≠ "java/lang/invoke/VarHandle")
    {W : Nat} {Pre : Pt → Array Value → Prop} {Post : Pt → Array Value → Option Value → Pt → Prop} {PostX : Pt → Array Value → Addr → Pt → Prop} (hK : vx_Back l R p e below s args y 3 W Pre Post PostX)
    {g : JFrame} (hg : g.method = m) (hsize : g.locals.size = c.maxLocals) {argsL rest : List Value} (hlen : ∀ sig, parseMethodDescriptor y.desc = some sig → argsL.length = sig.parameters.length)
    (hstack : g.stack = argsL.reverse ++ rest) (hW : 2 * g.monitorRoom + (rest.map fun v => v.category).sum ≤ W) (hdg : decode c.code g.pc = .ok (.invokestatic index, 3))
    (hpre : ∀ vm₁, s.WarmedH vm₁ → Pre ⟨T.setVm vm₁, locs, cells, slots⟩ argsL.toArray) :
    (∃ (v : Option Value) (vm₁ : Vm) (B : Pt), s.WarmedH vm₁ ∧ Stand p l e R s m args below meth c B.U B.locs B.cells B.slots ∧ Post ⟨T.setVm vm₁, locs, cells, slots⟩ argsL.toArray v B ∧
      ∀ target, Steps p.tables e below (B.U.setTop { g with pc := g.pc + 3, stack := v.toList ++ rest }) target → Steps p.tables e below (T.setTop g) target) ∨
    (∃ (q : Addr) (vm₁ : Vm) (B : Pt), s.WarmedH vm₁ ∧ Stand p l e R s m args below meth c B.U B.locs B.cells B.slots ∧ PostX ⟨T.setVm vm₁, locs, cells, slots⟩ argsL.toArray q B ∧
      Steps p.tables e below (T.setTop g) ((B.U.setTop { g with stack := rest }).pushFrame (.throwing q))) := by
  obtain ⟨mk, hnamed⟩ := Cond.code_named hcode
  obtain ⟨methM, cM, hmethM, -, -, -, -, -, -, hsigM⟩ := Cond.code_spec hnamed hcode
  have hstatic : methM.isStatic = true := Cond.static_spec hnamed hmethM hstat
  obtain ⟨kP, hkP, -⟩ := className_of_methodNamed hnamed
  have hinitP : kP.init = .initialized := Cond.initialized_spec (findClass_of_methodNamed hnamed) hkP hinit
  obtain ⟨vm₁, X₁, hstep₁⟩ := X.invokestaticNest hexec hown hlink hnamed hmethM hstatic hkP hinitP hy (g := g) hg (argsL := argsL) (rest := rest) (hlen _ hsigM) hstack hdg
  rcases hK m meth c ⟨T.setVm vm₁, locs, cells, slots⟩ { g with stack := rest } (.invokestatic index) mk argsL.toArray X₁ hg hsize hdg hW (X₁.named hnamed) (hpre vm₁ X₁.warmed) with ⟨v, B, X', hpost, hsteps⟩ | ⟨q, B, X', hpost, hsteps⟩
  · exact Or.inl ⟨v, vm₁, B, X₁.warmed, X', hpost, fun target h => hstep₁ _ fun acts => by rw [doInvoke_state]; exact hsteps.trans h⟩
  · exact Or.inr ⟨q, vm₁, B, X₁.warmed, X', hpost, hstep₁ _ fun acts => by rw [doInvoke_state]; exact hsteps⟩
theorem vx_runVN {y : MethodName} {bytes cc : ByteArray} {maxL nL mc ms n index : Nat} {ret : Option FieldType} {ws : List Cond} {rm : Room} {Pc : Array Value → State → Prop} {Qc : Array Value → State → Outcome → State → Prop} {XC : String → State → State → Prop} {free : Addr → Prop} {Ts : List Cond} {own C host : String} {b : Addr} {As rest : List Value} {g : JFrame}
    (S : CallFix p m c cc nL s args Ts own) (hM : vx_Met l y ws rm Pc Qc XC mc ms free) (cw : va_CN R s args own index y host bytes maxL ret ws rm mc ms n ∧ (Cond.instanceMethod y).before args s = true ∧ (Cond.selects C y y).before args s = true) (hp : PreV s H C b Pc As)
    (hg : g.method = m) (hn : As.length = n) (hsize : g.locals.size = nL) (hstack : g.stack = As.reverse ++ .ref b :: rest) (hW : 2 * g.monitorRoom + (rest.map fun v => v.category).sum ≤ 8) (hdg : decode cc g.pc = .ok (.invokevirtual index, 3)) (hf : cells + mc ≤ R.cells ∧ slots + ms ≤ R.slots) :
    vx_Run p l e R s m args below meth c H locs cells slots mc ms g rest (Qc (Value.ref b :: As).toArray) XC free := by
  obtain ⟨⟨⟨hrc, hrs, hfr, hlo, hws, hcw⟩, hcode, hini, hy, hlen, hl⟩, hx1, hx2⟩ := cw
  have hK : vx_Back l R p e below s args y 3 8 (PreOf R mc ms Pc) (PostOf Qc mc ms free) (vx_Post XC mc ms free) := vx_back (bytes := bytes) (maxL := maxL) (ret := ret) hM hp.1 hrc hrs hfr hlo hws hcw (fun a' U hW => word_at hW (Or.inl (by first | rfl | simp [Cond.onTables, Cond.keeps, Cond.steady])) hini)
  obtain ⟨hx, hb, hml, ho, -⟩ := S
  obtain ⟨-, ⟨cellB, hcB, hoB, hclB⟩, hPc⟩ := hp
  intro T hT X
  rcases vx_callVN X hx (C := C) (bytes := bytes) (maxL := maxL) (ret := ret) ho hl hx1 hx2 hcode hy hK (by rw [hT]; exact hcB) hoB hclB hg (hsize.trans hml.symm) (argsL := As) (rest := rest) (fun sig h => hn.trans (hlen sig h)) hstack hW (by rw [hb]; exact hdg)
    (fun vm₁ hW₁ => ⟨hf.1, hf.2, hPc (T.setVm vm₁) hT hW₁⟩) with ⟨v, vm₁, ⟨U', l2, c2, s2⟩, hW₁, X', ⟨g', mk, t, L, e1, e2, hq, h1, hL, h2, h3⟩, st⟩ | ⟨q, vm₁, ⟨U', l2, c2, s2⟩, hW₁, X', ⟨g', mk, t, L, E, ce, e1, e2, hq, hce, hcv, hcl, h1, hL, h2, h3⟩, st⟩
  · dsimp only [Pt.U, Pt.locs, Pt.cells, Pt.slots] at X' e1 e2 h1 h2 h3 st
    subst h1; subst h2; subst h3
    exact Or.inl ⟨v, (T.setVm vm₁).calling g' mk (Value.ref b :: As).toArray, t, U', L, hT, X', hL, e1, e2, hq, st⟩
  · dsimp only [Pt.U, Pt.locs, Pt.cells, Pt.slots] at X' e1 e2 h1 h2 h3 st hcl
    subst h1; subst h2; subst h3
    exact Or.inr ⟨q, (T.setVm vm₁).calling g' mk (Value.ref b :: As).toArray, t, U', L, E, ce, hT, X', hL, e1, e2, hq, hce, hcv, vx_cls hW₁ hcl, st⟩
theorem vx_runSN {y : MethodName} {bytes cc : ByteArray} {maxL nL mc ms n index : Nat} {ret : Option FieldType} {ws : List Cond} {rm : Room} {Pc : Array Value → State → Prop} {Qc : Array Value → State → Outcome → State → Prop} {XC : String → State → State → Prop} {free : Addr → Prop} {Ts : List Cond} {own host : String} {As rest : List Value} {g : JFrame}
    (S : CallFix p m c cc nL s args Ts own) (hM : vx_Met l y ws rm Pc Qc XC mc ms free) (cw : va_CN R s args own index y host bytes maxL ret ws rm mc ms n ∧ (Cond.static y).before args s = true ∧ True) (hp : PreS s H Pc As)
    (hg : g.method = m) (hn : As.length = n) (hsize : g.locals.size = nL) (hstack : g.stack = As.reverse ++ rest) (hW : 2 * g.monitorRoom + (rest.map fun v => v.category).sum ≤ 8) (hdg : decode cc g.pc = .ok (.invokestatic index, 3)) (hf : cells + mc ≤ R.cells ∧ slots + ms ≤ R.slots) :
    vx_Run p l e R s m args below meth c H locs cells slots mc ms g rest (Qc As.toArray) XC free := by
  obtain ⟨⟨⟨hrc, hrs, hfr, hlo, hws, hcw⟩, hcode, hini, hy, hlen, hl⟩, hx1, hx2⟩ := cw
  have hK : vx_Back l R p e below s args y 3 8 (PreOf R mc ms Pc) (PostOf Qc mc ms free) (vx_Post XC mc ms free) := vx_back (bytes := bytes) (maxL := maxL) (ret := ret) hM hp.1 hrc hrs hfr hlo hws hcw (fun a' U hW => word_at hW (Or.inl (by first | rfl | simp [Cond.onTables, Cond.keeps, Cond.steady])) hini)
  obtain ⟨hx, hb, hml, ho, -⟩ := S
  have hPc := hp.2
  intro T hT X
  rcases vx_callSN X hx (bytes := bytes) (maxL := maxL) (ret := ret) ho hl hx1 hini hcode hy hK hg (hsize.trans hml.symm) (argsL := As) (rest := rest) (fun sig h => hn.trans (hlen sig h)) hstack hW (by rw [hb]; exact hdg)
    (fun vm₁ hW₁ => ⟨hf.1, hf.2, hPc (T.setVm vm₁) hT hW₁⟩) with ⟨v, vm₁, ⟨U', l2, c2, s2⟩, hW₁, X', ⟨g', mk, t, L, e1, e2, hq, h1, hL, h2, h3⟩, st⟩ | ⟨q, vm₁, ⟨U', l2, c2, s2⟩, hW₁, X', ⟨g', mk, t, L, E, ce, e1, e2, hq, hce, hcv, hcl, h1, hL, h2, h3⟩, st⟩
  · dsimp only [Pt.U, Pt.locs, Pt.cells, Pt.slots] at X' e1 e2 h1 h2 h3 st
    subst h1; subst h2; subst h3
    exact Or.inl ⟨v, (T.setVm vm₁).calling g' mk As.toArray, t, U', L, hT, X', hL, e1, e2, hq, st⟩
  · dsimp only [Pt.U, Pt.locs, Pt.cells, Pt.slots] at X' e1 e2 h1 h2 h3 st hcl
    subst h1; subst h2; subst h3
    exact Or.inr ⟨q, (T.setVm vm₁).calling g' mk As.toArray, t, U', L, E, ce, hT, X', hL, e1, e2, hq, hce, hcv, vx_cls hW₁ hcl, st⟩
end/-! the words of a callee -/
def q_mh (s : String) : Prop := s ≠ "java/lang/invoke/MethodHandle" ∧ s ≠ "java/lang/invoke/VarHandle"
def q_MF (M : qM) (na : Nat) : Prop := M.2.2.2.2.1 = [] ∧ Cond.code M.1 M.2.1 M.2.2.1 M.2.2.2.1 ∈ lwA ∧ q_mh M.1.cls ∧ (parseMethodDescriptor M.1.desc).map (fun d => d.parameters.length) = some na ∧ M.2.2.1 ≤ 21 ∧ Cond.initialized M.1.cls ∈ lwA
def q_MV (M : qM) (na : Nat) : Prop := q_MF M na ∧ Cond.instanceMethod M.1 ∈ lwA ∧ Cond.selects M.1.cls M.1 M.1 ∈ lwA
def q_MS (M : qM) (na : Nat) : Prop := q_MF M na ∧ Cond.static M.1 ∈ lwA
def q_MI (M : qM) (na : Nat) : Prop := q_MF M na ∧ M.1.name = "<init>" ∧ Cond.instanceMethod M.1 ∈ lwA ∧ M.2.2.2.1 = none
abbrev q_cats (st : List qV) : Nat := (st.map fun v => if q_wide v then 2 else 1).sum
theorem q_cats_eq (G : qG) (st : List qV) : ((st.map (q_v G)).map fun v => v.category).sum = q_cats st := by
  rw [List.map_map]
  have he : ((fun v : Value => v.category) ∘ q_v G) = fun v => if q_wide v then 2 else 1 := by
    funext v
    exact q_cat G v
  rw [he]
theorem q_wd_code {M : qM} (h : M.2.2.2.2.1 = []) : q_wd M = Cond.code M.1 M.2.1 M.2.2.1 M.2.2.2.1 :: lwA := by
  unfold q_wd q_hd
  rw [h]
theorem q_good {M : qM} (h : M.2.2.2.2.1 = []) (hc : Cond.code M.1 M.2.1 M.2.2.1 M.2.2.2.1 ∈ lwA) : GoodIn lwA (q_wd M) := by
  rw [q_wd_code h]
  intro w hw
  rcases List.mem_cons.mp hw with rfl | hw
  · exact ⟨hc, good_of_word (lwA_good hc)⟩
  · exact ⟨hw, good_of_word (lwA_good hw)⟩
theorem q_blind (G : qG) (av : List qV) (n : Nat) (h : qB) : FrameBlind (q_Pc G av n h) := by
  intro a U g mk hp
  obtain ⟨h1, h2, h3, h4, h5⟩ := hp
  exact ⟨h1, q_K0.same (s := U) (U := U.calling g mk a) rfl rfl h2, h3, h4, h5⟩
theorem q_pre {G : qG} {s : State} {H : Heap} {locs : List Loc} {av : List qV} {n : Nat} {h : qB} {cells : Nat} (hK : q_K0 G s) (hP : q_P G h H) (hz : q_lb G n H) (hS : va_S (q_A G) s.heap H locs) (hu : q_ub G n (s.heap.size + cells)) (hcs : H.size ≤ s.heap.size + cells) :
    ∀ U : State, U.heap = H → s.WarmedH U.vm → q_Pc G av n h (av.map (q_v G)).toArray U := by
  intro U hU hW
  refine ⟨rfl, hK.move hW (by rw [hU]; exact hS.1) (fun q h1 h2 => by rw [hU]; exact hS.2.1 q h1 h2), by rw [hU]; exact hP, by rw [hU]; exact hz, fun hn => by rw [hU]; exact Nat.le_trans hcs (hu hn)⟩
/-- behind a call -/
theorem qw_call {p : Program} {l : Launch} {e : Env} {R : Room} {s : State} {m : MethodId} {args : Array Value} {below : List Frame} {meth : Method} {c : Code} {H : Heap} {locs : List Loc} {cells slots mc ms : Nat} {Q : State → Prop} {pc : Nat} {ls : Array Slot} {st0 rest : List Value} {G : qG} {PC : qP} {XC : qX} {a : Array Value}
    (hr : vx_Run p l e R s m args below meth c H locs cells slots mc ms (F0 m pc ls st0) rest (q_Qc G PC a) (q_Xc G XC) (q_A G)) (hS : va_S (q_A G) s.heap H locs)
    (kx : ∀ (E : String) (n : Nat) (h : qB) (H1 : Heap) (locs1 : List Loc) (ce : Cell) (q9 : Addr), XC E n h → q_P G h H1 → q_lb G n H1 → va_S (q_A G) s.heap H1 locs1 → H1[q9]? = some ce → ce.vm = .none → s.vm.findClass E = some ce.cls →
      vx_W p l e R s m args below meth c H1 locs1 (cells + mc) (slots + ms) Q (F0 m pc ls rest) q9)
    (kk : ∀ (v : Option qV) (n : Nat) (h : qB) (H1 : Heap) (locs1 : List Loc), PC v n h → q_P G h H1 → q_lb G n H1 → va_S (q_A G) s.heap H1 locs1 →
      W p l e R s m args below meth c H1 locs1 (cells + mc) (slots + ms) Q (F0 m (pc + 3) ls ((v.map (q_v G)).toList ++ rest))) :
    W p l e R s m args below meth c H locs cells slots Q (F0 m pc ls st0) := by
  intro T hT X
  rcases hr T hT X with ⟨v, st₀, t, T', L, h0, X', hL, e1, e2, ⟨⟨w, n, h, hv, hp, hb⟩, hF⟩, st⟩ | ⟨q, st₀, t, T', L, E, ce, h0, X', hL, e1, e2, ⟨⟨n, h, hp, hb⟩, hF⟩, hce, hcv, hcl, st⟩
  · cases hv
    obtain ⟨k1, k2, k3⟩ := vx_keep h0 e1 hS (fun q _ hq => hq) (fun q hq => hq) hL hF
    obtain ⟨t2, a1, b1⟩ := kk w n h T'.heap (locs ++ L) hp (by rw [e1]; exact hb.1) (by rw [e1]; exact hb.2) k3 T' rfl X'
    exact ⟨t2, st t2 a1, b1⟩
  · obtain ⟨k1, k2, k3⟩ := vx_keep h0 e1 hS (fun q _ hq => hq) (fun q hq => hq) hL hF
    obtain ⟨t2, a1, b1⟩ := kx E n h T'.heap (locs ++ L) ce q hp (by rw [e1]; exact hb.1) (by rw [e1]; exact hb.2) k3 (by rw [e1]; exact hce) hcv hcl T' rfl X'
    exact ⟨t2, st.trans a1, b1⟩
theorem q_st_eq (G : qG) (as rest : List qV) : ((as.reverse ++ rest).map (q_v G)) = (as.map (q_v G)).reverse ++ rest.map (q_v G) := by rw [List.map_append, List.map_reverse]
theorem q_vs_eq (G : qG) (v : Option qV) (rest : List qV) : (v.map (q_v G)).toList ++ rest.map (q_v G) = (v.toList ++ rest).map (q_v G) := by cases v <;> rfl
/-- what an exception does that no handler of the method takes -/
theorem qw_out {M : qM} {d : Nat} {G : qG} {p : Program} {l : Launch} {e : Env} {R : Room} {s : State} {m : MethodId} {args : Array Value} {below : List Frame} {meth : Method} {c : Code} {H1 : Heap} {locs1 : List Loc} {cells slots : Nat} {P : qP} {X : qX} {pc : Nat} {ls : Array Slot} {rest : List Value} {E : String} {n : Nat} {h : qB} {ce : Cell} {q9 : Addr}
    (C : q_Cx M d G p l R s m args meth c) (hnoh : ∀ x ∈ tableOf M.2.2.2.2.1, covers x pc = false) (hX : X E n h) (hP : q_P G h H1) (hz : q_lb G n H1) (hS : va_S (q_A G) s.heap H1 locs1) (hce : H1[q9]? = some ce) (hcv : ce.vm = .none) (hcl : s.vm.findClass E = some ce.cls) (hc : cells ≤ R.cells) (hs : slots ≤ R.slots) :
    vx_W p l e R s m args below meth c H1 locs1 cells slots (vx_MQ below (q_Qc G P) (q_Xc G X) args s R.cells R.slots (q_A G)) (F0 m pc ls rest) q9 := by
  obtain ⟨hx, hb, hml, hown, hts, hrt, hlocks, htab, hst, hnm, hK, hdR, hlR, hsx⟩ := C
  exact vx_out (by rw [htab]; exact hnoh) hlocks hce hcv hcl (fun t ht _ => ⟨⟨n, h, hX, by rw [q_W, ht]; exact ⟨hP, hz⟩⟩, hS.F ht⟩) hS.2.2 hc hs
theorem e_callV {M M' : qM} {d d' pc idx mc ms : Nat} {L : List (Option qV)} {st rest as : List qV} {n : Nat} {h : qB} {kc ks : Nat} {P PC : qP} {X XC : qX} {b o : Fin 16} {ci : Nat} {fs : List qV} {T : u_T} {N : Nat}
    (hM : q_MV M' as.length) (hl : Cond.methodLink M.1.cls idx M'.1 ∈ lwA) (hc : Ct M' d' mc ms (qR b o :: as) n h PC XC) (hst : st = as.reverse ++ qR b o :: rest) (dg : decode M.2.1 pc = .ok (.invokevirtual idx, 3))
    (hF : (h b)[o.val]? = some (eO ci fs)) (hcl : vwCl[ci]? = some (M'.1.cls, T, N)) (hd : d' + 1 ≤ d) (hr : q_cats rest ≤ 8) (hkc : mc ≤ kc) (hks : ms ≤ ks) (hnoh : ∀ x ∈ tableOf M.2.2.2.2.1, covers x pc = false)
    (hnn : ∀ v n' h', PC v n' h' → n' < 124 → n + mc ≤ n') (kx : ∀ E n' h', XC E n' h' → X E n' h')
    (kk : ∀ v n' h', PC v n' h' → Ev M d (pc + 3) L (v.toList ++ rest) n' h' (kc - mc) (ks - ms) P X) : Ev M d pc L st n h kc ks P X := by
  intro G p l e R s m args below meth c H locs ls C hlo hP hz hS cells slots hu hcc hss
  obtain ⟨hx, hb, hml, hown, hts, hrt, hlocks, htab, hstr, hnm, hK, hdR, hlR, hsx⟩ := id C
  obtain ⟨⟨m1, m2, m3, m4, m5, m6⟩, m7, m8⟩ := hM
  subst hst
  refine qw_size fun hsz => ?_
  obtain ⟨q0, h0⟩ := q_ws_of (G := G) (k := (b, o)) hF
  have hrun := vx_runV (H := H) (locs := locs) (As := as.map (q_v G)) (rest := rest.map (q_v G)) (b := q_ad G (b, o)) (e := e) (below := below) (meth := meth) (cells := cells) (slots := slots) (g := F0 m pc ls ((as.reverse ++ qR b o :: rest).map (q_v G)))
    ⟨hx, hb, hml, hown, hts⟩ (hc G l hstr) (C := M'.1.cls) (own := M.1.cls) (index := idx) (bytes := M'.2.1) (maxL := M'.2.2.1) (ret := M'.2.2.2.1) (n := as.length) (R := R)
    ⟨callB_of as.length hts (q_good m1 m2) (q_wd_code m1) rfl rfl (hts _ m6) (hts _ hl) ⟨m3.1, m3.2, m4⟩ ⟨by show d' + 1 ≤ R.frames; omega, by show 8 + (M'.2.2.1 + 11) + 40 * d' ≤ R.locals; omega⟩, hts _ m7, hts _ m8⟩
    ⟨q_blind G _ n h, va_recv hK.1 hP hcl h0, q_pre (av := qR b o :: as) hK hP hz hS hu hsz⟩ rfl (by rw [List.length_map]) hlo.1 (by rw [q_st_eq]; rfl) (lv_room (by rw [q_cats_eq]; exact hr)) dg ⟨by omega, by omega⟩
  refine qw_call hrun hS (fun E n' h' H1 locs1 ce q9 f1 f2 f3 f4 f5 f6 f7 => ?_) (fun v n' h' H1 locs1 f1 f2 f3 f4 => ?_)
  · exact qw_out C hnoh (kx _ _ _ f1) f2 f3 f4 f5 f6 f7 (by omega) (by omega)
  · rw [q_vs_eq]
    exact kk v n' h' f1 G p l e R s m args below meth c H1 locs1 ls C hlo f2 f3 f4 (cells + mc) (slots + ms) (fun hn => by have h9 := hnn _ _ _ f1 hn; have h8 := hu (by omega); omega) (by omega) (by omega)
theorem e_callS {M M' : qM} {d d' pc idx mc ms : Nat} {L : List (Option qV)} {st rest as : List qV} {n : Nat} {h : qB} {kc ks : Nat} {P PC : qP} {X XC : qX}
    (hM : q_MS M' as.length) (hl : Cond.methodLink M.1.cls idx M'.1 ∈ lwA) (hc : Ct M' d' mc ms as n h PC XC) (hst : st = as.reverse ++ rest) (dg : decode M.2.1 pc = .ok (.invokestatic idx, 3))
    (hd : d' + 1 ≤ d) (hr : q_cats rest ≤ 8) (hkc : mc ≤ kc) (hks : ms ≤ ks) (hnoh : ∀ x ∈ tableOf M.2.2.2.2.1, covers x pc = false)
    (hnn : ∀ v n' h', PC v n' h' → n' < 124 → n + mc ≤ n') (kx : ∀ E n' h', XC E n' h' → X E n' h')
    (kk : ∀ v n' h', PC v n' h' → Ev M d (pc + 3) L (v.toList ++ rest) n' h' (kc - mc) (ks - ms) P X) : Ev M d pc L st n h kc ks P X := by
  intro G p l e R s m args below meth c H locs ls C hlo hP hz hS cells slots hu hcc hss
  obtain ⟨hx, hb, hml, hown, hts, hrt, hlocks, htab, hstr, hnm, hK, hdR, hlR, hsx⟩ := id C
  obtain ⟨⟨m1, m2, m3, m4, m5, m6⟩, m7⟩ := hM
  subst hst
  refine qw_size fun hsz => ?_
  have hrun := vx_runS (H := H) (locs := locs) (As := as.map (q_v G)) (rest := rest.map (q_v G)) (e := e) (below := below) (meth := meth) (cells := cells) (slots := slots) (g := F0 m pc ls ((as.reverse ++ rest).map (q_v G)))
    ⟨hx, hb, hml, hown, hts⟩ (hc G l hstr) (own := M.1.cls) (index := idx) (bytes := M'.2.1) (maxL := M'.2.2.1) (ret := M'.2.2.2.1) (n := as.length) (R := R)
    ⟨callB_of as.length hts (q_good m1 m2) (q_wd_code m1) rfl rfl (hts _ m6) (hts _ hl) ⟨m3.1, m3.2, m4⟩ ⟨by show d' + 1 ≤ R.frames; omega, by show 8 + (M'.2.2.1 + 11) + 40 * d' ≤ R.locals; omega⟩, hts _ m7⟩
    ⟨q_blind G _ n h, q_pre (av := as) hK hP hz hS hu hsz⟩ rfl (by rw [List.length_map]) hlo.1 (by rw [q_st_eq]) (lv_room (by rw [q_cats_eq]; exact hr)) dg ⟨by omega, by omega⟩
  refine qw_call hrun hS (fun E n' h' H1 locs1 ce q9 f1 f2 f3 f4 f5 f6 f7 => ?_) (fun v n' h' H1 locs1 f1 f2 f3 f4 => ?_)
  · exact qw_out C hnoh (kx _ _ _ f1) f2 f3 f4 f5 f6 f7 (by omega) (by omega)
  · rw [q_vs_eq]
    exact kk v n' h' f1 G p l e R s m args below meth c H1 locs1 ls C hlo f2 f3 f4 (cells + mc) (slots + ms) (fun hn => by have h9 := hnn _ _ _ f1 hn; have h8 := hu (by omega); omega) (by omega) (by omega)
/-- a nest mate's static method -/
theorem e_callN {M M' : qM} {d d' pc idx mc ms : Nat} {host : String} {L : List (Option qV)} {st rest as : List qV} {n : Nat} {h : qB} {kc ks : Nat} {P PC : qP} {X XC : qX}
    (hM : q_MS M' as.length) (hl : Cond.methodLinkNest M.1.cls idx M'.1 host ∈ q_nest) (hc : Ct M' d' mc ms as n h PC XC) (hst : st = as.reverse ++ rest) (dg : decode M.2.1 pc = .ok (.invokestatic idx, 3))
    (hd : d' + 1 ≤ d) (hr : q_cats rest ≤ 8) (hkc : mc ≤ kc) (hks : ms ≤ ks) (hnoh : ∀ x ∈ tableOf M.2.2.2.2.1, covers x pc = false)
    (hnn : ∀ v n' h', PC v n' h' → n' < 124 → n + mc ≤ n') (kx : ∀ E n' h', XC E n' h' → X E n' h')
    (kk : ∀ v n' h', PC v n' h' → Ev M d (pc + 3) L (v.toList ++ rest) n' h' (kc - mc) (ks - ms) P X) : Ev M d pc L st n h kc ks P X := by
  intro G p l e R s m args below meth c H locs ls C hlo hP hz hS cells slots hu hcc hss
  obtain ⟨hx, hb, hml, hown, hts, hrt, hlocks, htab, hstr, hnm, hK, hdR, hlR, hsx⟩ := id C
  obtain ⟨⟨m1, m2, m3, m4, m5, m6⟩, m7⟩ := hM
  subst hst
  refine qw_size fun hsz => ?_
  have hrun := vx_runSN (H := H) (locs := locs) (As := as.map (q_v G)) (rest := rest.map (q_v G)) (e := e) (below := below) (meth := meth) (cells := cells) (slots := slots) (g := F0 m pc ls ((as.reverse ++ rest).map (q_v G)))
    ⟨hx, hb, hml, hown, hts⟩ (hc G l hstr) (own := M.1.cls) (index := idx) (host := host) (bytes := M'.2.1) (maxL := M'.2.2.1) (ret := M'.2.2.2.1) (n := as.length) (R := R)
    ⟨va_cnB as.length hts (q_good m1 m2) (q_wd_code m1) rfl rfl (hK.2.2.2.2.2.1 _ hl) (hts _ m6) ⟨m3.1, m3.2, m4⟩ ⟨by show d' + 1 ≤ R.frames; omega, by show 8 + (M'.2.2.1 + 11) + 40 * d' ≤ R.locals; omega⟩, hts _ m7, trivial⟩
    ⟨q_blind G _ n h, q_pre (av := as) hK hP hz hS hu hsz⟩ rfl (by rw [List.length_map]) hlo.1 (by rw [q_st_eq]) (lv_room (by rw [q_cats_eq]; exact hr)) dg ⟨by omega, by omega⟩
  refine qw_call hrun hS (fun E n' h' H1 locs1 ce q9 f1 f2 f3 f4 f5 f6 f7 => ?_) (fun v n' h' H1 locs1 f1 f2 f3 f4 => ?_)
  · exact qw_out C hnoh (kx _ _ _ f1) f2 f3 f4 f5 f6 f7 (by omega) (by omega)
  · rw [q_vs_eq]
    exact kk v n' h' f1 G p l e R s m args below meth c H1 locs1 ls C hlo f2 f3 f4 (cells + mc) (slots + ms) (fun hn => by have h9 := hnn _ _ _ f1 hn; have h8 := hu (by omega); omega) (by omega) (by omega)
/-- a constructor -/
theorem e_callI {M M' : qM} {d d' pc idx mc ms : Nat} {L : List (Option qV)} {st rest as : List qV} {n : Nat} {h : qB} {kc ks : Nat} {P PC : qP} {X XC : qX} {b o : Fin 16}
    (hM : q_MI M' as.length) (hl : Cond.methodLink M.1.cls idx M'.1 ∈ lwA) (hc : Ct M' d' mc ms (qR b o :: as) n h PC XC) (hst : st = as.reverse ++ qR b o :: rest) (dg : decode M.2.1 pc = .ok (.invokespecial idx, 3))
    (hd : d' + 1 ≤ d) (hr : q_cats rest ≤ 8) (hkc : mc ≤ kc) (hks : ms ≤ ks) (hnoh : ∀ x ∈ tableOf M.2.2.2.2.1, covers x pc = false)
    (hnn : ∀ v n' h', PC v n' h' → n' < 124 → n + mc ≤ n') (kx : ∀ E n' h', XC E n' h' → X E n' h')
    (kk : ∀ v n' h', PC v n' h' → Ev M d (pc + 3) L (v.toList ++ rest) n' h' (kc - mc) (ks - ms) P X) : Ev M d pc L st n h kc ks P X := by
  intro G p l e R s m args below meth c H locs ls C hlo hP hz hS cells slots hu hcc hss
  obtain ⟨hx, hb, hml, hown, hts, hrt, hlocks, htab, hstr, hnm, hK, hdR, hlR, hsx⟩ := id C
  obtain ⟨⟨m1, m2, m3, m4, m5, m6⟩, m7, m8, m9⟩ := hM
  subst hst
  refine qw_size fun hsz => ?_
  have hrun := vx_runI (H := H) (locs := locs) (As := as.map (q_v G)) (rest := rest.map (q_v G)) (b := q_ad G (b, o)) (e := e) (below := below) (meth := meth) (cells := cells) (slots := slots) (g := F0 m pc ls ((as.reverse ++ qR b o :: rest).map (q_v G)))
    ⟨hx, hb, hml, hown, hts⟩ (hc G l hstr) (own := M.1.cls) (index := idx) (bytes := M'.2.1) (maxL := M'.2.2.1) (n := as.length) (R := R)
    ⟨callB_of as.length hts (q_good m1 m2) (by rw [← m9]; exact q_wd_code m1) rfl rfl (hts _ m6) (hts _ hl) ⟨m3.1, m3.2, m4⟩ ⟨by show d' + 1 ≤ R.frames; omega, by show 8 + (M'.2.2.1 + 11) + 40 * d' ≤ R.locals; omega⟩, m7, hts _ m8⟩
    ⟨q_blind G _ n h, q_pre (av := qR b o :: as) hK hP hz hS hu hsz⟩ rfl (by rw [List.length_map]) hlo.1 (by rw [q_st_eq]; rfl) (lv_room (by rw [q_cats_eq]; exact hr)) dg ⟨by omega, by omega⟩
  refine qw_call hrun hS (fun E n' h' H1 locs1 ce q9 f1 f2 f3 f4 f5 f6 f7 => ?_) (fun v n' h' H1 locs1 f1 f2 f3 f4 => ?_)
  · exact qw_out C hnoh (kx _ _ _ f1) f2 f3 f4 f5 f6 f7 (by omega) (by omega)
  · rw [q_vs_eq]
    exact kk v n' h' f1 G p l e R s m args below meth c H1 locs1 ls C hlo f2 f3 f4 (cells + mc) (slots + ms) (fun hn => by have h9 := hnn _ _ _ f1 hn; have h8 := hu (by omega); omega) (by omega) (by omega)
/-- Object's constructor -/
theorem e_objInit {M : qM} {d pc idx : Nat} {L : List (Option qV)} {st : List qV} {n : Nat} {h : qB} {kc ks : Nat} {P : qP} {X : qX} {b o : Fin 16}
    (hl : Cond.methodLink M.1.cls idx Lib.objectInit ∈ lwA) (hin : Cond.instanceMethod Lib.objectInit ∈ lwA) (hco : Cond.code Lib.objectInit ⟨#[0xb1]⟩ 1 none ∈ lwA) (dg : decode M.2.1 pc = .ok (.invokespecial idx, 3)) (hd : 1 ≤ d) (hr : q_cats st ≤ 8)
    (k : Ev M d (pc + 3) L st n h kc ks P X) : Ev M d pc L (qR b o :: st) n h kc ks P X := by
  intro G p l e R s m args below meth c H locs ls C hlo hP hz hS cells slots hu hcc hss
  obtain ⟨hx, hb, hml, hown, hts, hrt, hlocks, htab, hstr, hnm, hK, hdR, hlR, hsx⟩ := id C
  refine W.objInit hx hb hown (hts _ hl) (hts _ hin) (hts _ hco) (g := F0 m pc ls ((qR b o :: st).map (q_v G))) rfl (hlo.1.trans hml.symm) rfl dg (by omega) (by have h9 := q_cats_eq G st; show 2 * 0 + ((st.map (q_v G)).map fun v => v.category).sum + 12 ≤ R.locals; rw [h9]; omega) ?_
  exact k G p l e R s m args below meth c H locs ls C hlo hP hz hS cells slots hu hcc hss
/-- a new object; its key is the next one -/
def q_CN (own : String) (idx ci N : Nat) : Prop := ∃ (CC : String) (T : u_T) (ty0 : Nat → FieldType), vwCl[ci]? = some (CC, T, N) ∧ Cond.classLink own idx CC ∈ lwA ∧ Cond.instantiable CC N ∈ lwA ∧ Cond.initialized CC ∈ lwA ∧ (∀ w ∈ u_ws CC T N, w ∈ lwA) ∧ (∀ k, k < N → parseFieldDescriptor (T k).2.2.1 = some (ty0 k))
def q_dv : FieldType → qV
  | .int => qI 0
  | .boolean => qI 0
  | _ => qN
theorem e_new {M : qM} {d pc idx ci N : Nat} {L : List (Option qV)} {st : List qV} {n : Nat} {h : qB} {kc ks : Nat} {P : qP} {X : qX} (b o : Fin 16) {fs : List qV}
    (hc : q_CN M.1.cls idx ci N) (dg : decode M.2.1 pc = .ok (.new idx, 3)) (hfs : ∀ (T : u_T) (CC : String), vwCl[ci]? = some (CC, T, N) → ∀ j, j < N → ∀ G t, parseFieldDescriptor (T j).2.2.1 = some t → defaultValue t = vp_V (fs.map (q_v G)) j)
    (hn : n < 124) (htb : q_tb (b, o) = n) (ho : (h b).length = o.val) (hkc : 1 ≤ kc) (hks : N ≤ ks)
    (k : Ev M d (pc + 3) L (qR b o :: st) (n + 1) (q_push h b (eO ci fs)) (kc - 1) (ks - N) P X) : Ev M d pc L st n h kc ks P X := by
  intro G p l e R s m args below meth c H locs ls C hlo hP hz hS cells slots hu hcc hss
  obtain ⟨hx, hb, hml, hown, hts, hrt, hlocks, htab, hstr, hnm, hK, hdR, hlR, hsx⟩ := id C
  obtain ⟨CC, T, ty0, c1, c2, c3, c4, c5, c6⟩ := hc
  refine qw_size fun hsz => ?_
  have hHs : H.size = q_base G + n := by
    have h1 := hu hn
    have h2 : q_base G + min n 124 ≤ H.size := hz
    omega
  have hKn := hK.1.1 ci _ c1
  refine W.newcK hx hb hown (hts _ c2) (hts _ c3) (hts _ c4) rfl dg (by omega) (by omega) hKn.2.1 rfl fun H1 kC hkC e1 z1 o1 => ?_
  have hk : ∀ (k : Nat) (x : Nat × va_E), (q_ws G h)[k]? = some x → H1[x.1]? = H[x.1]? := fun k x hx => o1 x.1 ((hP k x hx).lt)
  have hq : H.size = q_ad G (b, o) := by rw [hHs, q_ad, htb]
  have hP1 : va_P G.1 vwCl (q_ws G h ++ [(q_ad G (b, o), q_e G (eO ci fs))]) H1 := (hP.kept hk).app (fun k x hx => by
    have hz0 : k < 1 := (List.getElem?_eq_some_iff.mp hx).1
    rw [show k = 0 by omega] at hx
    cases hx
    rw [← hq]
    exact ⟨_, c1, (u_born ty0 hts c5 hKn hkC e1 c6).to fun j hj => hfs T CC c1 j hj G (ty0 j) (c6 j hj)⟩)
  refine W.eq (g2 := F0 m (pc + 3) ls ((qR b o :: st).map (q_v G))) (by show F0 m (pc + 3) ls (.ref H.size :: _) = _; rw [hq]; rfl) ?_
  exact k G p l e R s m args below meth c H1 locs ls C hlo (q_P_push ho hP1) (by show q_base G + min (n + 1) 124 ≤ H1.size; omega)
    ⟨Nat.le_trans hS.1 (by omega), fun x h1 h2 => (o1 x (Nat.lt_of_lt_of_le h1 hS.1)).trans (hS.2.1 x h1 h2), hS.2.2⟩ (cells + 1) (slots + N) (fun _ => by have h8 := hu hn; omega) (by omega) (by omega)
/-- a new row of ints -/
theorem e_newint {M : qM} {d pc : Nat} {L : List (Option qV)} {st : List qV} {n : Nat} {h : qB} {kc ks : Nat} {P : qP} {X : qX} (b o : Fin 16) {N : Nat} {x : Int32}
    (ha : Cond.arrayClass .int ∈ lwA) (dg : decode M.2.1 pc = .ok (.newarray .int, 2)) (hx0 : x = nI N) (hN : N < 100000)
    (hn : n < 124) (htb : q_tb (b, o) = n) (ho : (h b).length = o.val) (hkc : 1 ≤ kc) (hks : N ≤ ks)
    (k : Ev M d (pc + 2) L (qR b o :: st) (n + 1) (q_push h b (eI N (fun _ => 0))) (kc - 1) (ks - N) P X) : Ev M d pc L (qI x :: st) n h kc ks P X := by
  intro G p l e R s m args below meth c H locs ls C hlo hP hz hS cells slots hu hcc hss
  obtain ⟨hx, hb, hml, hown, hts, hrt, hlocks, htab, hstr, hnm, hK, hdR, hlR, hsx⟩ := id C
  subst hx0
  refine qw_size fun hsz => ?_
  have hHs : H.size = q_base G + n := by
    have h1 := hu hn
    have h2 : q_base G + min n 124 ≤ H.size := hz
    omega
  have hcl : (nI N).toNatClampNeg = N := nI_clamp (by omega)
  refine va_newaK (atype := .int) hx hb (hts _ ha) rfl dg rfl (nI_pos (by omega)) hcl (by show N * 4 ≤ 536870912; omega) (by omega) (by omega) rfl fun H1 cA e1 z1 o1 hAr hNm => ?_
  have hcA : cA = G.2.1.1 := by
    have h1 := (hK.1.2 0 _ rfl).2
    exact Option.some.inj (hNm.symm.trans h1)
  subst hcA
  have hk : ∀ (k : Nat) (x : Nat × va_E), (q_ws G h)[k]? = some x → H1[x.1]? = H[x.1]? := fun k x hx => o1 x.1 ((hP k x hx).lt)
  have hq : H.size = q_ad G (b, o) := by rw [hHs, q_ad, htb]
  have hP1 : va_P G.1 vwCl (q_ws G h ++ [(q_ad G (b, o), q_e G (eI N (fun _ => 0)))]) H1 := (hP.kept hk).app (fun k x hx => by
    have hz0 : k < 1 := (List.getElem?_eq_some_iff.mp hx).1
    rw [show k = 0 by omega] at hx
    cases hx
    rw [← hq]
    exact e1)
  refine W.eq (g2 := F0 m (pc + 2) ls ((qR b o :: st).map (q_v G))) (by show F0 m (pc + 2) ls (.ref H.size :: _) = _; rw [hq]; rfl) ?_
  exact k G p l e R s m args below meth c H1 locs ls C hlo (q_P_push ho hP1) (by show q_base G + min (n + 1) 124 ≤ H1.size; omega)
    ⟨Nat.le_trans hS.1 (by omega), fun x h1 h2 => (o1 x (Nat.lt_of_lt_of_le h1 hS.1)).trans (hS.2.1 x h1 h2), hS.2.2⟩ (cells + 1) (slots + N) (fun _ => by have h8 := hu hn; omega) (by omega) (by omega)
/-- a new row of worlds -/
theorem e_newrow {M : qM} {d pc idx : Nat} {L : List (Option qV)} {st : List qV} {n : Nat} {h : qB} {kc ks : Nat} {P : qP} {X : qX} (b o : Fin 16) {N : Nat} {x : Int32}
    (ha : Cond.classLink M.1.cls idx RX1 ∈ lwA) (dg : decode M.2.1 pc = .ok (.anewarray idx, 3)) (hx0 : x = nI N) (hN : N < 100000)
    (hn : n < 124) (htb : q_tb (b, o) = n) (ho : (h b).length = o.val) (hkc : 1 ≤ kc) (hks : N ≤ ks)
    (k : Ev M d (pc + 3) L (qR b o :: st) (n + 1) (q_push h b (eQ N (fun _ => none))) (kc - 1) (ks - N) P X) : Ev M d pc L (qI x :: st) n h kc ks P X := by
  intro G p l e R s m args below meth c H locs ls C hlo hP hz hS cells slots hu hcc hss
  obtain ⟨hx, hb, hml, hown, hts, hrt, hlocks, htab, hstr, hnm, hK, hdR, hlR, hsx⟩ := id C
  subst hx0
  refine qw_size fun hsz => ?_
  have hHs : H.size = q_base G + n := by
    have h1 := hu hn
    have h2 : q_base G + min n 124 ≤ H.size := hz
    omega
  have hcl : (nI N).toNatClampNeg = N := nI_clamp (by omega)
  refine W.anew hx hb hown (hts _ ha) (va_AO.use hK.2.2.2.2.2.2.2.1.1) rfl dg rfl (nI_pos (by omega)) (by rw [hcl]; omega) (by omega) (by rw [hcl]; omega) fun cA kA comp f1 f2 f3 f4 => ?_
  have hcA : cA = G.2.1.2.2 := by
    obtain ⟨kA2, comp2, g1, g2, g3, g4⟩ := (hK.1.2 2 _ rfl).2
    exact Option.some.inj (f1.symm.trans g4)
  subst hcA
  rw [hcl]
  generalize hH1 : H.push ({ cls := G.2.1.2.2, slots := Array.replicate N .null, vm := .none } : Cell) = H1
  have z1 : H1.size = H.size + 1 := by rw [← hH1, Array.size_push]
  have e1 : H1[H.size]? = some (arrV G.2.1.2.2 N (fun _ => .null)) := by rw [← hH1, Array.getElem?_push_size, ← arrV_new]
  have o1 : ∀ q : Nat, q < H.size → H1[q]? = H[q]? := fun q hq => by rw [← hH1, Array.getElem?_push, if_neg (Nat.ne_of_lt hq)]
  have hk : ∀ (k : Nat) (x : Nat × va_E), (q_ws G h)[k]? = some x → H1[x.1]? = H[x.1]? := fun k x hx => o1 x.1 ((hP k x hx).lt)
  have hq : H.size = q_ad G (b, o) := by rw [hHs, q_ad, htb]
  have hP1 : va_P G.1 vwCl (q_ws G h ++ [(q_ad G (b, o), q_e G (eQ N (fun _ => none)))]) H1 := (hP.kept hk).app (fun k x hx => by
    have hz0 : k < 1 := (List.getElem?_eq_some_iff.mp hx).1
    rw [show k = 0 by omega] at hx
    cases hx
    rw [← hq]
    exact e1)
  refine W.eq (g2 := F0 m (pc + 3) ls ((qR b o :: st).map (q_v G))) (by show F0 m (pc + 3) ls (.ref H.size :: _) = _; rw [hq]; rfl) ?_
  exact k G p l e R s m args below meth c H1 locs ls C hlo (q_P_push ho hP1) (by show q_base G + min (n + 1) 124 ≤ H1.size; omega)
    ⟨Nat.le_trans hS.1 (by omega), fun x h1 h2 => (o1 x (Nat.lt_of_lt_of_le h1 hS.1)).trans (hS.2.1 x h1 h2), hS.2.2⟩ (cells + 1) (slots + N) (fun _ => by have h8 := hu hn; omega) (by omega) (by omega)
