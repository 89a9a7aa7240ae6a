/-! THE CLASS'S CELLS TOGETHER: block 0's list o, worlds w in blocks 1 to m -/
theorem fs_new0 : ∀ (T : u_T) (CC : String), vwCl[0]? = some (CC, T, 5) → ∀ j, j < 5 → ∀ G t, parseFieldDescriptor (T j).2.2.1 = some t → defaultValue t = vp_V (([qI 0, qI 0, qI 0, qI 0, qI 0] : List qV).map (q_v G)) j := by
  intro T CC h j hj G t ht
  cases h
  have e := (tyX0_ok j hj).symm.trans ht
  cases e
  rcases (show j = 0 ∨ j = 1 ∨ j = 2 ∨ j = 3 ∨ j = 4 by omega) with rfl | rfl | rfl | rfl | rfl <;> rfl
theorem fs_new1 : ∀ (T : u_T) (CC : String), vwCl[1]? = some (CC, T, 18) → ∀ j, j < 18 → ∀ G t, parseFieldDescriptor (T j).2.2.1 = some t → defaultValue t = vp_V (([qI 0, qN, qN, qN, qN, qN, qN, qI 0, qI 0, qN, qN, qN, qN, qN, qI 0, qI 0, qI 0, qI 0] : List qV).map (q_v G)) j := by
  intro T CC h j hj G t ht
  cases h
  have e := (tyX1_ok j hj).symm.trans ht
  cases e
  rcases (show j = 0 ∨ j = 1 ∨ j = 2 ∨ j = 3 ∨ j = 4 ∨ j = 5 ∨ j = 6 ∨ j = 7 ∨ j = 8 ∨ j = 9 ∨ j = 10 ∨ j = 11 ∨ j = 12 ∨ j = 13 ∨ j = 14 ∨ j = 15 ∨ j = 16 ∨ j = 17 by omega) with rfl | rfl | rfl | rfl | rfl | rfl | rfl | rfl | rfl | rfl | rfl | rfl | rfl | rfl | rfl | rfl | rfl | rfl <;> rfl
theorem fs_new2 : ∀ (T : u_T) (CC : String), vwCl[2]? = some (CC, T, 10) → ∀ j, j < 10 → ∀ G t, parseFieldDescriptor (T j).2.2.1 = some t → defaultValue t = vp_V (([qN, qN, qN, qN, qN, qI 0, qI 0, qN, qI 0, qN] : List qV).map (q_v G)) j := by
  intro T CC h j hj G t ht
  cases h
  have e := (tyX2_ok j hj).symm.trans ht
  cases e
  rcases (show j = 0 ∨ j = 1 ∨ j = 2 ∨ j = 3 ∨ j = 4 ∨ j = 5 ∨ j = 6 ∨ j = 7 ∨ j = 8 ∨ j = 9 by omega) with rfl | rfl | rfl | rfl | rfl | rfl | rfl | rfl | rfl | rfl <;> rfl
def hK (h : qB) (o : List qE) (w : Fin 16 → qw) (m : Nat) : qB := fun b => if b = 0 then o else if b.val ≤ m then wblk b (w b) else h b
def uw (w : Fin 16 → qw) (b : Fin 16) (x : qw) : Fin 16 → qw := fun c => if c = b then x else w c
theorem hK_0 (h : qB) (o : List qE) (w : Fin 16 → qw) (m : Nat) : hK h o w m 0 = o := rfl
theorem hK_at {h : qB} {o : List qE} {w : Fin 16 → qw} {m : Nat} {b : Fin 16} (h1 : b ≠ 0) (h2 : b.val ≤ m) : hK h o w m b = wblk b (w b) := by
  show (if b = 0 then o else if b.val ≤ m then wblk b (w b) else h b) = _
  rw [if_neg h1, if_pos h2]
theorem hK_out {h : qB} {o : List qE} {w : Fin 16 → qw} {m : Nat} {b : Fin 16} (h1 : b ≠ 0) (h2 : ¬ b.val ≤ m) : hK h o w m b = h b := by
  show (if b = 0 then o else if b.val ≤ m then wblk b (w b) else h b) = _
  rw [if_neg h1, if_neg h2]
theorem hK_put0 (h : qB) (o o2 : List qE) (w : Fin 16 → qw) (m : Nat) : q_put (hK h o w m) 0 o2 = hK h o2 w m := by
  funext c
  by_cases hc : c = 0
  · subst hc; rfl
  · rw [q_put_ne _ _ hc]; simp [hK, hc]
theorem hK_put {h : qB} {o : List qE} {w : Fin 16 → qw} {m : Nat} {b : Fin 16} (h1 : b ≠ 0) (h2 : b.val ≤ m) (x : qw) : q_put (hK h o w m) b (wblk b x) = hK h o (uw w b x) m := by
  funext c
  by_cases hc : c = b
  · subst hc; rw [q_put_at, hK_at h1 h2]; simp [uw]
  · rw [q_put_ne _ _ hc]; simp [hK, uw, hc]
theorem hK_next {h : qB} {o : List qE} {w : Fin 16 → qw} {m : Nat} {b : Fin 16} (h2 : b.val = m + 1) (x : qw) : q_put (hK h o w m) b (wblk b x) = hK h o (uw w b x) (m + 1) := by
  have h1 : b ≠ 0 := by intro q; subst q; simp at h2
  funext c
  by_cases hc : c = b
  · subst hc; rw [q_put_at, hK_at h1 (by omega)]; simp [uw]
  · rw [q_put_ne _ _ hc]
    have hv : c.val ≠ b.val := fun q => hc (Fin.ext q)
    by_cases h0 : c = 0
    · subst h0; rfl
    · by_cases h3 : c.val ≤ m
      · rw [hK_at h0 h3, hK_at h0 (by omega)]; simp [uw, hc]
      · rw [hK_out h0 h3, hK_out h0 (by omega)]
theorem hK_self {h : qB} {o : List qE} {w : Fin 16 → qw} {m : Nat} {b : Fin 16} (h1 : b ≠ 0) (h2 : b.val ≤ m) : q_put (hK h o w m) b (wblk b (w b)) = hK h o w m := q_put_self (hK_at h1 h2)
theorem e_get0 {M : qM} {d pc : Nat} {L : List (Option qV)} {st : List qV} {n : Nat} {h : qB} {kc ks : Nat} {P : qP} {X : qX} {idx ci j : Nat} {ty : FieldType} {fin : Bool} {o : Fin 16} {fs : List qV} {v : qV} {F : List qE} {w : Fin 16 → qw} {m : Nat}
    (hf : q_FL M.1.cls idx ci j ty fin) (dg : decode M.2.1 pc = .ok (.getfield idx, 3)) (hF : F[o.val]? = some (eO ci fs)) (hv : fs[j]? = some v)
    (k : Ev M d (pc + 3) L (v :: st) n (hK h F w m) kc ks P X) : Ev M d pc L (qR 0 o :: st) n (hK h F w m) kc ks P X := e_getfield hf dg (by rw [hK_0]; exact hF) hv k
theorem e_put0 {M : qM} {d pc : Nat} {L : List (Option qV)} {st : List qV} {n : Nat} {h : qB} {kc ks : Nat} {P : qP} {X : qX} {idx ci j : Nat} {ty : FieldType} {o : Fin 16} {fs : List qV} {v : qV} {F : List qE} {w : Fin 16 → qw} {m : Nat}
    (hf : q_FL M.1.cls idx ci j ty false) (dg : decode M.2.1 pc = .ok (.putfield idx, 3)) (hF : F[o.val]? = some (eO ci fs)) (hj : j < fs.length) (hn : ∀ G, narrow ty (q_v G v) = q_v G v) (hfit : ∀ G, fits ty (q_v G v) = true)
    (k : Ev M d (pc + 3) L st n (hK h (F.set o.val (eO ci (fs.set j v))) w m) kc ks P X) : Ev M d pc L (v :: qR 0 o :: st) n (hK h F w m) kc ks P X := by
  refine e_putfield hf dg (by rw [hK_0]; exact hF) hj hn hfit ?_
  have e : q_up (hK h F w m) (0, o) (eO ci (fs.set j v)) = hK h (F.set o.val (eO ci (fs.set j v))) w m := by
    rw [← hK_put0 h F (F.set o.val (eO ci (fs.set j v))) w m, ← q_up_put, q_put_self (hK_0 h F w m)]
  rw [e]; exact k
theorem e_putI0 {M : qM} {d pc : Nat} {L : List (Option qV)} {st : List qV} {n : Nat} {h : qB} {kc ks : Nat} {P : qP} {X : qX} {idx ci j : Nat} {ty : FieldType} {o : Fin 16} {fs : List qV} {v : qV} {F : List qE} {w : Fin 16 → qw} {m : Nat}
    (hi : M.1.name = "<init>") (hd0 : ∀ CC T N, vwCl[ci]? = some (CC, T, N) → (T j).1 = M.1.cls) (hf : q_FL M.1.cls idx ci j ty true) (dg : decode M.2.1 pc = .ok (.putfield idx, 3)) (hF : F[o.val]? = some (eO ci fs)) (hj : j < fs.length) (hn : ∀ G, narrow ty (q_v G v) = q_v G v) (hfit : ∀ G, fits ty (q_v G v) = true)
    (k : Ev M d (pc + 3) L st n (hK h (F.set o.val (eO ci (fs.set j v))) w m) kc ks P X) : Ev M d pc L (v :: qR 0 o :: st) n (hK h F w m) kc ks P X := by
  have a := e_putfieldI (h := hK h F w m) (b := 0) (F := F) (L := L) (st := st) (n := n) (kc := kc) (ks := ks) (P := P) (X := X) (d := d) (o := o) hi hd0 hf dg hF hj hn hfit (by rw [hK_put0]; exact k)
  rw [q_put_self (hK_0 h F w m)] at a
  exact a
theorem hK_push0 (h : qB) (o : List qE) (w : Fin 16 → qw) (m : Nat) (e : qE) : q_push (hK h o w m) 0 e = hK h (o ++ [e]) w m := by
  funext c
  by_cases hc : c = 0
  · subst hc; rfl
  · simp [q_push, hK, hc]
theorem hK_up0 (h : qB) (F : List qE) (w : Fin 16 → qw) (m : Nat) (o : Fin 16) (e : qE) : q_up (hK h F w m) (0, o) e = hK h (F.set o.val e) w m := by
  rw [← hK_put0 h F (F.set o.val e) w m, ← q_up_put, q_put_self (hK_0 h F w m)]
theorem hK_pushb {h : qB} {o : List qE} {w : Fin 16 → qw} {m : Nat} {b : Fin 16} (h2 : b.val = m + 1) (hb : h b = []) (e : qE) : q_push (hK h o w m) b e = q_put (hK h o w m) b [e] := by
  have h1 : b ≠ 0 := by intro q; subst q; simp at h2
  funext c
  by_cases hc : c = b
  · subst hc; rw [q_put_at]; show (if c = c then hK h o w m c ++ [e] else _) = _; rw [if_pos rfl, hK_out h1 (by omega), hb]; rfl
  · rw [q_put_ne _ _ hc]; simp [q_push, hc]
/-- a new world of the class's -/
theorem e_newW {M : qM} {d pc : Nat} {L : List (Option qV)} {st : List qV} {n : Nat} {h : qB} {kc ks : Nat} {P : qP} {X : qX} {F : List qE} {w : Fin 16 → qw} {m : Nat} (b : Fin 16) (hm : M.1.cls = RX2) (hh : M.2.2.2.2.1 = []) (h2 : b.val = m + 1) (hb : h b = []) (hn : n + 12 ≤ 124) (htb : ∀ o : Fin 16, o.val < 12 → q_tb (b, o) = n + o.val)
    (d0 : decode M.2.1 pc = .ok (.new 7, 3)) (d1 : decode M.2.1 (pc + 3) = .ok (.dup, 1)) (d2 : decode M.2.1 (pc + 4) = .ok (.invokespecial 9, 3)) (hd : 2 ≤ d) (hr : q_cats st ≤ 7) (hkc : 12 ≤ kc) (hks : 311 ≤ ks)
    (k : ∀ x, RelC x m_new → Ev M d (pc + 7) L (qR b 0 :: st) (n + 12) (hK h F (uw w b x) (m + 1)) (kc - 12) (ks - 311) P X) : Ev M d pc L st n (hK h F w m) kc ks P X := by
  have h1 : b ≠ 0 := by intro q; subst q; simp at h2
  refine e_new b 0 (by rw [hm]; exact cnX2_7) d0 fs_new1 (by omega) (by rw [htb 0 (by decide)]; rfl) (by rw [hK_out h1 (by omega), hb]; rfl) (by omega) (by omega) ?_
  rw [hK_pushb h2 hb]
  refine e_dup d1 rfl ?_
  refine e_callI (as := []) fX1_init (by rw [hm]; exact lkX2_9) (w_initWorld _ b n hn htb) rfl d2 (by omega) (by have e : q_cats (qR b 0 :: st) = 1 + q_cats st := (by simp only [q_cats, List.map_cons, List.sum_cons]; rfl); omega) (by omega) (by omega) (by rw [hh]; intro x hx; cases hx) (fun v n' h' q _ => by rw [q.2.1]; omega) (fun _ _ _ q => q.elim) ?_
  rintro v n' h' ⟨rfl, rfl, x, hx, rfl⟩
  rw [hK_next h2]
  have e1 : kc - 1 - 11 = kc - 12 := by omega
  have e2 : ks - 18 - 293 = ks - 311 := by omega
  rw [e1, e2]
  exact k x hx
