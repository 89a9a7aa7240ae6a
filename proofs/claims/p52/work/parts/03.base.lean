/-! THE PICTURE. A heap of the run is told by blocks: a key is (block, place), a cell is an array of ints, longs or keys, or an object; its address is a base and a number of the key. -/
abbrev qK : Type := Fin 16 × Fin 16
abbrev qV : Type := (Int32 ⊕ Int64) ⊕ ((UInt32 ⊕ UInt64) ⊕ (Option qK ⊕ Unit))
abbrev qI (x : Int32) : qV := .inl (.inl x)
abbrev qL (x : Int64) : qV := .inl (.inr x)
abbrev qF (x : UInt32) : qV := .inr (.inl (.inl x))
abbrev qD (x : UInt64) : qV := .inr (.inl (.inr x))
abbrev qR (b o : Fin 16) : qV := .inr (.inr (.inl (some (b, o))))
abbrev qN : qV := .inr (.inr (.inl none))
abbrev qS : qV := .inr (.inr (.inr ()))
abbrev qE : Type := ((Nat × (Nat → Int32)) ⊕ (Nat × (Nat → Int64))) ⊕ ((Nat × (Nat → Option qK)) ⊕ (Nat × List qV))
abbrev eI (n : Nat) (f : Nat → Int32) : qE := .inl (.inl (n, f))
abbrev eL (n : Nat) (f : Nat → Int64) : qE := .inl (.inr (n, f))
abbrev eQ (n : Nat) (f : Nat → Option qK) : qE := .inr (.inl (n, f))
abbrev eO (ci : Nat) (fs : List qV) : qE := .inr (.inr (ci, fs))
/-- the blocks, and how many cells there are (of 124, later cells are not told) -/
abbrev qB : Type := Fin 16 → List qE
abbrev qH : Type := Nat × qB
/-- class ids, slots; the arrays' class ids; the base; the script: where, how long, what -/
abbrev qG : Type := va_G × (ClassId × ClassId × ClassId) × (Nat × Nat × Nat × (Nat → Int32))
abbrev q_base (G : qG) : Nat := G.2.2.1
/-- the number of a key: the order in which the cells are made -/
def q_tb (k : qK) : Nat :=
  if k.1.val = 0 then (if k.2.val = 0 then 0 else if k.2.val ≤ 3 then 48 + k.2.val else 132 + k.2.val)
  else if k.1.val ≤ 4 then (if k.2.val < 12 then 1 + 12 * (k.1.val - 1) + k.2.val else 132 + 16 * k.1.val + k.2.val)
  else if k.1.val ≤ 10 then (if k.2.val < 12 then 52 + 12 * (k.1.val - 5) + k.2.val else 132 + 16 * k.1.val + k.2.val)
  else if k.1.val = 11 then (if k.2.val ≤ 6 then 124 + k.2.val else 132 + 16 * k.1.val + k.2.val)
  else if k.1.val = 12 then (if k.2.val = 0 then 131 else 132 + 16 * k.1.val + k.2.val)
  else 132 + 16 * k.1.val + k.2.val
theorem q_tb_inj {k k' : qK} (h : q_tb k = q_tb k') : k = k' := by
  obtain ⟨⟨a, ha⟩, ⟨b, hb⟩⟩ := k
  obtain ⟨⟨c, hc⟩, ⟨d, hd⟩⟩ := k'
  have e : a = c ∧ b = d := by
    simp only [q_tb] at h
    repeat' split at h
    all_goals omega
  obtain ⟨e1, e2⟩ := e
  subst e1; subst e2
  rfl
def q_ad (G : qG) (k : qK) : Nat := q_base G + q_tb k
theorem q_ad_inj {G : qG} {k k' : qK} (h : q_ad G k = q_ad G k') : k = k' := q_tb_inj (Nat.add_left_cancel h)
def q_v (G : qG) : qV → Value
  | .inl (.inl x) => .int x
  | .inl (.inr x) => .long x
  | .inr (.inl (.inl x)) => .float x
  | .inr (.inl (.inr x)) => .double x
  | .inr (.inr (.inl none)) => .null
  | .inr (.inr (.inl (some k))) => .ref (q_ad G k)
  | .inr (.inr (.inr ())) => .ref G.2.2.2.1
def q_e (G : qG) : qE → va_E
  | .inl (.inl (n, f)) => .inl (G.2.1.1, n, .inl f)
  | .inl (.inr (n, f)) => .inl (G.2.1.2.1, n, .inr (.inl f))
  | .inr (.inl (n, f)) => .inl (G.2.1.2.2, n, .inr (.inr (.inr (.inr (fun j => (f j).map (q_ad G))))))
  | .inr (.inr (ci, fs)) => .inr (ci, fs.map (q_v G))
def q_ks : List qK := (List.finRange 16).flatMap fun b => (List.finRange 16).map fun o => (b, o)
theorem q_ks_mem (k : qK) : k ∈ q_ks := by
  obtain ⟨b, o⟩ := k
  simp [q_ks, List.mem_flatMap]
theorem q_ks_nd : q_ks.Pairwise (fun a b => a ≠ b) := by decide +kernel
def q_ws (G : qG) (h : qB) : va_W := q_ks.filterMap fun k => ((h k.1)[k.2.val]?).map fun e => (q_ad G k, q_e G e)
theorem q_ws_of {G : qG} {h : qB} {k : qK} {e : qE} (he : (h k.1)[k.2.val]? = some e) : ∃ q0 : Nat, (q_ws G h)[q0]? = some (q_ad G k, q_e G e) := by
  have hm : (q_ad G k, q_e G e) ∈ q_ws G h := List.mem_filterMap.mpr ⟨k, q_ks_mem k, by rw [he]; rfl⟩
  exact List.mem_iff_getElem?.mp hm
theorem q_ws_to {G : qG} {h : qB} {i : Nat} {q : Nat × va_E} (hq : (q_ws G h)[i]? = some q) : ∃ (k : qK) (e : qE), (h k.1)[k.2.val]? = some e ∧ q = (q_ad G k, q_e G e) := by
  obtain ⟨k, -, hk⟩ := List.mem_filterMap.mp (List.mem_of_getElem? hq)
  cases he : (h k.1)[k.2.val]? with
  | none => rw [he] at hk; cases hk
  | some e => rw [he] at hk; exact ⟨k, e, he, (Option.some.inj hk).symm⟩
/-- the places that the run may write: all that came since the base -/
def q_A (G : qG) : Nat → Prop := fun q => q_base G ≤ q
theorem q_D (G : qG) (h : qB) : va_D (q_A G) (q_ws G h) := by
  constructor
  · intro i j p q hi hj hpq
    have hpw : (q_ws G h).Pairwise (fun a b => a.1 ≠ b.1) := by
      unfold q_ws
      rw [List.pairwise_filterMap]
      refine List.Pairwise.imp ?_ q_ks_nd
      intro a b hab x hx y hy hxy
      cases ha : (h a.1)[a.2.val]? with
      | none => rw [ha] at hx; cases hx
      | some ea =>
        cases hb : (h b.1)[b.2.val]? with
        | none => rw [hb] at hy; cases hy
        | some eb =>
          rw [ha] at hx; rw [hb] at hy
          cases hx; cases hy
          exact hab (q_ad_inj hxy)
    obtain ⟨hi1, hi2⟩ := List.getElem?_eq_some_iff.mp hi
    obtain ⟨hj1, hj2⟩ := List.getElem?_eq_some_iff.mp hj
    rw [List.pairwise_iff_getElem] at hpw
    rcases Nat.lt_trichotomy i j with c | c | c
    · exact absurd (by rw [hi2, hj2]; exact hpq) (hpw i j hi1 hj1 c)
    · exact c
    · exact absurd (by rw [hi2, hj2]; exact hpq.symm) (hpw j i hj1 hi1 c)
  · intro k q hq
    obtain ⟨k', e, -, rfl⟩ := q_ws_to hq
    exact Nat.le_add_right _ _
def q_P (G : qG) (h : qB) (H : Heap) : Prop := va_P G.1 vwCl (q_ws G h) H
def q_up (h : qB) (k : qK) (e : qE) : qB := fun j => if j = k.1 then (h j).set k.2.val e else h j
theorem q_P_set {G : qG} {h : qB} {k : qK} {e e' : qE} {q0 : Nat} {H1 : Heap} (he : (h k.1)[k.2.val]? = some e) (h0 : (q_ws G h)[q0]? = some (q_ad G k, q_e G e))
    (hP : va_P G.1 vwCl ((q_ws G h).set q0 (q_ad G k, q_e G e')) H1) : q_P G (q_up h k e') H1 := by
  intro i q hq
  obtain ⟨k', e'', h1, rfl⟩ := q_ws_to hq
  have hl0 : q0 < (q_ws G h).length := (List.getElem?_eq_some_iff.mp h0).1
  by_cases hk : k' = k
  · subst hk
    have e1 : (q_up h k' e') k'.1 = (h k'.1).set k'.2.val e' := if_pos rfl
    rw [e1, List.getElem?_set_self (List.getElem?_eq_some_iff.mp he).1] at h1
    cases h1
    exact hP q0 _ (List.getElem?_set_self hl0)
  · have h2 : (h k'.1)[k'.2.val]? = some e'' := by
      by_cases hb : k'.1 = k.1
      · have e1 : (q_up h k e') k'.1 = (h k'.1).set k.2.val e' := if_pos hb
        rw [e1, List.getElem?_set_ne] at h1
        · exact h1
        · intro hv
          exact hk (Prod.ext hb (Fin.ext hv.symm))
      · have e1 : (q_up h k e') k'.1 = h k'.1 := if_neg hb
        rw [e1] at h1
        exact h1
    obtain ⟨i', hi'⟩ := q_ws_of (G := G) h2
    have hne : q0 ≠ i' := by
      rintro rfl
      rw [h0] at hi'
      exact hk (q_ad_inj (Prod.mk.inj (Option.some.inj hi')).1).symm
    exact hP i' _ (by rw [List.getElem?_set_ne hne]; exact hi')
def q_push (h : qB) (b : Fin 16) (e : qE) : qB := fun j => if j = b then h j ++ [e] else h j
theorem q_P_push {G : qG} {h : qB} {b o : Fin 16} {e : qE} {H1 : Heap} (ho : (h b).length = o.val)
    (hP : va_P G.1 vwCl (q_ws G h ++ [(q_ad G (b, o), q_e G e)]) H1) : q_P G (q_push h b e) H1 := by
  intro i q hq
  obtain ⟨k', e'', h1, rfl⟩ := q_ws_to hq
  by_cases hk : k' = (b, o)
  · subst hk
    have e1 : (q_push h b e) b = h b ++ [e] := if_pos rfl
    have h1 : ((q_push h b e) b)[o.val]? = some e'' := h1
    rw [e1, ← ho, List.getElem?_concat_length] at h1
    cases h1
    exact hP (q_ws G h).length _ (List.getElem?_concat_length)
  · have h2 : (h k'.1)[k'.2.val]? = some e'' := by
      by_cases hb : k'.1 = b
      · have e1 : (q_push h b e) k'.1 = h k'.1 ++ [e] := if_pos hb
        rw [e1] at h1
        have hlt : k'.2.val < (h k'.1 ++ [e]).length := (List.getElem?_eq_some_iff.mp h1).1
        rw [List.length_append, hb, ho, List.length_singleton] at hlt
        have hne : k'.2.val ≠ o.val := fun hv => hk (Prod.ext hb (Fin.ext hv))
        rw [List.getElem?_append_left (by rw [hb, ho]; omega)] at h1
        exact h1
      · have e1 : (q_push h b e) k'.1 = h k'.1 := if_neg hb
        rw [e1] at h1
        exact h1
    obtain ⟨i', hi'⟩ := q_ws_of (G := G) h2
    exact hP i' _ (by rw [List.getElem?_append_left (List.getElem?_eq_some_iff.mp hi').1]; exact hi')
/-- how large the heap is: told to the cell as long as the first 124 are not made -/
def q_sz (G : qG) (n : Nat) (H : Heap) : Prop := if n < 124 then H.size = q_base G + n else q_base G + 124 ≤ H.size
theorem q_sz_le {G : qG} {n : Nat} {H : Heap} (h : q_sz G n H) : q_base G ≤ H.size := by
  unfold q_sz at h
  split at h <;> omega
theorem q_sz_eq {G : qG} {n : Nat} {H H1 : Heap} (h : q_sz G n H) (e : H1.size = H.size) : q_sz G n H1 := by
  unfold q_sz at h ⊢
  rw [e]
  exact h
/-- the locals: what is told of them -/
def q_pr (G : qG) : Nat → List (Option qV) → List (Nat × Value)
  | _, [] => []
  | i, none :: t => q_pr G (i + 1) t
  | i, some v :: t => (i, q_v G v) :: q_pr G (i + 1) t
theorem q_pr_mem {G : qG} : ∀ (L : List (Option qV)) (i : Nat) (q : Nat × Value), q ∈ q_pr G i L ↔ ∃ (k : Nat) (x : qV), L[k]? = some (some x) ∧ q = (i + k, q_v G x)
  | [], i, q => by simp [q_pr]
  | none :: t, i, q => by
    rw [q_pr, q_pr_mem t (i + 1) q]
    constructor
    · rintro ⟨k, x, h1, rfl⟩
      exact ⟨k + 1, x, by simpa using h1, by congr 1; omega⟩
    · rintro ⟨k, x, h1, rfl⟩
      cases k with
      | zero => simp at h1
      | succ k => exact ⟨k, x, by simpa using h1, by congr 1; omega⟩
  | some v :: t, i, q => by
    rw [q_pr, List.mem_cons, q_pr_mem t (i + 1) q]
    constructor
    · rintro (rfl | ⟨k, x, h1, rfl⟩)
      · exact ⟨0, v, by simp, by simp⟩
      · exact ⟨k + 1, x, by simpa using h1, by congr 1; omega⟩
    · rintro ⟨k, x, h1, rfl⟩
      cases k with
      | zero =>
        left
        simp at h1
        subst h1
        simp
      | succ k => exact Or.inr ⟨k, x, by simpa using h1, by congr 1; omega⟩
def q_lo (G : qG) (nL : Nat) (L : List (Option qV)) (ls : Array Slot) : Prop := lv_has ls nL (q_pr G 0 L)
theorem q_lo_at {G : qG} {nL : Nat} {L : List (Option qV)} {ls : Array Slot} (h : q_lo G nL L ls) {i : Nat} {x : qV} (hx : L[i]? = some (some x)) : ls[i]? = some (.val (q_v G x)) :=
  h.2.2 (i, q_v G x) ((q_pr_mem L 0 _).mpr ⟨i, x, hx, by simp⟩)
theorem lv_fewer {ls : Array Slot} {nL : Nat} {l l' : List (Nat × Value)} (h : lv_has ls nL l) (hs : ∀ q ∈ l', q ∈ l) : lv_has ls nL l' := ⟨h.1, h.2.1, fun q hq => h.2.2 q (hs q hq)⟩
/-- less is told of the locals -/
def q_le (L L' : List (Option qV)) : Prop := ∀ (k : Nat) (x : qV), L'[k]? = some (some x) → L[k]? = some (some x)
theorem q_lo_le {G : qG} {nL : Nat} {L L' : List (Option qV)} {ls : Array Slot} (h : q_lo G nL L ls) (hl : q_le L L') : q_lo G nL L' ls :=
  lv_fewer h fun q hq => by
    obtain ⟨k, x, h1, rfl⟩ := (q_pr_mem L' 0 q).mp hq
    exact (q_pr_mem L 0 _).mpr ⟨k, x, hl k x h1, rfl⟩
def q_wide : qV → Bool
  | .inl (.inr _) => true
  | .inr (.inl (.inr _)) => true
  | _ => false
theorem q_cat (G : qG) (v : qV) : (q_v G v).category = if q_wide v then 2 else 1 := by
  rcases v with (v | v) | ((v | v) | ((_ | v) | v)) <;> rfl
/-- no wide value stands right ahead of the place -/
def q_nw (L : List (Option qV)) (i : Nat) : Bool := match i with
  | 0 => true
  | i + 1 => match L[i]? with
    | some (some v) => !q_wide v
    | _ => true
theorem q_lo_set1 {G : qG} {nL : Nat} {L : List (Option qV)} {ls' : Array Slot} {i : Nat} {v : qV} (hw : q_nw L i = true)
    (h : lv_has ls' nL ((i, q_v G v) :: (q_pr G 0 L).filter (fun q => !(q.1 == i) && !(q.1 + 1 == i && q.2.category == 2)))) : q_lo G nL (L.set i (some v)) ls' := by
  refine lv_fewer h fun q hq => ?_
  obtain ⟨k, x, h1, rfl⟩ := (q_pr_mem _ 0 q).mp hq
  rw [Nat.zero_add]
  by_cases hk : k = i
  · subst hk
    have hlt : k < L.length := by
      have := (List.getElem?_eq_some_iff.mp h1).1
      rwa [List.length_set] at this
    rw [List.getElem?_set_self hlt] at h1
    cases h1
    exact List.mem_cons_self
  · rw [List.getElem?_set_ne (Ne.symm hk)] at h1
    refine List.mem_cons_of_mem _ (List.mem_filter.mpr ⟨(q_pr_mem L 0 _).mpr ⟨k, x, h1, by simp⟩, ?_⟩)
    have h2 : (k + 1 == i && (q_v G x).category == 2) = false := by
      by_cases h3 : k + 1 = i
      · subst h3
        simp only [q_nw, h1] at hw
        rw [q_cat]
        cases hx : q_wide x <;> simp [hx] at hw ⊢
      · simp [h3]
    simp [hk, h2]
theorem q_lo_set2 {G : qG} {nL : Nat} {L : List (Option qV)} {ls' : Array Slot} {i : Nat} {v : qV} (hw : q_nw L i = true)
    (h : lv_has ls' nL ((i, q_v G v) :: (q_pr G 0 L).filter (fun q => !(q.1 == i) && (!(q.1 == i + 1) && !(q.1 + 1 == i && q.2.category == 2))))) : q_lo G nL ((L.set i (some v)).set (i + 1) none) ls' := by
  refine lv_fewer h fun q hq => ?_
  obtain ⟨k, x, h1, rfl⟩ := (q_pr_mem _ 0 q).mp hq
  rw [Nat.zero_add]
  by_cases hk1 : k = i + 1
  · subst hk1
    have hlt : i + 1 < ((L.set i (some v)).set (i + 1) none).length := (List.getElem?_eq_some_iff.mp h1).1
    rw [List.length_set] at hlt
    rw [List.getElem?_set_self hlt] at h1
    cases h1
  · rw [List.getElem?_set_ne (Ne.symm hk1)] at h1
    by_cases hk : k = i
    · subst hk
      have hlt : k < L.length := by
        have := (List.getElem?_eq_some_iff.mp h1).1
        rwa [List.length_set] at this
      rw [List.getElem?_set_self hlt] at h1
      cases h1
      exact List.mem_cons_self
    · rw [List.getElem?_set_ne (Ne.symm hk)] at h1
      refine List.mem_cons_of_mem _ (List.mem_filter.mpr ⟨(q_pr_mem L 0 _).mpr ⟨k, x, h1, by simp⟩, ?_⟩)
      have h2 : (k + 1 == i && (q_v G x).category == 2) = false := by
        by_cases h3 : k + 1 = i
        · subst h3
          simp only [q_nw, h1] at hw
          rw [q_cat]
          cases hx : q_wide x <;> simp [hx] at hw ⊢
        · simp [h3]
      simp [hk, hk1, h2]
/-- a value dropped from the locals -/
theorem q_lo_none {G : qG} {nL : Nat} {L : List (Option qV)} {ls' : Array Slot} {i : Nat} {z : Value} (hw : q_nw L i = true)
    (h : lv_has ls' nL ((i, z) :: (q_pr G 0 L).filter (fun q => !(q.1 == i) && !(q.1 + 1 == i && q.2.category == 2)))) : q_lo G nL (L.set i none) ls' := by
  refine lv_fewer h fun q hq => ?_
  obtain ⟨k, x, h1, rfl⟩ := (q_pr_mem _ 0 q).mp hq
  rw [Nat.zero_add]
  by_cases hk : k = i
  · subst hk
    have hlt : k < (L.set k none).length := (List.getElem?_eq_some_iff.mp h1).1
    rw [List.length_set] at hlt
    rw [List.getElem?_set_self hlt] at h1
    cases h1
  · rw [List.getElem?_set_ne (Ne.symm hk)] at h1
    refine List.mem_cons_of_mem _ (List.mem_filter.mpr ⟨(q_pr_mem L 0 _).mpr ⟨k, x, h1, by simp⟩, ?_⟩)
    have h2 : (k + 1 == i && (q_v G x).category == 2) = false := by
      by_cases h3 : k + 1 = i
      · subst h3
        simp only [q_nw, h1] at hw
        rw [q_cat]
        cases hx : q_wide x <;> simp [hx] at hw ⊢
      · simp [h3]
    simp [hk, h2]
