-- ROWS OF J: an instruction a row
section JR
variable {G : GX} {X : XC} {own : String} {cc : ByteArray} {d pc : Nat} {lv : List (Option Value)} {st : List Value} {μ : Mem}
theorem nLen_le (k : Nat) : nLen k ≤ 96 := by
  unfold nLen
  (repeat' split) <;> omega
theorem isA.lt {a n : Nat} (h : isA a n) : n ≤ 96 := by rw [← h.2.2]; exact nLen_le a
theorem J.to {pc' : Nat} {lv' : List (Option Value)} {st' : List Value} {μ' : Mem} (k : J G X pc' lv' st' μ') (h1 : pc' = pc := by rfl) (h2 : lv' = lv := by rfl) (h3 : st' = st := by rfl) (h4 : μ' = μ := by rfl) : J G X pc lv st μ := by
  subst h1; subst h2; subst h3; subst h4; exact k
theorem J.mem {μ' : Mem} (h : μ = μ') (k : J G X pc lv st μ') : J G X pc lv st μ := h ▸ k
theorem J.top {x y : Int32} (h : x = y) (k : J G X pc lv (.int y :: st) μ) : J G X pc lv (.int x :: st) μ := h ▸ k
theorem J.topL {x y : Int64} (h : x = y) (k : J G X pc lv (.long y :: st) μ) : J G X pc lv (.long x :: st) μ := h ▸ k
theorem j_iconst {n : Int} {v : Int32} (C : Cx G X own cc d) (hd : decode cc pc = .ok (.iconst n, 1)) (hv : Int32.ofInt n = v) (k : J G X (pc + 1) lv (.int v :: st) μ) : J G X pc lv st μ := by
  obtain ⟨p, e, R, s, m, args, below, meth, c, nL, A0, ce, sl, Q⟩ := X
  obtain ⟨hx, hb, hml, hown, hts, hK, hSd, hI, hA0, hdf, hdl, hce, hsl⟩ := C
  intro H locs ls hP hS hl
  exact lv_iconst hx hb hd hv (k H locs ls hP hS hl)
theorem j_bipush {n : Int} {v : Int32} (C : Cx G X own cc d) (hd : decode cc pc = .ok (.bipush n, 2)) (hv : (Int8.ofInt n).toInt32 = v) (k : J G X (pc + 2) lv (.int v :: st) μ) : J G X pc lv st μ := by
  obtain ⟨p, e, R, s, m, args, below, meth, c, nL, A0, ce, sl, Q⟩ := X
  obtain ⟨hx, hb, hml, hown, hts, hK, hSd, hI, hA0, hdf, hdl, hce, hsl⟩ := C
  intro H locs ls hP hS hl
  exact lv_bipush hx hb hd hv (k H locs ls hP hS hl)
theorem j_sipush {n : Int} {v : Int32} (C : Cx G X own cc d) (hd : decode cc pc = .ok (.sipush n, 3)) (hv : (Int16.ofInt n).toInt32 = v) (k : J G X (pc + 3) lv (.int v :: st) μ) : J G X pc lv st μ := by
  obtain ⟨p, e, R, s, m, args, below, meth, c, nL, A0, ce, sl, Q⟩ := X
  obtain ⟨hx, hb, hml, hown, hts, hK, hSd, hI, hA0, hdf, hdl, hce, hsl⟩ := C
  intro H locs ls hP hS hl
  exact lv_sipush hx hb hd hv (k H locs ls hP hS hl)
theorem j_lconst {n : Fin 2} {v : Int64} (C : Cx G X own cc d) (hd : decode cc pc = .ok (.lconst n, 1)) (hv : Int64.ofNat (n : Nat) = v) (k : J G X (pc + 1) lv (.long v :: st) μ) : J G X pc lv st μ := by
  obtain ⟨p, e, R, s, m, args, below, meth, c, nL, A0, ce, sl, Q⟩ := X
  obtain ⟨hx, hb, hml, hown, hts, hK, hSd, hI, hA0, hdf, hdl, hce, hsl⟩ := C
  intro H locs ls hP hS hl
  exact lv_lconst hx hb hd hv (k H locs ls hP hS hl)
theorem j_iload {i : Nat} {x : Int32} (C : Cx G X own cc d) (hd : decode cc pc = .ok (.iload i, 2)) (hv : lv[i]? = some (some (.int x))) (k : J G X (pc + 2) lv (.int x :: st) μ) : J G X pc lv st μ := by
  obtain ⟨p, e, R, s, m, args, below, meth, c, nL, A0, ce, sl, Q⟩ := X
  obtain ⟨hx, hb, hml, hown, hts, hK, hSd, hI, hA0, hdf, hdl, hce, hsl⟩ := C
  intro H locs ls hP hS hl
  exact lv_iload hx hb hd (hl.2.2.2 _ _ hv) (k H locs ls hP hS hl)
theorem j_iload_n {i : Fin 4} {x : Int32} (C : Cx G X own cc d) (hd : decode cc pc = .ok (.iload_n i, 1)) (hv : lv[(i : Nat)]? = some (some (.int x))) (k : J G X (pc + 1) lv (.int x :: st) μ) : J G X pc lv st μ := by
  obtain ⟨p, e, R, s, m, args, below, meth, c, nL, A0, ce, sl, Q⟩ := X
  obtain ⟨hx, hb, hml, hown, hts, hK, hSd, hI, hA0, hdf, hdl, hce, hsl⟩ := C
  intro H locs ls hP hS hl
  exact lv_iload_n hx hb hd rfl (hl.2.2.2 _ _ hv) (k H locs ls hP hS hl)
theorem j_lload {i : Nat} {x : Int64} (C : Cx G X own cc d) (hd : decode cc pc = .ok (.lload i, 2)) (hv : lv[i]? = some (some (.long x))) (k : J G X (pc + 2) lv (.long x :: st) μ) : J G X pc lv st μ := by
  obtain ⟨p, e, R, s, m, args, below, meth, c, nL, A0, ce, sl, Q⟩ := X
  obtain ⟨hx, hb, hml, hown, hts, hK, hSd, hI, hA0, hdf, hdl, hce, hsl⟩ := C
  intro H locs ls hP hS hl
  exact lv_lload hx hb hd (hl.2.2.2 _ _ hv) (k H locs ls hP hS hl)
theorem j_lload_n {i : Fin 4} {x : Int64} (C : Cx G X own cc d) (hd : decode cc pc = .ok (.lload_n i, 1)) (hv : lv[(i : Nat)]? = some (some (.long x))) (k : J G X (pc + 1) lv (.long x :: st) μ) : J G X pc lv st μ := by
  obtain ⟨p, e, R, s, m, args, below, meth, c, nL, A0, ce, sl, Q⟩ := X
  obtain ⟨hx, hb, hml, hown, hts, hK, hSd, hI, hA0, hdf, hdl, hce, hsl⟩ := C
  intro H locs ls hP hS hl
  exact lv_lload_n hx hb hd rfl (hl.2.2.2 _ _ hv) (k H locs ls hP hS hl)
theorem j_aload {i : Nat} {x : Nat} (C : Cx G X own cc d) (hd : decode cc pc = .ok (.aload i, 2)) (hv : lv[i]? = some (some (.ref x))) (k : J G X (pc + 2) lv (.ref x :: st) μ) : J G X pc lv st μ := by
  obtain ⟨p, e, R, s, m, args, below, meth, c, nL, A0, ce, sl, Q⟩ := X
  obtain ⟨hx, hb, hml, hown, hts, hK, hSd, hI, hA0, hdf, hdl, hce, hsl⟩ := C
  intro H locs ls hP hS hl
  exact lv_aload hx hb hd (hl.2.2.2 _ _ hv) (k H locs ls hP hS hl)
theorem j_aload_n {i : Fin 4} {x : Nat} (C : Cx G X own cc d) (hd : decode cc pc = .ok (.aload_n i, 1)) (hv : lv[(i : Nat)]? = some (some (.ref x))) (k : J G X (pc + 1) lv (.ref x :: st) μ) : J G X pc lv st μ := by
  obtain ⟨p, e, R, s, m, args, below, meth, c, nL, A0, ce, sl, Q⟩ := X
  obtain ⟨hx, hb, hml, hown, hts, hK, hSd, hI, hA0, hdf, hdl, hce, hsl⟩ := C
  intro H locs ls hP hS hl
  exact lv_aload_n hx hb hd rfl (hl.2.2.2 _ _ hv) (k H locs ls hP hS hl)
def asL (lv : List (Option Value)) : List (Nat × Value) := (List.range lv.length).filterMap (fun i => match lv[i]? with | some (some v) => some (i, v) | _ => none)
theorem asL_mem {lv : List (Option Value)} {i : Nat} {v : Value} : (i, v) ∈ asL lv ↔ lv[i]? = some (some v) := by
  simp only [asL, List.mem_filterMap, List.mem_range]
  constructor
  · rintro ⟨j, hj, h⟩
    cases e : lv[j]? with
    | none => simp [e] at h
    | some o =>
      cases o with
      | none => simp [e] at h
      | some w =>
        simp only [e, Option.some.injEq, Prod.mk.injEq] at h
        obtain ⟨rfl, rfl⟩ := h
        exact e
  · intro h
    exact ⟨i, (List.getElem?_eq_some_iff.mp h).1, by simp [h]⟩
theorem lvOK.has {ls : Array Slot} {nL : Nat} {lv : List (Option Value)} (h : lvOK ls nL lv) : lv_has ls nL (asL lv) := ⟨h.1, h.2.2.1, fun q hq => h.2.2.2 q.1 q.2 (asL_mem.mp hq)⟩
theorem lvOK.store {ls' : Array Slot} {nL i : Nat} {lv : List (Option Value)} {v : Value} {P : Nat × Value → Bool} (hlen : lv.length = nL) (h : lv_has ls' nL ((i, v) :: (asL lv).filter P)) (hP : ∀ (j : Nat) (w : Value), lv[j]? = some (some w) → j ≠ i → P (j, w) = true) (hi : i < nL) : lvOK ls' nL (lv.set i (some v)) := by
  refine ⟨h.1, by simp [hlen], h.2.1, fun j w hj => ?_⟩
  by_cases hji : j = i
  · subst hji
    rw [List.getElem?_set_self (by omega)] at hj
    cases hj
    exact h.2.2 (j, v) List.mem_cons_self
  · rw [List.getElem?_set_ne (Ne.symm hji)] at hj
    exact h.2.2 (j, w) (List.mem_cons_of_mem _ (List.mem_filter.mpr ⟨asL_mem.mpr hj, hP j w hj hji⟩))
/-- no long stands ahead of place i -/
def noL (lv : List (Option Value)) (i : Nat) : Bool := match i with
  | 0 => true
  | k + 1 => match lv[k]? with
    | some (some (.long _)) => false
    | some (some (.double _)) => false
    | _ => true
theorem noL_ok {lv : List (Option Value)} {i : Nat} (h : noL lv i = true) : ∀ (j : Nat) (w : Value), lv[j]? = some (some w) → j ≠ i → (!(j == i) && !(j + 1 == i && w.category == 2)) = true := by
  intro j w hj hji
  by_cases h1 : j + 1 = i
  · subst h1
    simp only [noL, hj] at h
    cases w <;> simp_all [Value.category]
  · simp [hji, h1]
theorem j_istoreG {i : Nat} {x : Int32} (C : Cx G X own cc d) (hd : decode cc pc = .ok (.istore i, 2)) (hi : i < lv.length) (hn : noL lv i = true) (k : J G X (pc + 2) (lv.set i (some (.int x))) st μ) : J G X pc lv (.int x :: st) μ := by
  obtain ⟨p, e, R, s, m, args, below, meth, c, nL, A0, ce, sl, Q⟩ := X
  obtain ⟨hx, hb, hml, hown, hts, hK, hSd, hI, hA0, hdf, hdl, hce, hsl⟩ := C
  intro H locs ls hP hS hl
  exact lv_istore hx hb hd hl.has (by rw [← hl.2.1]; exact hi) rfl (fun ls2 hl2 => k H locs ls2 hP hS (lvOK.store hl.2.1 hl2 (noL_ok hn) (by rw [← hl.2.1]; exact hi)))
theorem j_istoreGn {i : Fin 4} {x : Int32} (C : Cx G X own cc d) (hd : decode cc pc = .ok (.istore_n i, 1)) (hi : (i : Nat) < lv.length) (hn : noL lv i = true) (k : J G X (pc + 1) (lv.set i (some (.int x))) st μ) : J G X pc lv (.int x :: st) μ := by
  obtain ⟨p, e, R, s, m, args, below, meth, c, nL, A0, ce, sl, Q⟩ := X
  obtain ⟨hx, hb, hml, hown, hts, hK, hSd, hI, hA0, hdf, hdl, hce, hsl⟩ := C
  intro H locs ls hP hS hl
  exact lv_istore_n hx hb hd rfl hl.has (by rw [← hl.2.1]; exact hi) rfl (fun ls2 hl2 => k H locs ls2 hP hS (lvOK.store hl.2.1 hl2 (noL_ok hn) (by rw [← hl.2.1]; exact hi)))
theorem j_iincG {i : Nat} {n : Int} {x v : Int32} (C : Cx G X own cc d) (hd : decode cc pc = .ok (.iinc i n, 3)) (hv : lv[i]? = some (some (.int x))) (hs : x + Int32.ofInt n = v) (hn : noL lv i = true) (k : J G X (pc + 3) (lv.set i (some (.int v))) st μ) : J G X pc lv st μ := by
  obtain ⟨p, e, R, s, m, args, below, meth, c, nL, A0, ce, sl, Q⟩ := X
  obtain ⟨hx, hb, hml, hown, hts, hK, hSd, hI, hA0, hdf, hdl, hce, hsl⟩ := C
  intro H locs ls hP hS hl
  have hi : i < lv.length := (List.getElem?_eq_some_iff.mp hv).1
  obtain ⟨q, hq⟩ := List.getElem?_of_mem (asL_mem.mpr hv)
  exact lv_iinc hx hb hd hl.has hq hs (by rw [← hl.2.1]; exact hi) rfl (fun ls2 hl2 => k H locs ls2 hP hS (lvOK.store hl.2.1 hl2 (noL_ok hn) (by rw [← hl.2.1]; exact hi)))
/-- a long takes its place and the next, of which nothing is known then -/
theorem lvOK.store2 {ls' : Array Slot} {nL i : Nat} {lv : List (Option Value)} {v : Value} {P : Nat × Value → Bool} (hlen : lv.length = nL) (h : lv_has ls' nL ((i, v) :: (asL lv).filter P)) (hP : ∀ (j : Nat) (w : Value), lv[j]? = some (some w) → j ≠ i → j ≠ i + 1 → P (j, w) = true) (hi : i + 1 < nL) : lvOK ls' nL ((lv.set i (some v)).set (i + 1) none) := by
  refine ⟨h.1, by simp [hlen], h.2.1, fun j w hj => ?_⟩
  by_cases hj1 : j = i + 1
  · subst hj1
    rw [List.getElem?_set_self (by simp; omega)] at hj
    cases hj
  · rw [List.getElem?_set_ne (Ne.symm hj1)] at hj
    by_cases hji : j = i
    · subst hji
      rw [List.getElem?_set_self (by omega)] at hj
      cases hj
      exact h.2.2 (j, v) List.mem_cons_self
    · rw [List.getElem?_set_ne (Ne.symm hji)] at hj
      exact h.2.2 (j, w) (List.mem_cons_of_mem _ (List.mem_filter.mpr ⟨asL_mem.mpr hj, hP j w hj hji hj1⟩))
theorem noL_ok2 {lv : List (Option Value)} {i : Nat} (h : noL lv i = true) : ∀ (j : Nat) (w : Value), lv[j]? = some (some w) → j ≠ i → j ≠ i + 1 → (!(j == i) && (!(j == i + 1) && !(j + 1 == i && w.category == 2))) = true := by
  intro j w hj hji hj1
  have := noL_ok h j w hj hji
  simp only [Bool.and_eq_true] at this ⊢
  exact ⟨this.1, by simp [hj1], this.2⟩
theorem j_lstoreG {i : Nat} {x : Int64} (C : Cx G X own cc d) (hd : decode cc pc = .ok (.lstore i, 2)) (hi : i + 1 < lv.length) (hn : noL lv i = true) (k : J G X (pc + 2) ((lv.set i (some (.long x))).set (i + 1) none) st μ) : J G X pc lv (.long x :: st) μ := by
  obtain ⟨p, e, R, s, m, args, below, meth, c, nL, A0, ce, sl, Q⟩ := X
  obtain ⟨hx, hb, hml, hown, hts, hK, hSd, hI, hA0, hdf, hdl, hce, hsl⟩ := C
  intro H locs ls hP hS hl
  exact lv_lstore hx hb hd hl.has (by rw [← hl.2.1]; exact hi) rfl (fun ls2 hl2 => k H locs ls2 hP hS (lvOK.store2 hl.2.1 hl2 (noL_ok2 hn) (by rw [← hl.2.1]; exact hi)))
theorem j_lstoreGn {i : Fin 4} {x : Int64} (C : Cx G X own cc d) (hd : decode cc pc = .ok (.lstore_n i, 1)) (hi : (i : Nat) + 1 < lv.length) (hn : noL lv i = true) (k : J G X (pc + 1) ((lv.set i (some (.long x))).set ((i : Nat) + 1) none) st μ) : J G X pc lv (.long x :: st) μ := by
  obtain ⟨p, e, R, s, m, args, below, meth, c, nL, A0, ce, sl, Q⟩ := X
  obtain ⟨hx, hb, hml, hown, hts, hK, hSd, hI, hA0, hdf, hdl, hce, hsl⟩ := C
  intro H locs ls hP hS hl
  exact lv_lstore_n hx hb hd rfl hl.has (by rw [← hl.2.1]; exact hi) rfl (fun ls2 hl2 => k H locs ls2 hP hS (lvOK.store2 hl.2.1 hl2 (noL_ok2 hn) (by rw [← hl.2.1]; exact hi)))
theorem j_iadd {x y : Int32} (C : Cx G X own cc d) (hd : decode cc pc = .ok (.iadd, 1)) (k : J G X (pc + 1) lv (.int (x + y) :: st) μ) : J G X pc lv (.int y :: .int x :: st) μ := by
  obtain ⟨p, e, R, s, m, args, below, meth, c, nL, A0, ce, sl, Q⟩ := X
  obtain ⟨hx, hb, hml, hown, hts, hK, hSd, hI, hA0, hdf, hdl, hce, hsl⟩ := C
  intro H locs ls hP hS hl
  exact lv_iadd hx hb hd (k H locs ls hP hS hl)
theorem j_isub {x y : Int32} (C : Cx G X own cc d) (hd : decode cc pc = .ok (.isub, 1)) (k : J G X (pc + 1) lv (.int (x - y) :: st) μ) : J G X pc lv (.int y :: .int x :: st) μ := by
  obtain ⟨p, e, R, s, m, args, below, meth, c, nL, A0, ce, sl, Q⟩ := X
  obtain ⟨hx, hb, hml, hown, hts, hK, hSd, hI, hA0, hdf, hdl, hce, hsl⟩ := C
  intro H locs ls hP hS hl
  exact lv_isub hx hb hd (k H locs ls hP hS hl)
theorem j_imul {x y : Int32} (C : Cx G X own cc d) (hd : decode cc pc = .ok (.imul, 1)) (k : J G X (pc + 1) lv (.int (x * y) :: st) μ) : J G X pc lv (.int y :: .int x :: st) μ := by
  obtain ⟨p, e, R, s, m, args, below, meth, c, nL, A0, ce, sl, Q⟩ := X
  obtain ⟨hx, hb, hml, hown, hts, hK, hSd, hI, hA0, hdf, hdl, hce, hsl⟩ := C
  intro H locs ls hP hS hl
  exact lv_imul hx hb hd (k H locs ls hP hS hl)
theorem j_iand {x y : Int32} (C : Cx G X own cc d) (hd : decode cc pc = .ok (.iand, 1)) (k : J G X (pc + 1) lv (.int (x &&& y) :: st) μ) : J G X pc lv (.int y :: .int x :: st) μ := by
  obtain ⟨p, e, R, s, m, args, below, meth, c, nL, A0, ce, sl, Q⟩ := X
  obtain ⟨hx, hb, hml, hown, hts, hK, hSd, hI, hA0, hdf, hdl, hce, hsl⟩ := C
  intro H locs ls hP hS hl
  exact lv_iand hx hb hd (k H locs ls hP hS hl)
theorem j_ior {x y : Int32} (C : Cx G X own cc d) (hd : decode cc pc = .ok (.ior, 1)) (k : J G X (pc + 1) lv (.int (x ||| y) :: st) μ) : J G X pc lv (.int y :: .int x :: st) μ := by
  obtain ⟨p, e, R, s, m, args, below, meth, c, nL, A0, ce, sl, Q⟩ := X
  obtain ⟨hx, hb, hml, hown, hts, hK, hSd, hI, hA0, hdf, hdl, hce, hsl⟩ := C
  intro H locs ls hP hS hl
  exact lv_ior hx hb hd (k H locs ls hP hS hl)
theorem j_ishl {x y : Int32} (C : Cx G X own cc d) (hd : decode cc pc = .ok (.ishl, 1)) (k : J G X (pc + 1) lv (.int (x <<< (y &&& 31)) :: st) μ) : J G X pc lv (.int y :: .int x :: st) μ := by
  obtain ⟨p, e, R, s, m, args, below, meth, c, nL, A0, ce, sl, Q⟩ := X
  obtain ⟨hx, hb, hml, hown, hts, hK, hSd, hI, hA0, hdf, hdl, hce, hsl⟩ := C
  intro H locs ls hP hS hl
  exact lv_ishl hx hb hd (k H locs ls hP hS hl)
theorem j_ishr {x y : Int32} (C : Cx G X own cc d) (hd : decode cc pc = .ok (.ishr, 1)) (k : J G X (pc + 1) lv (.int (x >>> (y &&& 31)) :: st) μ) : J G X pc lv (.int y :: .int x :: st) μ := by
  obtain ⟨p, e, R, s, m, args, below, meth, c, nL, A0, ce, sl, Q⟩ := X
  obtain ⟨hx, hb, hml, hown, hts, hK, hSd, hI, hA0, hdf, hdl, hce, hsl⟩ := C
  intro H locs ls hP hS hl
  exact lv_ishr hx hb hd (k H locs ls hP hS hl)
theorem j_idiv {x y : Int32} (C : Cx G X own cc d) (hd : decode cc pc = .ok (.idiv, 1)) (hne : ¬ y = 0) (k : J G X (pc + 1) lv (.int (x / y) :: st) μ) : J G X pc lv (.int y :: .int x :: st) μ := by
  obtain ⟨p, e, R, s, m, args, below, meth, c, nL, A0, ce, sl, Q⟩ := X
  obtain ⟨hx, hb, hml, hown, hts, hK, hSd, hI, hA0, hdf, hdl, hce, hsl⟩ := C
  intro H locs ls hP hS hl
  exact lv_idiv hx hb hd hne (k H locs ls hP hS hl)
theorem j_irem {x y : Int32} (C : Cx G X own cc d) (hd : decode cc pc = .ok (.irem, 1)) (hne : ¬ y = 0) (k : J G X (pc + 1) lv (.int (x - x / y * y) :: st) μ) : J G X pc lv (.int y :: .int x :: st) μ := by
  obtain ⟨p, e, R, s, m, args, below, meth, c, nL, A0, ce, sl, Q⟩ := X
  obtain ⟨hx, hb, hml, hown, hts, hK, hSd, hI, hA0, hdf, hdl, hce, hsl⟩ := C
  intro H locs ls hP hS hl
  exact lv_irem hx hb hd hne (k H locs ls hP hS hl)
theorem j_ineg {x : Int32} (C : Cx G X own cc d) (hd : decode cc pc = .ok (.ineg, 1)) (k : J G X (pc + 1) lv (.int (-x) :: st) μ) : J G X pc lv (.int x :: st) μ := by
  obtain ⟨p, e, R, s, m, args, below, meth, c, nL, A0, ce, sl, Q⟩ := X
  obtain ⟨hx, hb, hml, hown, hts, hK, hSd, hI, hA0, hdf, hdl, hce, hsl⟩ := C
  intro H locs ls hP hS hl
  exact lv_ineg hx hb hd (k H locs ls hP hS hl)
theorem j_i2l {x : Int32} (C : Cx G X own cc d) (hd : decode cc pc = .ok (.i2l, 1)) (k : J G X (pc + 1) lv (.long x.toInt64 :: st) μ) : J G X pc lv (.int x :: st) μ := by
  obtain ⟨p, e, R, s, m, args, below, meth, c, nL, A0, ce, sl, Q⟩ := X
  obtain ⟨hx, hb, hml, hown, hts, hK, hSd, hI, hA0, hdf, hdl, hce, hsl⟩ := C
  intro H locs ls hP hS hl
  exact lv_i2l hx hb hd rfl (k H locs ls hP hS hl)
theorem j_i2b {x : Int32} (C : Cx G X own cc d) (hd : decode cc pc = .ok (.i2b, 1)) (k : J G X (pc + 1) lv (.int x.toInt8.toInt32 :: st) μ) : J G X pc lv (.int x :: st) μ := by
  obtain ⟨p, e, R, s, m, args, below, meth, c, nL, A0, ce, sl, Q⟩ := X
  obtain ⟨hx, hb, hml, hown, hts, hK, hSd, hI, hA0, hdf, hdl, hce, hsl⟩ := C
  intro H locs ls hP hS hl
  exact lv_i2b hx hb hd rfl (k H locs ls hP hS hl)
theorem j_lsub {x y : Int64} (C : Cx G X own cc d) (hd : decode cc pc = .ok (.lsub, 1)) (k : J G X (pc + 1) lv (.long (x - y) :: st) μ) : J G X pc lv (.long y :: .long x :: st) μ := by
  obtain ⟨p, e, R, s, m, args, below, meth, c, nL, A0, ce, sl, Q⟩ := X
  obtain ⟨hx, hb, hml, hown, hts, hK, hSd, hI, hA0, hdf, hdl, hce, hsl⟩ := C
  intro H locs ls hP hS hl
  exact lv_lsub hx hb hd (k H locs ls hP hS hl)
theorem j_ldiv {x y : Int64} (C : Cx G X own cc d) (hd : decode cc pc = .ok (.ldiv, 1)) (hne : ¬ y = 0) (k : J G X (pc + 1) lv (.long (x / y) :: st) μ) : J G X pc lv (.long y :: .long x :: st) μ := by
  obtain ⟨p, e, R, s, m, args, below, meth, c, nL, A0, ce, sl, Q⟩ := X
  obtain ⟨hx, hb, hml, hown, hts, hK, hSd, hI, hA0, hdf, hdl, hce, hsl⟩ := C
  intro H locs ls hP hS hl
  exact lv_ldiv hx hb hd hne (k H locs ls hP hS hl)
theorem j_lrem {x y : Int64} (C : Cx G X own cc d) (hd : decode cc pc = .ok (.lrem, 1)) (hne : ¬ y = 0) (k : J G X (pc + 1) lv (.long (x - x / y * y) :: st) μ) : J G X pc lv (.long y :: .long x :: st) μ := by
  obtain ⟨p, e, R, s, m, args, below, meth, c, nL, A0, ce, sl, Q⟩ := X
  obtain ⟨hx, hb, hml, hown, hts, hK, hSd, hI, hA0, hdf, hdl, hce, hsl⟩ := C
  intro H locs ls hP hS hl
  exact lv_lrem hx hb hd hne (k H locs ls hP hS hl)
theorem j_dup {v : Value} (C : Cx G X own cc d) (hd : decode cc pc = .ok (.dup, 1)) (hc : v.category = 1) (k : J G X (pc + 1) lv (v :: v :: st) μ) : J G X pc lv (v :: st) μ := by
  obtain ⟨p, e, R, s, m, args, below, meth, c, nL, A0, ce, sl, Q⟩ := X
  obtain ⟨hx, hb, hml, hown, hts, hK, hSd, hI, hA0, hdf, hdl, hce, hsl⟩ := C
  intro H locs ls hP hS hl
  exact lv_dup hx hb hd hc (k H locs ls hP hS hl)
theorem j_pop {v : Value} (C : Cx G X own cc d) (hd : decode cc pc = .ok (.pop, 1)) (hc : v.category = 1) (k : J G X (pc + 1) lv st μ) : J G X pc lv (v :: st) μ := by
  obtain ⟨p, e, R, s, m, args, below, meth, c, nL, A0, ce, sl, Q⟩ := X
  obtain ⟨hx, hb, hml, hown, hts, hK, hSd, hI, hA0, hdf, hdl, hce, hsl⟩ := C
  intro H locs ls hP hS hl
  exact lv_pop hx hb hd hc (k H locs ls hP hS hl)
theorem j_dup_x1 {v w : Value} (C : Cx G X own cc d) (hd : decode cc pc = .ok (.dup_x1, 1)) (hc : v.category = 1) (hc2 : w.category = 1) (k : J G X (pc + 1) lv (v :: w :: v :: st) μ) : J G X pc lv (v :: w :: st) μ := by
  obtain ⟨p, e, R, s, m, args, below, meth, c, nL, A0, ce, sl, Q⟩ := X
  obtain ⟨hx, hb, hml, hown, hts, hK, hSd, hI, hA0, hdf, hdl, hce, hsl⟩ := C
  intro H locs ls hP hS hl
  exact lv_dup_x1 hx hb hd hc hc2 (k H locs ls hP hS hl)
theorem j_dup2 {v w : Value} (C : Cx G X own cc d) (hd : decode cc pc = .ok (.dup2, 1)) (hc : v.category = 1) (hc2 : w.category = 1) (k : J G X (pc + 1) lv (v :: w :: v :: w :: st) μ) : J G X pc lv (v :: w :: st) μ := by
  obtain ⟨p, e, R, s, m, args, below, meth, c, nL, A0, ce, sl, Q⟩ := X
  obtain ⟨hx, hb, hml, hown, hts, hK, hSd, hI, hA0, hdf, hdl, hce, hsl⟩ := C
  intro H locs ls hP hS hl
  exact lv_dup2_11 hx hb hd hc hc2 (k H locs ls hP hS hl)
theorem j_goto {off : Int} {tgt : Nat} (C : Cx G X own cc d) (hd : decode cc pc = .ok (.goto off, 3)) (ht : (pc : Int) + off = (tgt : Int)) (k : J G X tgt lv st μ) : J G X pc lv st μ := by
  obtain ⟨p, e, R, s, m, args, below, meth, c, nL, A0, ce, sl, Q⟩ := X
  obtain ⟨hx, hb, hml, hown, hts, hK, hSd, hI, hA0, hdf, hdl, hce, hsl⟩ := C
  intro H locs ls hP hS hl
  exact lv_goto hx hb hd ht (k H locs ls hP hS hl)
theorem j_if_eq {x : Int32} {off : Int} {tgt : Nat} (C : Cx G X own cc d) (hd : decode cc pc = .ok (.ifCond .eq off, 3)) (ht : (pc : Int) + off = (tgt : Int)) (kt : x = 0 → J G X tgt lv st μ) (kf : ¬ x = 0 → J G X (pc + 3) lv st μ) : J G X pc lv (.int x :: st) μ := by
  obtain ⟨p, e, R, s, m, args, below, meth, c, nL, A0, ce, sl, Q⟩ := X
  obtain ⟨hx, hb, hml, hown, hts, hK, hSd, hI, hA0, hdf, hdl, hce, hsl⟩ := C
  intro H locs ls hP hS hl
  exact lv_if_eq hx hb hd ht (fun h => kt h H locs ls hP hS hl) (fun h => kf h H locs ls hP hS hl)
theorem j_icmp_eq {x y : Int32} {off : Int} {tgt : Nat} (C : Cx G X own cc d) (hd : decode cc pc = .ok (.if_icmp .eq off, 3)) (ht : (pc : Int) + off = (tgt : Int)) (kt : x = y → J G X tgt lv st μ) (kf : ¬ x = y → J G X (pc + 3) lv st μ) : J G X pc lv (.int y :: .int x :: st) μ := by
  obtain ⟨p, e, R, s, m, args, below, meth, c, nL, A0, ce, sl, Q⟩ := X
  obtain ⟨hx, hb, hml, hown, hts, hK, hSd, hI, hA0, hdf, hdl, hce, hsl⟩ := C
  intro H locs ls hP hS hl
  exact lv_icmp_eq hx hb hd ht (fun h => kt h H locs ls hP hS hl) (fun h => kf h H locs ls hP hS hl)
theorem j_if_ne {x : Int32} {off : Int} {tgt : Nat} (C : Cx G X own cc d) (hd : decode cc pc = .ok (.ifCond .ne off, 3)) (ht : (pc : Int) + off = (tgt : Int)) (kt : ¬ x = 0 → J G X tgt lv st μ) (kf : x = 0 → J G X (pc + 3) lv st μ) : J G X pc lv (.int x :: st) μ := by
  obtain ⟨p, e, R, s, m, args, below, meth, c, nL, A0, ce, sl, Q⟩ := X
  obtain ⟨hx, hb, hml, hown, hts, hK, hSd, hI, hA0, hdf, hdl, hce, hsl⟩ := C
  intro H locs ls hP hS hl
  exact lv_if_ne hx hb hd ht (fun h => kt h H locs ls hP hS hl) (fun h => kf h H locs ls hP hS hl)
theorem j_icmp_ne {x y : Int32} {off : Int} {tgt : Nat} (C : Cx G X own cc d) (hd : decode cc pc = .ok (.if_icmp .ne off, 3)) (ht : (pc : Int) + off = (tgt : Int)) (kt : ¬ x = y → J G X tgt lv st μ) (kf : x = y → J G X (pc + 3) lv st μ) : J G X pc lv (.int y :: .int x :: st) μ := by
  obtain ⟨p, e, R, s, m, args, below, meth, c, nL, A0, ce, sl, Q⟩ := X
  obtain ⟨hx, hb, hml, hown, hts, hK, hSd, hI, hA0, hdf, hdl, hce, hsl⟩ := C
  intro H locs ls hP hS hl
  exact lv_icmp_ne hx hb hd ht (fun h => kt h H locs ls hP hS hl) (fun h => kf h H locs ls hP hS hl)
theorem j_if_lt {x : Int32} {off : Int} {tgt : Nat} (C : Cx G X own cc d) (hd : decode cc pc = .ok (.ifCond .lt off, 3)) (ht : (pc : Int) + off = (tgt : Int)) (kt : x < 0 → J G X tgt lv st μ) (kf : ¬ x < 0 → J G X (pc + 3) lv st μ) : J G X pc lv (.int x :: st) μ := by
  obtain ⟨p, e, R, s, m, args, below, meth, c, nL, A0, ce, sl, Q⟩ := X
  obtain ⟨hx, hb, hml, hown, hts, hK, hSd, hI, hA0, hdf, hdl, hce, hsl⟩ := C
  intro H locs ls hP hS hl
  exact lv_if_lt hx hb hd ht (fun h => kt h H locs ls hP hS hl) (fun h => kf h H locs ls hP hS hl)
theorem j_icmp_lt {x y : Int32} {off : Int} {tgt : Nat} (C : Cx G X own cc d) (hd : decode cc pc = .ok (.if_icmp .lt off, 3)) (ht : (pc : Int) + off = (tgt : Int)) (kt : x < y → J G X tgt lv st μ) (kf : ¬ x < y → J G X (pc + 3) lv st μ) : J G X pc lv (.int y :: .int x :: st) μ := by
  obtain ⟨p, e, R, s, m, args, below, meth, c, nL, A0, ce, sl, Q⟩ := X
  obtain ⟨hx, hb, hml, hown, hts, hK, hSd, hI, hA0, hdf, hdl, hce, hsl⟩ := C
  intro H locs ls hP hS hl
  exact lv_icmp_lt hx hb hd ht (fun h => kt h H locs ls hP hS hl) (fun h => kf h H locs ls hP hS hl)
theorem j_if_ge {x : Int32} {off : Int} {tgt : Nat} (C : Cx G X own cc d) (hd : decode cc pc = .ok (.ifCond .ge off, 3)) (ht : (pc : Int) + off = (tgt : Int)) (kt : 0 ≤ x → J G X tgt lv st μ) (kf : ¬ 0 ≤ x → J G X (pc + 3) lv st μ) : J G X pc lv (.int x :: st) μ := by
  obtain ⟨p, e, R, s, m, args, below, meth, c, nL, A0, ce, sl, Q⟩ := X
  obtain ⟨hx, hb, hml, hown, hts, hK, hSd, hI, hA0, hdf, hdl, hce, hsl⟩ := C
  intro H locs ls hP hS hl
  exact lv_if_ge hx hb hd ht (fun h => kt h H locs ls hP hS hl) (fun h => kf h H locs ls hP hS hl)
theorem j_icmp_ge {x y : Int32} {off : Int} {tgt : Nat} (C : Cx G X own cc d) (hd : decode cc pc = .ok (.if_icmp .ge off, 3)) (ht : (pc : Int) + off = (tgt : Int)) (kt : y ≤ x → J G X tgt lv st μ) (kf : ¬ y ≤ x → J G X (pc + 3) lv st μ) : J G X pc lv (.int y :: .int x :: st) μ := by
  obtain ⟨p, e, R, s, m, args, below, meth, c, nL, A0, ce, sl, Q⟩ := X
  obtain ⟨hx, hb, hml, hown, hts, hK, hSd, hI, hA0, hdf, hdl, hce, hsl⟩ := C
  intro H locs ls hP hS hl
  exact lv_icmp_ge hx hb hd ht (fun h => kt h H locs ls hP hS hl) (fun h => kf h H locs ls hP hS hl)
theorem j_if_gt {x : Int32} {off : Int} {tgt : Nat} (C : Cx G X own cc d) (hd : decode cc pc = .ok (.ifCond .gt off, 3)) (ht : (pc : Int) + off = (tgt : Int)) (kt : 0 < x → J G X tgt lv st μ) (kf : ¬ 0 < x → J G X (pc + 3) lv st μ) : J G X pc lv (.int x :: st) μ := by
  obtain ⟨p, e, R, s, m, args, below, meth, c, nL, A0, ce, sl, Q⟩ := X
  obtain ⟨hx, hb, hml, hown, hts, hK, hSd, hI, hA0, hdf, hdl, hce, hsl⟩ := C
  intro H locs ls hP hS hl
  exact lv_if_gt hx hb hd ht (fun h => kt h H locs ls hP hS hl) (fun h => kf h H locs ls hP hS hl)
theorem j_icmp_gt {x y : Int32} {off : Int} {tgt : Nat} (C : Cx G X own cc d) (hd : decode cc pc = .ok (.if_icmp .gt off, 3)) (ht : (pc : Int) + off = (tgt : Int)) (kt : y < x → J G X tgt lv st μ) (kf : ¬ y < x → J G X (pc + 3) lv st μ) : J G X pc lv (.int y :: .int x :: st) μ := by
  obtain ⟨p, e, R, s, m, args, below, meth, c, nL, A0, ce, sl, Q⟩ := X
  obtain ⟨hx, hb, hml, hown, hts, hK, hSd, hI, hA0, hdf, hdl, hce, hsl⟩ := C
  intro H locs ls hP hS hl
  exact lv_icmp_gt hx hb hd ht (fun h => kt h H locs ls hP hS hl) (fun h => kf h H locs ls hP hS hl)
theorem j_if_le {x : Int32} {off : Int} {tgt : Nat} (C : Cx G X own cc d) (hd : decode cc pc = .ok (.ifCond .le off, 3)) (ht : (pc : Int) + off = (tgt : Int)) (kt : x ≤ 0 → J G X tgt lv st μ) (kf : ¬ x ≤ 0 → J G X (pc + 3) lv st μ) : J G X pc lv (.int x :: st) μ := by
  obtain ⟨p, e, R, s, m, args, below, meth, c, nL, A0, ce, sl, Q⟩ := X
  obtain ⟨hx, hb, hml, hown, hts, hK, hSd, hI, hA0, hdf, hdl, hce, hsl⟩ := C
  intro H locs ls hP hS hl
  exact lv_if_le hx hb hd ht (fun h => kt h H locs ls hP hS hl) (fun h => kf h H locs ls hP hS hl)
theorem j_icmp_le {x y : Int32} {off : Int} {tgt : Nat} (C : Cx G X own cc d) (hd : decode cc pc = .ok (.if_icmp .le off, 3)) (ht : (pc : Int) + off = (tgt : Int)) (kt : x ≤ y → J G X tgt lv st μ) (kf : ¬ x ≤ y → J G X (pc + 3) lv st μ) : J G X pc lv (.int y :: .int x :: st) μ := by
  obtain ⟨p, e, R, s, m, args, below, meth, c, nL, A0, ce, sl, Q⟩ := X
  obtain ⟨hx, hb, hml, hown, hts, hK, hSd, hI, hA0, hdf, hdl, hce, hsl⟩ := C
  intro H locs ls hP hS hl
  exact lv_icmp_le hx hb hd ht (fun h => kt h H locs ls hP hS hl) (fun h => kf h H locs ls hP hS hl)
theorem j_tabIn {dflt lo hi : Int} {offs : Array Int} {len : Nat} {x : Int32} {off : Int} {tgt : Nat} (C : Cx G X own cc d) (hd : decode cc pc = .ok (.tableswitch dflt lo hi offs, len)) (h1 : ¬ x.toInt < lo) (h2 : ¬ hi < x.toInt) (ho : offs[(x.toInt - lo).toNat]? = some off) (ht : (pc : Int) + off = (tgt : Int)) (k : J G X tgt lv st μ) : J G X pc lv (.int x :: st) μ := by
  obtain ⟨p, e, R, s, m, args, below, meth, c, nL, A0, ce, sl, Q⟩ := X
  obtain ⟨hx, hb, hml, hown, hts, hK, hSd, hI, hA0, hdf, hdl, hce, hsl⟩ := C
  intro H locs ls hP hS hl
  exact lv_tableIn hx hb hd h1 h2 ho ht (k H locs ls hP hS hl)
theorem j_tabOut {dflt lo hi : Int} {offs : Array Int} {len : Nat} {x : Int32} {tgt : Nat} (C : Cx G X own cc d) (hd : decode cc pc = .ok (.tableswitch dflt lo hi offs, len)) (h : x.toInt < lo ∨ hi < x.toInt) (ht : (pc : Int) + dflt = (tgt : Int)) (k : J G X tgt lv st μ) : J G X pc lv (.int x :: st) μ := by
  obtain ⟨p, e, R, s, m, args, below, meth, c, nL, A0, ce, sl, Q⟩ := X
  obtain ⟨hx, hb, hml, hown, hts, hK, hSd, hI, hA0, hdf, hdl, hce, hsl⟩ := C
  intro H locs ls hP hS hl
  exact lv_tableOut hx hb hd h ht (k H locs ls hP hS hl)
theorem j_ldc {index : Nat} {v : Int32} (C : Cx G X own cc d) (hd : decode cc pc = .ok (.ldc index, 2)) (hc : Cond.constant own index v ∈ WS) (k : J G X (pc + 2) lv (.int v :: st) μ) : J G X pc lv st μ := by
  obtain ⟨p, e, R, s, m, args, below, meth, c, nL, A0, ce, sl, Q⟩ := X
  obtain ⟨hx, hb, hml, hown, hts, hK, hSd, hI, hA0, hdf, hdl, hce, hsl⟩ := C
  intro H locs ls hP hS hl
  exact lv_ldc hx hb hown (hts _ hc) hd (k H locs ls hP hS hl)
theorem j_ldc2 {index : Nat} {v : Int64} (C : Cx G X own cc d) (hd : decode cc pc = .ok (.ldc2_w index, 3)) (hc : Cond.constantLong own index v ∈ WS) (k : J G X (pc + 3) lv (.long v :: st) μ) : J G X pc lv st μ := by
  obtain ⟨p, e, R, s, m, args, below, meth, c, nL, A0, ce, sl, Q⟩ := X
  obtain ⟨hx, hb, hml, hown, hts, hK, hSd, hI, hA0, hdf, hdl, hce, hsl⟩ := C
  intro H locs ls hP hS hl
  exact lv_ldc2 hx hb hown (hts _ hc) hd (k H locs ls hP hS hl)
theorem j_iald {a n j : Nat} (C : Cx G X own cc d) (hd : decode cc pc = .ok (.iaload, 1)) (ha : isA a n) (hj : j < n) (k : J G X (pc + 1) lv (.int (nI (μ a j)) :: st) μ) : J G X pc lv (.int (nI j) :: rf G a :: st) μ := by
  obtain ⟨p, e, R, s, m, args, below, meth, c, nL, A0, ce, sl, Q⟩ := X
  obtain ⟨hx, hb, hml, hown, hts, hK, hSd, hI, hA0, hdf, hdl, hce, hsl⟩ := C
  intro H locs ls hP hS hl
  have hn := ha.lt
  refine va_iald (n := n) (f := fun i => nI (μ a i)) hx hb hK hP a 0 (by rw [cells_at ha.1, entA ha]) rfl (vp_in_nI hj (by omega)) hd ?_
  rw [nI_clamp (by omega)]
  exact k H locs ls hP hS hl
theorem j_iast {a n j v : Nat} (C : Cx G X own cc d) (hd : decode cc pc = .ok (.iastore, 1)) (ha : isA a n) (hj : j < n) (k : J G X (pc + 1) lv st (up μ a j v)) : J G X pc lv (.int (nI v) :: .int (nI j) :: rf G a :: st) μ := by
  obtain ⟨p, e, R, s, m, args, below, meth, c, nL, A0, ce, sl, Q⟩ := X
  obtain ⟨hx, hb, hml, hown, hts, hK, hSd, hI, hA0, hdf, hdl, hce, hsl⟩ := C
  intro H locs ls hP hS hl
  have hn := ha.lt
  refine va_iast (n := n) (f := fun i => nI (μ a i)) hx hb hK hP (cells_D hI hA0) hS a 0 (by rw [cells_at ha.1, entA ha]) rfl (vp_in_nI hj (by omega)) hd (fun H1 locs1 hP1 _ hS1 => ?_)
  rw [nI_clamp (by omega)] at hP1
  rw [cells_set (μ' := up μ a j v) ha.1 (by
    rw [entA ha, up_self]
    congr 4
    funext i
    by_cases q : i = j <;> simp [upd, q]) (fun b hb => up_ne hb)] at hP1
  exact k H1 locs1 ls hP1 hS1 hl
theorem j_alen {a n : Nat} (C : Cx G X own cc d) (hd : decode cc pc = .ok (.arraylength, 1)) (ha : isA a n) (k : J G X (pc + 1) lv (.int (nI n) :: st) μ) : J G X pc lv (rf G a :: st) μ := by
  obtain ⟨p, e, R, s, m, args, below, meth, c, nL, A0, ce, sl, Q⟩ := X
  obtain ⟨hx, hb, hml, hown, hts, hK, hSd, hI, hA0, hdf, hdl, hce, hsl⟩ := C
  intro H locs ls hP hS hl
  refine va_alen (x := (n, .inl (fun i => nI (μ a i)))) (ty := .int) (v := nI n) hx hb hK hP a 0 (by rw [cells_at ha.1, entA ha]) rfl rfl hd ?_
  exact k H locs ls hP hS hl
theorem j_copy {a b na nb sp dp n ix : Nat} (C : Cx G X own cc d) (hd : decode cc pc = .ok (.invokestatic ix, 3)) (hl1 : Cond.methodLink own ix arraycopyName ∈ WS) (hl2 : Cond.native arraycopyName ∈ WS) (hl3 : Cond.static arraycopyName ∈ WS) (hl4 : Cond.initialized "java/lang/System" ∈ WS) (ha : isA a na) (hb9 : isA b nb) (h1 : sp + n ≤ na) (h2 : dp + n ≤ nb) (hd1 : 1 ≤ d) (hst : (st.map fun v => v.category).sum ≤ 8) (k : J G X (pc + 3) lv st (fun q i => if q = b ∧ dp ≤ i ∧ i < dp + n then μ a (sp + (i - dp)) else μ q i)) : J G X pc lv (.int (nI n) :: .int (nI dp) :: rf G b :: .int (nI sp) :: rf G a :: st) μ := by
  obtain ⟨p, e, R, s, m, args, below, meth, c, nL, A0, ce, sl, Q⟩ := X
  obtain ⟨hx, hb, hml, hown, hts, hK, hSd, hI, hA0, hdf, hdl, hce, hsl⟩ := C
  intro H locs ls hP hS hl
  have hna := ha.lt
  have hnb := hb9.lt
  have hnf : nativeFrameWords "java/lang/System" "arraycopy" 5 + 11 ≤ 26 := by decide +kernel
  have e1 : (nI sp).toNatClampNeg = sp := nI_clamp (by omega)
  have e2 : (nI dp).toNatClampNeg = dp := nI_clamp (by omega)
  have e3 : (nI n).toNatClampNeg = n := nI_clamp (by omega)
  refine va_copyi (n0 := na) (n1 := nb) (f := fun i => nI (μ a i)) (g := fun i => nI (μ b i)) (ty := .int) hx hb (by rw [hml, hl.1]) hown (hts _ hl1) (hts _ hl2) (hts _ hl3) (hts _ hl4) hK hP (cells_D hI hA0) hS a b 0 0 (by rw [cells_at ha.1, entA ha]) (by rw [cells_at hb9.1, entA hb9]) rfl rfl rfl (nI_pos (n := sp) (by omega)) (nI_pos (n := dp) (by omega)) (nI_pos (n := n) (by omega)) (by rw [e1, e3]; exact h1) (by rw [e2, e3]; exact h2) (fun _ _ => rfl) (by omega) (by omega) hd (fun H1 locs1 hP1 _ hS1 => ?_)
  rw [e1, e2, e3] at hP1
  rw [cells_set (μ' := fun q i => if q = b ∧ dp ≤ i ∧ i < dp + n then μ a (sp + (i - dp)) else μ q i) hb9.1 (by
    rw [entA hb9]
    congr 4
    funext i
    by_cases q : dp ≤ i ∧ i < dp + n <;> simp [va_cpy, q]) (fun j hj => by funext i; simp [hj])] at hP1
  exact k H1 locs1 ls hP1 hS1 hl
theorem j_max {x y : Int32} {ix : Nat} (C : Cx G X own cc d) (hd : decode cc pc = .ok (.invokestatic ix, 3)) (hl1 : Cond.methodLink own ix Lib.Math.max.name ∈ WS) (hl2 : Cond.static Lib.Math.max.name ∈ WS) (hl3 : Cond.initialized "java/lang/Math" ∈ WS) (hl4 : Cond.code Lib.Math.max.name Lib.Math.max.code 2 (some .int) ∈ WS) (hd1 : 1 ≤ d) (hst : (st.map fun v => v.category).sum ≤ 8) (k : J G X (pc + 3) lv (.int (if x < y then y else x) :: st) μ) : J G X pc lv (.int y :: .int x :: st) μ := by
  obtain ⟨p, e, R, s, m, args, below, meth, c, nL, A0, ce, sl, Q⟩ := X
  obtain ⟨hx, hb, hml, hown, hts, hK, hSd, hI, hA0, hdf, hdl, hce, hsl⟩ := C
  intro H locs ls hP hS hl
  exact va_mmax hx hb (by rw [hml, hl.1]) hown (hts _ hl1) (hts _ hl2) (hts _ hl3) (hts _ hl4) (by omega) (by omega) hce hsl hd (k H locs ls hP hS hl)
theorem j_min {x y : Int32} {ix : Nat} (C : Cx G X own cc d) (hd : decode cc pc = .ok (.invokestatic ix, 3)) (hl1 : Cond.methodLink own ix Lib.Math.min.name ∈ WS) (hl2 : Cond.static Lib.Math.min.name ∈ WS) (hl3 : Cond.initialized "java/lang/Math" ∈ WS) (hl4 : Cond.code Lib.Math.min.name Lib.Math.min.code 2 (some .int) ∈ WS) (hd1 : 1 ≤ d) (hst : (st.map fun v => v.category).sum ≤ 8) (k : J G X (pc + 3) lv (.int (if y < x then y else x) :: st) μ) : J G X pc lv (.int y :: .int x :: st) μ := by
  obtain ⟨p, e, R, s, m, args, below, meth, c, nL, A0, ce, sl, Q⟩ := X
  obtain ⟨hx, hb, hml, hown, hts, hK, hSd, hI, hA0, hdf, hdl, hce, hsl⟩ := C
  intro H locs ls hP hS hl
  exact va_mmin hx hb (by rw [hml, hl.1]) hown (hts _ hl1) (hts _ hl2) (hts _ hl3) (hts _ hl4) (by omega) (by omega) hce hsl hd (k H locs ls hP hS hl)
theorem j_abs {x : Int32} {ix : Nat} (C : Cx G X own cc d) (hd : decode cc pc = .ok (.invokestatic ix, 3)) (hl1 : Cond.methodLink own ix Lib.Math.abs.name ∈ WS) (hl2 : Cond.static Lib.Math.abs.name ∈ WS) (hl3 : Cond.initialized "java/lang/Math" ∈ WS) (hl4 : Cond.code Lib.Math.abs.name Lib.Math.abs.code 1 (some .int) ∈ WS) (hd1 : 1 ≤ d) (hst : (st.map fun v => v.category).sum ≤ 8) (k : J G X (pc + 3) lv (.int (if 0 ≤ x then x else 0 - x) :: st) μ) : J G X pc lv (.int x :: st) μ := by
  obtain ⟨p, e, R, s, m, args, below, meth, c, nL, A0, ce, sl, Q⟩ := X
  obtain ⟨hx, hb, hml, hown, hts, hK, hSd, hI, hA0, hdf, hdl, hce, hsl⟩ := C
  intro H locs ls hP hS hl
  exact va_mabs hx hb (by rw [hml, hl.1]) hown (hts _ hl1) (hts _ hl2) (hts _ hl3) (hts _ hl4) (by omega) (by omega) hce hsl hd (k H locs ls hP hS hl)
theorem j_get {ref Cn : String} {T : u_T} {N ci ix a : Nat} {fs : List Value} {v : Value} (C : Cx G X own cc d) (hin : ∀ w ∈ u_ws Cn T N, w ∈ WS) (hc : vwCl[ci]? = some (Cn, T, N)) (hd : decode cc pc = .ok (.getfield ix, 3)) (ha : a < 60) (he : entF G a (μ a) = .inr (ci, fs)) (f : Nat) (hf : f < N) (hlink : Cond.fieldLink own ix ref (T f).2.1 (T f).2.2.1 ∈ WS) (href : (T f).1 = ref) (hv : fs[f]? = some v) (k : J G X (pc + 3) lv (v :: st) μ) : J G X pc lv (rf G a :: st) μ := by
  obtain ⟨p, e, R, s, m, args, below, meth, c, nL, A0, ce, sl, Q⟩ := X
  obtain ⟨hx, hb, hml, hown, hts, hK, hSd, hI, hA0, hdf, hdl, hce, hsl⟩ := C
  intro H locs ls hP hS hl
  exact va_get hx hb hts hin hown hK hP a (by rw [cells_at ha, he]) hc f hf (hts _ hlink) (fun x h => by rw [← href]; exact h) hv hd (k H locs ls hP hS hl)
theorem j_putI {ref Cn : String} {T : u_T} {N ci ix a x : Nat} {fs : List Value} {v : Value} {ty : FieldType} {t0 : Nat → FieldType} {μ' : Mem} (C : Cx G X own cc d) (hin : ∀ w ∈ u_ws Cn T N, w ∈ WS) (hty : ∀ k, k < N → parseFieldDescriptor (T k).2.2.1 = some (t0 k)) (hnm : ∀ a, a < N → ∀ b, b < N → a ≠ b → (T a).2.1 ≠ (T b).2.1) (hc : vwCl[ci]? = some (Cn, T, N)) (hd : decode cc pc = .ok (.putfield ix, 3)) (ha : a < 60) (he : entF G a (μ a) = .inr (ci, fs)) (f : Nat) (hf : f < N) (hlink : Cond.fieldLink own ix ref (T f).2.1 (T f).2.2.1 ∈ WS) (href : (T f).1 = ref) (hfin : (T f).2.2.2 = false) (hdt : parseFieldDescriptor (T f).2.2.1 = some ty) (hnr : narrow ty v = v) (hfit : fits ty v = true) (hlen : f < fs.length) (he2 : entF G a (μ' a) = .inr (ci, fs.set f v)) (ho : ∀ b, b ≠ a → μ' b = μ b) (k : J G X (pc + 3) lv st μ') : J G X pc lv (v :: rf G a :: st) μ := by
  obtain ⟨p, e, R, s, m, args, below, meth, c, nL, A0, ce, sl, Q⟩ := X
  obtain ⟨hx, hb, hml, hown, hts, hK, hSd, hI, hA0, hdf, hdl, hce, hsl⟩ := C
  intro H locs ls hP hS hl
  refine va_put hx hb hts hin t0 hty hnm hown hK hP (cells_D hI hA0) hS a (by rw [cells_at ha, he]) hc f hf (hts _ hlink) (fun x h => by rw [← href]; exact h) hfin hdt hnr hfit hlen hd (fun H1 locs1 hP1 _ hS1 => ?_)
  rw [cells_set (μ' := μ') ha he2 ho] at hP1
  exact k H1 locs1 ls hP1 hS1 hl
theorem j_getMost {ix : Nat} (C : Cx G X own cc d) (hd : decode cc pc = .ok (.getstatic ix, 3)) (hlink : Cond.fieldLink own ix "TrolleyAtEleven" "MOST_OF_SETTINGS" "[I" ∈ WS) (k : J G X (pc + 3) lv (rf G 60 :: st) μ) : J G X pc lv st μ := by
  obtain ⟨p, e, R, s, m, args, below, meth, c, nL, A0, ce, sl, Q⟩ := X
  obtain ⟨hx, hb, hml, hown, hts, hK, hSd, hI, hA0, hdf, hdl, hce, hsl⟩ := C
  intro H locs ls hP hS hl
  have hlink' := hts _ hlink
  obtain ⟨hZ, -⟩ := hSd
  have hS' : va_S A0 s.heap H locs := hS
  exact va_gets hx hb hZ hS' hown hlink' (fun x h => h) hd (k H locs ls hP hS hl)
theorem j_getMostN (C : Cx G X own cc d) (ho : own = "TrolleyAtEleven$Reader") (hd : decode cc pc = .ok (.getstatic 77, 3)) (k : J G X (pc + 3) lv (rf G 60 :: st) μ) : J G X pc lv st μ := by
  obtain ⟨p, e, R, s, m, args, below, meth, c, nL, A0, ce, sl, Q⟩ := X
  obtain ⟨hx, hb, hml, hown, hts, hK, hSd, hI, hA0, hdf, hdl, hce, hsl⟩ := C
  intro H locs ls hP hS hl
  subst ho
  have hlink' := va_Nw.use (A := args) rfl hSd.2.2.2.2.2.2.2.2
  obtain ⟨hZ, -⟩ := hSd
  exact va_getsN hx hb hZ hS hown hlink' (fun x h => h) hd (k H locs ls hP hS hl)
theorem j_mostAt {j : Nat} (C : Cx G X own cc d) (hd : decode cc pc = .ok (.iaload, 1)) (hj : j < 10) (k : J G X (pc + 1) lv (.int (nI (mostN j)) :: st) μ) : J G X pc lv (.int (nI j) :: rf G 60 :: st) μ := by
  obtain ⟨p, e, R, s, m, args, below, meth, c, nL, A0, ce, sl, Q⟩ := X
  obtain ⟨hx, hb, hml, hown, hts, hK, hSd, hI, hA0, hdf, hdl, hce, hsl⟩ := C
  intro H locs ls hP hS hl
  exact va_ti hx hb hSd.2.1 hS (vp_in_nI hj (by omega)) (by rw [nI_clamp (by omega)]) hd (k H locs ls hP hS hl)
theorem j_mostLen (C : Cx G X own cc d) (hd : decode cc pc = .ok (.arraylength, 1)) (k : J G X (pc + 1) lv (.int (nI 10) :: st) μ) : J G X pc lv (rf G 60 :: st) μ := by
  obtain ⟨p, e, R, s, m, args, below, meth, c, nL, A0, ce, sl, Q⟩ := X
  obtain ⟨hx, hb, hml, hown, hts, hK, hSd, hI, hA0, hdf, hdl, hce, hsl⟩ := C
  intro H locs ls hP hS hl
  obtain ⟨cell, h1, h2, h3, h4, h5, h6, h7⟩ := hSd.2.1.kept hS.2.1
  exact W.alen (n := nI 10) hx hb h1 h2 h5 rfl rfl hd (k H locs ls hP hS hl)
theorem j_iret {Post : PO} {v : Int32} (C : Cx G X own cc d) (E : En G X Post (some .int)) (hd : decode cc pc = .ok (.ireturn, 1)) (h : Post (some (.int v)) μ) : J G X pc lv [.int v] μ := by
  obtain ⟨p, e, R, s, m, args, below, meth, c, nL, A0, ce, sl, Q⟩ := X
  obtain ⟨hx, hb, hml, hown, hts, hK, -⟩ := C
  obtain ⟨hr, hlocks, rfl, rfl, rfl, rfl, hSd, hI, -⟩ := E
  intro H locs ls hP hS hl
  exact W.iret (v := v) hx hb hr (fun t ht hW => ⟨⟨_, μ, rfl, h, by rw [ht]; exact hP, va_K.moved hW.alike hK, by rw [ht]; exact (hSd.kept hS.2.1).moved hW, hI⟩, hS.F ht⟩) hS.2.2 hd
theorem j_zret {Post : PO} {v : Int32} {ty : FieldType} (C : Cx G X own cc d) (E : En G X Post (some ty)) (hd : decode cc pc = .ok (.ireturn, 1)) (hn : narrow ty (.int v) = .int v) (h : Post (some (.int v)) μ) : J G X pc lv [.int v] μ := by
  obtain ⟨p, e, R, s, m, args, below, meth, c, nL, A0, ce, sl, Q⟩ := X
  obtain ⟨hx, hb, hml, hown, hts, hK, -⟩ := C
  obtain ⟨hr, hlocks, rfl, rfl, rfl, rfl, hSd, hI, -⟩ := E
  intro H locs ls hP hS hl
  exact W.zret (v := v) hx hb hr hn (fun t ht hW => ⟨⟨_, μ, rfl, h, by rw [ht]; exact hP, va_K.moved hW.alike hK, by rw [ht]; exact (hSd.kept hS.2.1).moved hW, hI⟩, hS.F ht⟩) hS.2.2 hd
theorem j_lret {Post : PO} {v : Int64} (C : Cx G X own cc d) (E : En G X Post (some .long)) (hd : decode cc pc = .ok (.lreturn, 1)) (h : Post (some (.long v)) μ) : J G X pc lv [.long v] μ := by
  obtain ⟨p, e, R, s, m, args, below, meth, c, nL, A0, ce, sl, Q⟩ := X
  obtain ⟨hx, hb, hml, hown, hts, hK, -⟩ := C
  obtain ⟨hr, hlocks, rfl, rfl, rfl, rfl, hSd, hI, -⟩ := E
  intro H locs ls hP hS hl
  exact W.lret (v := v) hx hb hr (fun t ht hW => ⟨⟨_, μ, rfl, h, by rw [ht]; exact hP, va_K.moved hW.alike hK, by rw [ht]; exact (hSd.kept hS.2.1).moved hW, hI⟩, hS.F ht⟩) hS.2.2 hd
theorem j_vret {Post : PO} (C : Cx G X own cc d) (E : En G X Post none) (hd : decode cc pc = .ok (.return_, 1)) (h : Post none μ) : J G X pc lv [] μ := by
  obtain ⟨p, e, R, s, m, args, below, meth, c, nL, A0, ce, sl, Q⟩ := X
  obtain ⟨hx, hb, hml, hown, hts, hK, -⟩ := C
  obtain ⟨hr, hlocks, rfl, rfl, rfl, rfl, hSd, hI, -⟩ := E
  intro H locs ls hP hS hl
  exact W.vret hx hb hr (fun t ht hW => ⟨⟨_, μ, rfl, h, by rw [ht]; exact hP, va_K.moved hW.alike hK, by rw [ht]; exact (hSd.kept hS.2.1).moved hW, hI⟩, hS.F ht⟩) hS.2.2 hd
end JR
