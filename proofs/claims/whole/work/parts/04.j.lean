-- THE MACHINE'S FACE FOR THIS CLAIM: one memory of numbers by names (object or row, place), one judgement J a program point, one contract Ev a method
def WS : List Cond := lw_tbl.filter goodWord
theorem WS_in {w : Cond} (h : w ∈ WS) : w ∈ lw_tbl := (List.mem_filter.mp h).1
theorem wk (i : Nat) {w : Cond} (h : lw_tbl[i]? = some w) (g : goodWord w = true) : w ∈ WS := List.mem_filter.mpr ⟨List.mem_of_getElem? h, g⟩
theorem good_ws {Ts ws : List Cond} (h : ∀ w ∈ ws, w ∈ WS) (hT : ∀ w ∈ WS, w ∈ Ts) : GoodIn Ts ws := fun w hw => ⟨hT w (h w hw), good_of_word (List.mem_filter.mp (h w hw)).2⟩
abbrev Mem : Type := Nat → Nat → Nat
abbrev GX : Type := Launch × (Nat → Nat) × (Nat → ClassId) × (Nat → Nat → Nat) × ClassId
def gL (G : GX) : Launch := G.1
def gA (G : GX) : Nat → Nat := G.2.1
def gC (G : GX) : Nat → ClassId := G.2.2.1
def gI (G : GX) : Nat → Nat → Nat := G.2.2.2.1
def gY (G : GX) : ClassId := G.2.2.2.2
abbrev rf (G : GX) (k : Nat) : Value := .ref (gA G k)
def up (μ : Mem) (a i v : Nat) : Mem := fun b j => if b = a ∧ j = i then v else μ b j
def nLen (k : Nat) : Nat := if k = 35 ∨ k = 52 then 96 else if k = 7 ∨ k = 14 ∨ k = 21 ∨ k = 44 then 10 else if k = 23 ∨ k = 46 then 8 else if k = 36 ∨ k = 54 then 12 else if k = 37 ∨ k = 55 then 7 else if k = 45 then 3 else if k = 56 ∨ k = 57 then 41 else 6
def isObj (k : Nat) : Bool := k == 0 || k == 1 || k == 8 || k == 15 || k == 22 || k == 30 || k == 34 || k == 38
def isH (h : Nat) : Prop := h = 1 ∨ h = 8 ∨ h = 15
/-- a cell of the world, by its name and its numbers -/
def entF (G : GX) (k : Nat) (f : Nat → Nat) : va_E :=
  if k = 0 then .inr (4, [rf G 1, rf G 8, rf G 15, .int (nI (f 3)), rf G 22, rf G 30, rf G 32, rf G 33, rf G 34, rf G 36, .int (nI (f 10)), rf G 37])
  else if k = 1 ∨ k = 8 ∨ k = 15 then .inr (0, [.int (nI (f 0)), rf G (k + 1), rf G (k + 2), rf G (k + 3), rf G (k + 4), rf G (k + 5), rf G (k + 6)])
  else if k = 22 then .inr (3, [rf G 23, rf G 24, rf G 25, rf G 26, rf G 27, rf G 28, rf G 29, .int (nI (f 7)), .int (nI (f 8)), .int (nI (f 9)), .int (nI (f 10)), .int (nI (f 11)), .int (nI (f 12)), .int (nI (f 13))])
  else if k = 30 then .inr (1, [rf G 31, .int (nI (f 1))])
  else if k = 34 then .inr (2, [rf G 35, .int (nI (f 1))])
  else if k = 38 then .inr (5, [.int (nI (f 0)), rf G 39, rf G 40, rf G 41, rf G 42, rf G 43, rf G 44, rf G 45, rf G 46, rf G 47, rf G 48, rf G 49, rf G 50, rf G 51, .int (nI (f 14)), .int (nI (f 15)), .int (nI (f 16)), rf G 52, .int (nI (f 18)), rf G 53, .int (nI (f 20)), rf G 54, rf G 55, .int (nI (f 23)), rf G 56, rf G 57, rf G 58, rf G 59, .long (lN (f 28)), .long (lN (f 29))])
  else .inl (gY G, nLen k, .inl (fun i => nI (f i)))
def cells (G : GX) (μ : Mem) : va_W := (List.range 60).map (fun k => (gA G k, entF G k (μ k)))
theorem cells_at {G : GX} {μ : Mem} {k : Nat} (hk : k < 60) : (cells G μ)[k]? = some (gA G k, entF G k (μ k)) := by simp [cells, hk]
theorem cells_set {G : GX} {μ μ' : Mem} {k : Nat} {e : va_E} (hk : k < 60) (he : entF G k (μ' k) = e) (ho : ∀ j, j ≠ k → μ' j = μ j) : (cells G μ).set k (gA G k, e) = cells G μ' := by
  apply List.ext_getElem?
  intro j
  by_cases hj : j = k
  · subst hj
    rw [List.getElem?_set_self (by simp [cells, hk]), cells_at hk, he]
  · rw [List.getElem?_set_ne (Ne.symm hj)]
    by_cases h60 : j < 60
    · rw [cells_at h60, cells_at h60, ho j hj]
    · rw [List.getElem?_eq_none (by simp [cells]; omega), List.getElem?_eq_none (by simp [cells]; omega)]
theorem up_self {μ : Mem} {a i v : Nat} : up μ a i v a = fun j => if j = i then v else μ a j := by funext j; simp [up]
theorem up_ne {μ : Mem} {a i v b : Nat} (h : b ≠ a) : up μ a i v b = μ b := by funext j; simp [up, h]
theorem up_at {μ : Mem} {a i v : Nat} : up μ a i v a i = v := by simp [up]
theorem up_off {μ : Mem} {a i v b j : Nat} (h : b ≠ a ∨ j ≠ i) : up μ a i v b j = μ b j := by
  rcases h with h | h <;> simp [up, h]
def isA (a n : Nat) : Prop := a < 60 ∧ isObj a = false ∧ nLen a = n
theorem entA {G : GX} {a n : Nat} {f : Nat → Nat} (h : isA a n) : entF G a f = .inl (gY G, n, .inl (fun i => nI (f i))) := by
  obtain ⟨h1, h2, h3⟩ := h
  simp only [isObj, Bool.or_eq_false_iff, beq_eq_false_iff_ne] at h2
  obtain ⟨⟨⟨⟨⟨⟨⟨a1, a2⟩, a3⟩, a4⟩, a5⟩, a6⟩, a7⟩, a8⟩ := h2
  simp [entF, a1, a2, a3, a4, a5, a6, a7, a8, h3]
theorem isA_H {h k n : Nat} (hh : isH h) (hk : 1 ≤ k ∧ k ≤ 6) (hn : n = if k = 6 then 10 else 6) : isA (h + k) n := by
  obtain ⟨h1, h2⟩ := hk
  have : k = 1 ∨ k = 2 ∨ k = 3 ∨ k = 4 ∨ k = 5 ∨ k = 6 := by omega
  rcases hh with rfl | rfl | rfl <;> rcases this with rfl | rfl | rfl | rfl | rfl | rfl <;> (subst hn; exact ⟨by decide, by decide, by decide⟩)
theorem isA_1 {h : Nat} (hh : isH h) : isA (h + 1) 6 := isA_H hh (by omega) rfl
theorem isA_2 {h : Nat} (hh : isH h) : isA (h + 2) 6 := isA_H hh (by omega) rfl
theorem isA_3 {h : Nat} (hh : isH h) : isA (h + 3) 6 := isA_H hh (by omega) rfl
theorem isA_4 {h : Nat} (hh : isH h) : isA (h + 4) 6 := isA_H hh (by omega) rfl
theorem isA_5 {h : Nat} (hh : isH h) : isA (h + 5) 6 := isA_H hh (by omega) rfl
theorem isA_6 {h : Nat} (hh : isH h) : isA (h + 6) 10 := isA_H hh (by omega) rfl
theorem isH_1 : isH 1 := Or.inl rfl
theorem isH_8 : isH 8 := Or.inr (Or.inl rfl)
theorem isH_15 : isH 15 := Or.inr (Or.inr rfl)
theorem isH_le {h : Nat} (hh : isH h) : 1 ≤ h ∧ h ≤ 15 := by rcases hh with rfl | rfl | rfl <;> omega
theorem ent4 {G : GX} {f : Nat → Nat} : entF G 0 f = .inr (4, [rf G 1, rf G 8, rf G 15, .int (nI (f 3)), rf G 22, rf G 30, rf G 32, rf G 33, rf G 34, rf G 36, .int (nI (f 10)), rf G 37]) := rfl
theorem ent0 {G : GX} {h : Nat} {f : Nat → Nat} (hh : isH h) : entF G h f = .inr (0, [.int (nI (f 0)), rf G (h + 1), rf G (h + 2), rf G (h + 3), rf G (h + 4), rf G (h + 5), rf G (h + 6)]) := by
  rcases hh with rfl | rfl | rfl <;> rfl
theorem ent3 {G : GX} {f : Nat → Nat} : entF G 22 f = .inr (3, [rf G 23, rf G 24, rf G 25, rf G 26, rf G 27, rf G 28, rf G 29, .int (nI (f 7)), .int (nI (f 8)), .int (nI (f 9)), .int (nI (f 10)), .int (nI (f 11)), .int (nI (f 12)), .int (nI (f 13))]) := rfl
theorem ent1 {G : GX} {f : Nat → Nat} : entF G 30 f = .inr (1, [rf G 31, .int (nI (f 1))]) := rfl
theorem ent2 {G : GX} {f : Nat → Nat} : entF G 34 f = .inr (2, [rf G 35, .int (nI (f 1))]) := rfl
theorem ent5 {G : GX} {f : Nat → Nat} : entF G 38 f = .inr (5, [.int (nI (f 0)), rf G 39, rf G 40, rf G 41, rf G 42, rf G 43, rf G 44, rf G 45, rf G 46, rf G 47, rf G 48, rf G 49, rf G 50, rf G 51, .int (nI (f 14)), .int (nI (f 15)), .int (nI (f 16)), rf G 52, .int (nI (f 18)), rf G 53, .int (nI (f 20)), rf G 54, rf G 55, .int (nI (f 23)), rf G 56, rf G 57, rf G 58, rf G 59, .long (lN (f 28)), .long (lN (f 29))]) := rfl
-- what the launch gives and nobody writes: two tables of numbers, the text of six letters
def AA (G : GX) : Nat → Prop := fun q => ∃ k, k < 60 ∧ q = gA G k
def mostN (k : Nat) : Nat := if k = 0 then 40 else if k = 1 then 99 else if k = 2 ∨ k = 3 ∨ k = 4 then 60 else if k = 6 then 1 else if k = 8 then 2 else if k = 9 then 20 else 9
def letN (k : Nat) : Nat := if k = 0 then 111 else if k = 1 then 109 else if k = 2 then 116 else if k = 3 then 100 else if k = 4 then 103 else 113
def Sd (G : GX) (A : Nat → Prop) (U : State) (H : Heap) : Prop :=
  va_Z "TrolleyAtEleven" "MOST_OF_SETTINGS" "[I" (.ref (gA G 60)) A U H ∧ va_T .int (gA G 60) 10 (fun j => .int (nI (mostN j))) A U H ∧
  va_Z "java/lang/String" "COMPACT_STRINGS" "Z" (.int 1) A U H ∧ vk_R "TrolleyAtElevenModel" 97 "omtdgq" (gA G 61) U ∧ va_O "java/lang/String" (gA G 61) A U H ∧
  va_OF "java/lang/String" "coder" "B" (.int 0) (gA G 61) A U H ∧ va_OF "java/lang/String" "value" "[B" (.ref (gA G 62)) (gA G 61) A U H ∧ va_T .byte (gA G 62) 6 (fun j => .int (nI (letN j))) A U H ∧ va_Nw (.fieldLinkNest "TrolleyAtEleven$Reader" 77 "TrolleyAtEleven" "MOST_OF_SETTINGS" "[I" "TrolleyAtEleven") U
theorem Sd.moved {G : GX} {A : Nat → Prop} {u U : State} {H : Heap} (hW : u.WarmedH U.vm) (h : Sd G A u H) : Sd G A U H := by
  obtain ⟨h1, h2, h3, h4, h5, h6, h7, h8, h9⟩ := h
  exact ⟨h1.moved hW.alike, h2.moved hW.alike, h3.moved hW.alike, vk_R.warm hW h4, h5.moved hW.alike, h6.moved hW.alike, h7.moved hW.alike, h8.moved hW.alike, va_Nw.warmF hW h9⟩
theorem Sd.same {G : GX} {A : Nat → Prop} {u U : State} {H : Heap} (hv : U.vm = u.vm) (h : Sd G A u H) : Sd G A U H := by
  obtain ⟨h1, h2, h3, h4, h5, h6, h7, h8, h9⟩ := h
  have ha : u.vm.Alike U.vm := by rw [hv]; exact Vm.Alike.refl _
  exact ⟨h1.moved ha, h2.moved ha, h3.moved ha, vk_R.same hv h4, h5.moved ha, h6.moved ha, h7.moved ha, h8.moved ha, va_Nw.same rfl hv.symm h9⟩
theorem Sd.kept {G : GX} {A : Nat → Prop} {U : State} {H H1 : Heap} (h : Sd G A U H) (hq : ∀ a : Nat, a < H.size → ¬ A a → H1[a]? = H[a]?) : Sd G A U H1 := by
  obtain ⟨h1, h2, h3, h4, h5, h6, h7, h8, h9⟩ := h
  exact ⟨h1.kept hq, h2.kept hq, h3.kept hq, h4, h5.kept hq, h6.kept hq, h7.kept hq, h8.kept hq, h9⟩
theorem Sd.narrow {G : GX} {A B : Nat → Prop} {U : State} {H : Heap} (h : Sd G A U H) (hAB : ∀ q, B q → A q) : Sd G B U H := by
  obtain ⟨h1, h2, h3, h4, h5, h6, h7, h8, h9⟩ := h
  exact ⟨h1.narrow hAB, h2.narrow hAB, h3.narrow hAB, h4, h5.narrow hAB, h6.narrow hAB, h7.narrow hAB, h8.narrow hAB, h9⟩
def Inj (G : GX) : Prop := ∀ i j, i < 60 → j < 60 → gA G i = gA G j → i = j
theorem cells_D {G : GX} {A : Nat → Prop} {μ : Mem} (hI : Inj G) (hA : ∀ k, k < 60 → A (gA G k)) : va_D A (cells G μ) := by
  refine ⟨fun i j p q hi hj hpq => ?_, fun k q hk => ?_⟩
  · have li : i < 60 := by have := (List.getElem?_eq_some_iff.mp hi).1; simpa [cells] using this
    have lj : j < 60 := by have := (List.getElem?_eq_some_iff.mp hj).1; simpa [cells] using this
    rw [cells_at li] at hi
    rw [cells_at lj] at hj
    cases hi
    cases hj
    exact hI i j li lj hpq
  · have lk : k < 60 := by have := (List.getElem?_eq_some_iff.mp hk).1; simpa [cells] using this
    rw [cells_at lk] at hk
    cases hk
    exact hA k lk
/-- the world in a state -/
def Wd (G : GX) (μ : Mem) (U : State) : Prop := va_P (gC G, gI G) vwCl (cells G μ) U.heap ∧ va_K (gC G, gI G) vwCl [(gY G, .int)] U ∧ Sd G (AA G) U U.heap ∧ Inj G
def rmD (d : Nat) : Room := { frames := d, cells := 0, slots := 0, locals := 34 * d }
abbrev MD : Type := MethodName × ByteArray × Nat × Option FieldType
abbrev PO : Type := Option Value → Mem → Prop
def Qp (G : GX) (Post : PO) : Array Value → State → Outcome → State → Prop := fun _ st oc t => (∃ (r : Option Value) (μ' : Mem), oc = .returned r ∧ Post r μ' ∧ Wd G μ' t) ∧ va_F (AA G) st t
/-- THE CONTRACT: the method, from these arguments and this memory, returns, and Post holds of its answer and of the memory then -/
def Ev (G : GX) (md : MD) (d : Nat) (av : List Value) (μ : Mem) (Post : PO) : Prop :=
  Met (gL G) md.1 (Cond.code md.1 md.2.1 md.2.2.1 md.2.2.2 :: WS) (rmD d) (va_Pc av (Wd G μ)) (Qp G Post) 0 0 (AA G)
-- locals: a place holds a value that is known, or none
def lvOK (ls : Array Slot) (nL : Nat) (lv : List (Option Value)) : Prop := ls.size = nL ∧ lv.length = nL ∧ lv_wf ls ∧ ∀ (i : Nat) (v : Value), lv[i]? = some (some v) → ls[i]? = some (.val v)
abbrev XC : Type := Program × Env × Room × State × MethodId × Array Value × List Frame × Method × Code × Nat × (Nat → Prop) × Nat × Nat × (State → Prop)
/-- the machine, at the point pc with these locals, this stack and this memory, comes to the end that X names -/
def J (G : GX) (X : XC) (pc : Nat) (lv : List (Option Value)) (st : List Value) (μ : Mem) : Prop :=
  match X with
  | (p, e, R, s, m, args, below, meth, c, nL, A0, ce, sl, Q) => ∀ (H : Heap) (locs : List Loc) (ls : Array Slot), va_P (gC G, gI G) vwCl (cells G μ) H → va_S A0 s.heap H locs → lvOK ls nL lv → W p (gL G) e R s m args below meth c H locs ce sl Q (F0 m pc ls st)
/-- what holds all through a method's body: its class own, its code cc, d calls of depth to spend -/
def Cx (G : GX) (X : XC) (own : String) (cc : ByteArray) (d : Nat) : Prop :=
  match X with
  | (p, e, R, s, m, args, below, meth, c, nL, A0, ce, sl, Q) => p.tables.exec = Jvm.exec ∧ c.code = cc ∧ c.maxLocals = nL ∧ s.vm.findClass own = some m.cls ∧ (∀ w ∈ WS, w.before args s = true) ∧ va_K (gC G, gI G) vwCl [(gY G, .int)] s ∧ Sd G A0 s s.heap ∧ Inj G ∧ (∀ k, k < 60 → A0 (gA G k)) ∧ d ≤ R.frames ∧ 34 * d ≤ R.locals ∧ ce ≤ R.cells ∧ sl ≤ R.slots
/-- where the body ends: its answer's type, what is asked of it -/
def En (G : GX) (X : XC) (Post : PO) (rt : Option FieldType) : Prop :=
  match X with
  | (p, e, R, s, m, args, below, meth, c, nL, A0, ce, sl, Q) => meth.sig.returnType = rt ∧ meth.locks = false ∧ A0 = AA G ∧ ce = 0 ∧ sl = 0 ∧ Q = MQ below (Qp G Post) args s 0 0 (AA G) ∧ Sd G A0 s s.heap ∧ Inj G ∧ va_K (gC G, gI G) vwCl [(gY G, .int)] s
def pad (av : List Value) (n : Nat) : List (Option Value) := av.map some ++ List.replicate n none
theorem lv_args_at : ∀ (av : List Value) (k : Nat), (∀ v ∈ av, ¬ v.category = 2) → ∀ (i : Nat) (v : Value), av[i]? = some v → (k + i, v) ∈ lv_args k av
  | [], k, _, i, v, h => by simp at h
  | a :: av, k, hc, i, v, h => by
    have ha : ¬ a.category = 2 := hc a List.mem_cons_self
    cases i with
    | zero =>
      rw [List.getElem?_cons_zero] at h
      cases h
      rw [lv_args]
      exact List.mem_cons_self
    | succ i =>
      rw [List.getElem?_cons_succ] at h
      rw [lv_args, if_neg ha]
      have := lv_args_at av (k + 1) (fun v hv => hc v (List.mem_cons_of_mem _ hv)) i v h
      rw [show k + (i + 1) = k + 1 + i by omega]
      exact List.mem_cons_of_mem _ this
theorem lg_sl_len : ∀ (av : List Value), (∀ v ∈ av, ¬ v.category = 2) → (lg_sl av).length = av.length
  | [], _ => rfl
  | a :: av, hc => by
    have ha : ¬ a.category = 2 := hc a List.mem_cons_self
    have := lg_sl_len av (fun v hv => hc v (List.mem_cons_of_mem _ hv))
    simp only [lg_sl] at this
    simp [lg_sl, ha, this]
theorem lvOK_entry {av : List Value} {n : Nat} (hc : ∀ v ∈ av, ¬ v.category = 2) : lvOK ((lg_sl av ++ List.replicate n Slot.unset).toArray) (av.length + n) (pad av n) := by
  have hl := lg_sl_len av hc
  have h := lv_entry av (n := av.length + n) (by omega)
  rw [show av.length + n - (lg_sl av).length = n by omega] at h
  obtain ⟨h1, h2, h3⟩ := h
  refine ⟨h1, by simp [pad], h2, fun i v hi => ?_⟩
  by_cases hlt : i < av.length
  · have : av[i]? = some v := by
      rw [pad, List.getElem?_append_left (by simpa using hlt), List.getElem?_map] at hi
      cases e : av[i]? with
      | none => rw [e] at hi; cases hi
      | some w => rw [e] at hi; simp at hi; rw [hi]
    have h4 := h3 (i, v) (by simpa using lv_args_at av 0 hc i v this)
    exact h4
  · rw [pad, List.getElem?_append_right (by simpa using hlt)] at hi
    have := List.eq_of_mem_replicate (List.mem_of_getElem? hi)
    cases this
/-- a contract, out of the body's walk -/
theorem Ev.of {G : GX} {y : MethodName} {cc : ByteArray} {nL n d : Nat} {ret : Option FieldType} {av : List Value} {μ : Mem} {Post : PO} {own : String} (hy : plainName y.cls = true) (hown : y.cls = own) (hn : nL = av.length + n) (hc : ∀ v ∈ av, ¬ v.category = 2)
    (body : ∀ X : XC, Cx G X own cc d → En G X Post ret → J G X 0 (pad av n) [] μ) : Ev G (y, cc, nL, ret) d av μ Post := by
  refine Met.ofW (cc := cc) (maxL := nL) (ret := ret) hy rfl ?_
  intro p e s m args below meth c s₁ B hml hv
  obtain ⟨rfl, hP, hK, hSd, hI⟩ := hv
  have hts : ∀ w ∈ WS, w.before av.toArray s = true := fun w h => atoms_spec (ws := Cond.code y cc nL ret :: WS) B.pre w (List.mem_cons_of_mem _ h)
  have h0 : J G (p, e, rmD d, s, m, av.toArray, below, meth, c, nL, AA G, 0, 0, MQ below (Qp G Post) av.toArray s 0 0 (AA G)) 0 (pad av n) [] μ := by
    refine body _ ⟨B.exec, B.bytes, hml, ?_, hts, hK, hSd, hI, fun k hk => ⟨k, hk, rfl⟩, Nat.le_refl _, Nat.le_refl _, Nat.zero_le _, Nat.zero_le _⟩ ⟨B.returns, B.notSynchronized, rfl, rfl, rfl, rfl, hSd, hI, hK⟩
    rw [← hown]
    exact findClass_of_methodNamed B.named
  rw [lg_entry_eq]
  subst hn
  have hlen := lg_sl_len av hc
  rw [show av.length + n - (lg_sl av).length = n by omega]
  exact h0 s.heap [] _ hP va_S.rf (lvOK_entry hc)
