-- WHAT MAKES OBJECTS: words; a judgement over cells that are told one by one
theorem oIn : Cond.instanceMethod Lib.objectInit ∈ WS := wt1 20 rfl rfl
theorem oCo : Cond.code Lib.objectInit ⟨#[0xb1]⟩ 1 none ∈ WS := wt1 21 rfl rfl
theorem oX4 : Cond.methodLink RX4 1 Lib.objectInit ∈ WS := wt1 19 rfl rfl
theorem oX0 : Cond.methodLink RX0 3 Lib.objectInit ∈ WS := wt1 27 rfl rfl
theorem oX3 : Cond.methodLink RX3 3 Lib.objectInit ∈ WS := wt1 73 rfl rfl
theorem oX1 : Cond.methodLink RX1 3 Lib.objectInit ∈ WS := wt1 129 rfl rfl
theorem oX2 : Cond.methodLink RX2 3 Lib.objectInit ∈ WS := wt1 143 rfl rfl
theorem oX5 : Cond.methodLink RX5 1 Lib.objectInit ∈ WS := wt3 62 rfl rfl
theorem kL_7 : Cond.classLink RL 7 RX4 ∈ WS := wt1 14 rfl rfl
theorem kL_10 : Cond.classLink RL 10 RX5 ∈ WS := wt3 57 rfl rfl
theorem kX4_7 : Cond.classLink RX4 7 RX0 ∈ WS := wt1 22 rfl rfl
theorem kX4_26 : Cond.classLink RX4 26 RX3 ∈ WS := wt1 68 rfl rfl
theorem kX4_33 : Cond.classLink RX4 33 RX1 ∈ WS := wt1 124 rfl rfl
theorem kX4_47 : Cond.classLink RX4 47 RX2 ∈ WS := wt1 138 rfl rfl
theorem iX4 : Cond.instantiable RX4 12 ∈ WS := wt1 15 rfl rfl
theorem iX0 : Cond.instantiable RX0 7 ∈ WS := wt1 23 rfl rfl
theorem iX3 : Cond.instantiable RX3 14 ∈ WS := wt1 69 rfl rfl
theorem iX1 : Cond.instantiable RX1 2 ∈ WS := wt1 125 rfl rfl
theorem iX2 : Cond.instantiable RX2 2 ∈ WS := wt1 139 rfl rfl
theorem iX5 : Cond.instantiable RX5 30 ∈ WS := wt3 58 rfl rfl
abbrev mX4_init : MD := (yX4_init, cX4_init, 1, none)
abbrev mX0_init : MD := (yX0_init, cX0_init, 1, none)
abbrev mX3_init : MD := (yX3_init, cX3_init, 1, none)
abbrev mX1_init : MD := (yX1_init, cX1_init, 1, none)
abbrev mX2_init : MD := (yX2_init, cX2_init, 1, none)
abbrev mX5_init : MD := (yX5_init, cX5_init, 1, none)
/-- what a call of a constructor asks of the words -/
def MyI (md : MD) : Prop := Cond.instanceMethod md.1 ∈ WS ∧ Cond.initialized md.1.cls ∈ WS ∧ Cond.code md.1 md.2.1 md.2.2.1 none ∈ WS ∧ md.1.name = "<init>" ∧ md.2.2.2 = none ∧ (md.1.cls ≠ "java/lang/invoke/MethodHandle" ∧ md.1.cls ≠ "java/lang/invoke/VarHandle" ∧ (parseMethodDescriptor md.1.desc).map (fun d => d.parameters.length) = some 0) ∧ md.2.2.1 ≤ 15
theorem myX4_init : MyI mX4_init := ⟨wt1 17 rfl rfl, nX4, wt1 18 rfl rfl, rfl, rfl, by decide +kernel, by decide⟩
theorem myX0_init : MyI mX0_init := ⟨wt1 25 rfl rfl, nX0, wt1 26 rfl rfl, rfl, rfl, by decide +kernel, by decide⟩
theorem myX3_init : MyI mX3_init := ⟨wt1 71 rfl rfl, nX3, wt1 72 rfl rfl, rfl, rfl, by decide +kernel, by decide⟩
theorem myX1_init : MyI mX1_init := ⟨wt1 127 rfl rfl, nX1, wt1 128 rfl rfl, rfl, rfl, by decide +kernel, by decide⟩
theorem myX2_init : MyI mX2_init := ⟨wt1 141 rfl rfl, nX2, wt1 142 rfl rfl, rfl, rfl, by decide +kernel, by decide⟩
theorem myX5_init : MyI mX5_init := ⟨wt3 60 rfl rfl, nX5, wt3 61 rfl rfl, rfl, rfl, by decide +kernel, by decide⟩
theorem aCl : Cond.arrayClass .int ∈ WS := wt1 67 rfl rfl
def setN (k : Nat) : Nat := if k = 0 then 40 else if k = 1 then 90 else if k = 2 ∨ k = 3 ∨ k = 4 then 10 else if k = 5 then 4 else if k = 7 ∨ k = 8 then 1 else 0
/-- the classes' numbers, the rows' class, the table of first settings -/
abbrev DN : Type := (Nat → ClassId) × (Nat → Nat → Nat) × ClassId × Nat
def gD (g : DN) : va_G := (g.1, g.2.1)
def gT (g : DN) : List (ClassId × FieldType) := [(g.2.2.1, .int)]
def ar (g : DN) (n : Nat) (f : Nat → Int32) : va_E := .inl (g.2.2.1, n, .inl f)
def zz0 : Nat → Int32 := fun _ => 0
def StN (g : DN) (A : Nat → Prop) (U : State) (H : Heap) : Prop :=
  va_Z "TrolleyAtEleven" "SETTINGS_AT_FIRST" "[I" (.ref g.2.2.2) A U H ∧ va_T .int g.2.2.2 10 (fun j => .int (nI (setN j))) A U H ∧ va_Nw (.fieldLinkNest "TrolleyAtEleven$House" 31 "TrolleyAtEleven" "SETTINGS_AT_FIRST" "[I" "TrolleyAtEleven") U ∧ va_Nw (.methodLinkNest RX4 28 yX3_init "TrolleyAtEleven") U ∧ va_Nw (.methodLinkNest RX4 35 yX1_init "TrolleyAtEleven") U ∧ va_Nw (.methodLinkNest RX4 49 yX2_init "TrolleyAtEleven") U
theorem StN.moved {g : DN} {A : Nat → Prop} {u U : State} {H : Heap} (hW : u.WarmedH U.vm) (h : StN g A u H) : StN g A U H := by
  obtain ⟨h1, h2, h3, h4, h5, h6⟩ := h
  exact ⟨h1.moved hW.alike, h2.moved hW.alike, va_Nw.warmF hW h3, va_Nw.warmM hW h4, va_Nw.warmM hW h5, va_Nw.warmM hW h6⟩
theorem StN.same {g : DN} {A : Nat → Prop} {u U : State} {H : Heap} (hv : U.vm = u.vm) (h : StN g A u H) : StN g A U H := by
  obtain ⟨h1, h2, h3, h4, h5, h6⟩ := h
  have ha : u.vm.Alike U.vm := by rw [hv]; exact Vm.Alike.refl _
  exact ⟨h1.moved ha, h2.moved ha, va_Nw.same rfl hv.symm h3, va_Nw.same rfl hv.symm h4, va_Nw.same rfl hv.symm h5, va_Nw.same rfl hv.symm h6⟩
theorem StN.kept {g : DN} {A : Nat → Prop} {U : State} {H H1 : Heap} (h : StN g A U H) (hq : ∀ a : Nat, a < H.size → ¬ A a → H1[a]? = H[a]?) : StN g A U H1 := by
  obtain ⟨h1, h2, h3⟩ := h
  exact ⟨h1.kept hq, h2.kept hq, h3⟩
theorem StN.narrow {g : DN} {A B : Nat → Prop} {U : State} {H : Heap} (h : StN g A U H) (hAB : ∀ q, B q → A q) : StN g B U H := by
  obtain ⟨h1, h2, h3⟩ := h
  exact ⟨h1.narrow hAB, h2.narrow hAB, h3⟩
def WdN (g : DN) (A : Nat → Prop) (ws : va_W) (U : State) : Prop := va_P (gD g) vwCl ws U.heap ∧ va_K (gD g) vwCl (gT g) U ∧ va_D A ws
/-- A CONSTRUCTOR'S CONTRACT: from the fresh object alone it leaves the cells w with Post w -/
def EvN (l : Launch) (g : DN) (md : MD) (d mc ms h0 ci : Nat) (fs0 : List Value) (Post : va_W → Prop) : Prop :=
  ∀ sz : Nat, Met l md.1 (Cond.code md.1 md.2.1 md.2.2.1 none :: WS) { frames := d, cells := mc, slots := ms, locals := 34 * d } (va_Pc [.ref h0] (fun U => U.heap.size = sz ∧ va_P (gD g) vwCl [(h0, .inr (ci, fs0))] U.heap ∧ va_K (gD g) vwCl (gT g) U ∧ va_D (fun _ => True) [(h0, .inr (ci, fs0))] ∧ StN g (va_A [(h0, .inr (ci, fs0))] sz) U U.heap)) (va_Qv (fun w : va_W => Post w) (fun w t => WdN g (va_A [(h0, .inr (ci, fs0))] sz) w t) (va_A [(h0, .inr (ci, fs0))] sz)) mc ms (va_A [(h0, .inr (ci, fs0))] sz)
def JN (l : Launch) (g : DN) (X : XC) (pc : Nat) (lv : List (Option Value)) (st : List Value) (ws : va_W) (ce sl : Nat) : Prop :=
  match X with
  | (p, e, R, s, m, args, below, meth, c, nL, A0, _, _, Q) => ∀ (H : Heap) (locs : List Loc) (ls : Array Slot), va_P (gD g) vwCl ws H → va_D A0 ws → va_S A0 s.heap H locs → lvOK ls nL lv → W p l e R s m args below meth c H locs ce sl Q (F0 m pc ls st)
def CN (g : DN) (X : XC) (own : String) (cc : ByteArray) (d mc ms : Nat) : Prop :=
  match X with
  | (p, e, R, s, m, args, below, meth, c, nL, A0, _, _, Q) => p.tables.exec = Jvm.exec ∧ c.code = cc ∧ c.maxLocals = nL ∧ s.vm.findClass own = some m.cls ∧ (∀ w ∈ WS, w.before args s = true) ∧ va_K (gD g) vwCl (gT g) s ∧ (∀ q : Nat, s.heap.size ≤ q → A0 q) ∧ StN g A0 s s.heap ∧ d ≤ R.frames ∧ 34 * d ≤ R.locals ∧ mc ≤ R.cells ∧ ms ≤ R.slots
def InN (X : XC) : Prop :=
  match X with
  | (p, e, R, s, m, args, below, meth, c, nL, A0, _, _, Q) => meth.name = "<init>"
def EnN (g : DN) (X : XC) (mc ms : Nat) (Post : va_W → Prop) : Prop :=
  match X with
  | (p, e, R, s, m, args, below, meth, c, nL, A0, _, _, Q) => meth.sig.returnType = none ∧ meth.locks = false ∧ Q = MQ below (va_Qv (fun w : va_W => Post w) (fun w t => WdN g A0 w t) A0) args s mc ms A0 ∧ va_K (gD g) vwCl (gT g) s
theorem EvN.of {l : Launch} {g : DN} {md : MD} {d mc ms h0 ci : Nat} {fs0 : List Value} {Post : va_W → Prop} {own : String} (hy : plainName md.1.cls = true) (hown : md.1.cls = own) (hn : md.2.2.1 = 1)
    (body : ∀ X : XC, CN g X own md.2.1 d mc ms → InN X → EnN g X mc ms Post → (md.1.name = "<init>" → True) → JN l g X 0 [some (.ref h0)] [] [(h0, .inr (ci, fs0))] 0 0) (hname : md.1.name = "<init>") : EvN l g md d mc ms h0 ci fs0 Post := by
  intro sz
  obtain ⟨y, cc, nL, rt⟩ := md
  have hn' : nL = 1 := hn
  subst hn'
  refine Met.ofW (cc := cc) (maxL := 1) (ret := none) hy rfl ?_
  intro p e s m args below meth c s₁ B hml hv
  obtain ⟨rfl, hsz, hP, hK, hD0, hSt⟩ := hv
  subst hsz
  have hts : ∀ w ∈ WS, w.before [Value.ref h0].toArray s = true := fun w h => atoms_spec (ws := Cond.code y cc 1 none :: WS) B.pre w (List.mem_cons_of_mem _ h)
  have hD := hD0.self (sz := s.heap.size)
  have hj : JN l g (p, e, { frames := d, cells := mc, slots := ms, locals := 34 * d }, s, m, [Value.ref h0].toArray, below, meth, c, 1, va_A [(h0, .inr (ci, fs0))] s.heap.size, 0, 0, MQ below (va_Qv (fun w : va_W => Post w) (fun w t => WdN g (va_A [(h0, .inr (ci, fs0))] s.heap.size) w t) (va_A [(h0, .inr (ci, fs0))] s.heap.size)) [Value.ref h0].toArray s mc ms (va_A [(h0, .inr (ci, fs0))] s.heap.size)) 0 [some (.ref h0)] [] [(h0, .inr (ci, fs0))] 0 0 := by
    refine body _ ⟨B.exec, B.bytes, hml, ?_, hts, hK, fun q h => Or.inr h, hSt, Nat.le_refl _, Nat.le_refl _, Nat.le_refl _, Nat.le_refl _⟩ ?_ ⟨B.returns, B.notSynchronized, rfl, hK⟩ (fun _ => trivial)
    · rw [← hown]
      exact findClass_of_methodNamed B.named
    · exact (name_of_methodNamed B.named B.method).1.trans hname
  rw [lg_entry_eq]
  exact hj s.heap [] _ hP hD va_S.rf (lvOK_entry (av := [.ref h0]) (n := 0) (catOK rfl))
section NROWS
variable {l : Launch} {g : DN} {X : XC} {own : String} {cc : ByteArray} {d mc ms pc ce sl : Nat} {lv : List (Option Value)} {st : List Value} {ws : va_W}
theorem n_aload {i : Fin 4} {x : Nat} (C : CN g X own cc d mc ms) (hd : decode cc pc = .ok (.aload_n i, 1)) (hv : lv[(i : Nat)]? = some (some (.ref x))) (k : JN l g X (pc + 1) lv (.ref x :: st) ws ce sl) : JN l g X pc lv st ws ce sl := by
  obtain ⟨p, e, R, s, m, args, below, meth, c, nL, A0, c0, s0, Q⟩ := X
  obtain ⟨hx, hb, hml, hown, hts, hK, hA, hSt, hdf, hdl, hmc, hms⟩ := C
  intro H locs ls hP hD hS hl
  exact lv_aload_n hx hb hd rfl (hl.2.2.2 _ _ hv) (k H locs ls hP hD hS hl)
theorem n_astore {i : Fin 4} {x : Nat} (C : CN g X own cc d mc ms) (hd : decode cc pc = .ok (.astore_n i, 1)) (hi : (i : Nat) < lv.length) (hn : noL lv i = true) (k : JN l g X (pc + 1) (lv.set i (some (.ref x))) st ws ce sl) : JN l g X pc lv (.ref x :: st) ws ce sl := by
  obtain ⟨p, e, R, s, m, args, below, meth, c, nL, A0, c0, s0, Q⟩ := X
  obtain ⟨hx, hb, hml, hown, hts, hK, hA, hSt, hdf, hdl, hmc, hms⟩ := C
  intro H locs ls hP hD hS hl
  exact lv_astore_n hx hb hd rfl hl.has (by rw [← hl.2.1]; exact hi) rfl (fun ls2 hl2 => k H locs ls2 hP hD hS (lvOK.store hl.2.1 hl2 (noL_ok hn) (by rw [← hl.2.1]; exact hi)))
theorem n_iconst {n : Int} {v : Int32} (C : CN g X own cc d mc ms) (hd : decode cc pc = .ok (.iconst n, 1)) (hv : Int32.ofInt n = v) (k : JN l g X (pc + 1) lv (.int v :: st) ws ce sl) : JN l g X pc lv st ws ce sl := by
  obtain ⟨p, e, R, s, m, args, below, meth, c, nL, A0, c0, s0, Q⟩ := X
  obtain ⟨hx, hb, hml, hown, hts, hK, hA, hSt, hdf, hdl, hmc, hms⟩ := C
  intro H locs ls hP hD hS hl
  exact lv_iconst hx hb hd hv (k H locs ls hP hD hS hl)
theorem n_bipush {n : Int} {v : Int32} (C : CN g X own cc d mc ms) (hd : decode cc pc = .ok (.bipush n, 2)) (hv : (Int8.ofInt n).toInt32 = v) (k : JN l g X (pc + 2) lv (.int v :: st) ws ce sl) : JN l g X pc lv st ws ce sl := by
  obtain ⟨p, e, R, s, m, args, below, meth, c, nL, A0, c0, s0, Q⟩ := X
  obtain ⟨hx, hb, hml, hown, hts, hK, hA, hSt, hdf, hdl, hmc, hms⟩ := C
  intro H locs ls hP hD hS hl
  exact lv_bipush hx hb hd hv (k H locs ls hP hD hS hl)
theorem n_dup {v : Value} (C : CN g X own cc d mc ms) (hd : decode cc pc = .ok (.dup, 1)) (hc : v.category = 1) (k : JN l g X (pc + 1) lv (v :: v :: st) ws ce sl) : JN l g X pc lv (v :: st) ws ce sl := by
  obtain ⟨p, e, R, s, m, args, below, meth, c, nL, A0, c0, s0, Q⟩ := X
  obtain ⟨hx, hb, hml, hown, hts, hK, hA, hSt, hdf, hdl, hmc, hms⟩ := C
  intro H locs ls hP hD hS hl
  exact lv_dup hx hb hd hc (k H locs ls hP hD hS hl)
theorem n_obj {ix a : Nat} (C : CN g X own cc d mc ms) (hd : decode cc pc = .ok (.invokespecial ix, 3)) (hl1 : Cond.methodLink own ix Lib.objectInit ∈ WS) (hd1 : 1 ≤ d) (hst : (st.map fun v => v.category).sum ≤ 8) (k : JN l g X (pc + 3) lv st ws ce sl) : JN l g X pc lv (.ref a :: st) ws ce sl := by
  obtain ⟨p, e, R, s, m, args, below, meth, c, nL, A0, c0, s0, Q⟩ := X
  obtain ⟨hx, hb, hml, hown, hts, hK, hA, hSt, hdf, hdl, hmc, hms⟩ := C
  intro H locs ls hP hD hS hl
  refine W.objInit hx hb hown (hts _ hl1) (hts _ oIn) (hts _ oCo) rfl (by rw [hml]; exact hl.1) rfl hd (by omega) (by show 2 * 0 + _ + 12 ≤ _; omega) ?_
  exact W.eq (g2 := F0 m (pc + 3) ls st) rfl (k H locs ls hP hD hS hl)
theorem n_newa {N : Nat} (C : CN g X own cc d mc ms) (hd : decode cc pc = .ok (.newarray .int, 2)) (hN : N < 2 ^ 20) (hce : ce + 1 ≤ mc) (hsl : sl + N ≤ ms) (k : ∀ q : Nat, JN l g X (pc + 2) lv (.ref q :: st) (ws ++ [(q, ar g N zz0)]) (ce + 1) (sl + N)) : JN l g X pc lv (.int (nI N) :: st) ws ce sl := by
  obtain ⟨p, e, R, s, m, args, below, meth, c, nL, A0, c0, s0, Q⟩ := X
  obtain ⟨hx, hb, hml, hown, hts, hK, hA, hSt, hdf, hdl, hmc, hms⟩ := C
  intro H locs ls hP hD hS hl
  refine va_newa (atype := .int) hx hb (hts _ aCl) rfl hK hP hD hS hA (a0 := (N, .inl zz0)) (fun _ => rfl) (Int32.not_lt.mpr (nI_0le (by omega))) (nI_clamp (by omega)) ?_ (by omega) (by omega) hd (fun q cA H1 hK1 hP1 hD1 hS1 => ?_)
  · show N * 4 ≤ 536870912
    omega
  · have e1 : s.vm.findClass ("[" ++ FieldType.int.toString) = some cA := (hK1.2 1 (cA, .int) rfl).2
    have e2 : s.vm.findClass ("[" ++ FieldType.int.toString) = some g.2.2.1 := (hK.2 0 (g.2.2.1, .int) rfl).2
    have e3 : cA = g.2.2.1 := Option.some.inj (e1.symm.trans e2)
    subst e3
    exact k q H1 locs ls hP1 hD1 hS1 hl
theorem n_new {Cn : String} {T : u_T} {N ci ix : Nat} {ty : Nat → FieldType} {fs : List Value} (C : CN g X own cc d mc ms) (hd : decode cc pc = .ok (.new ix, 3)) (hin : ∀ w ∈ u_ws Cn T N, w ∈ WS) (hty : ∀ k, k < N → parseFieldDescriptor (T k).2.2.1 = some (ty k)) (hcl : Cond.classLink own ix Cn ∈ WS) (hinst : Cond.instantiable Cn N ∈ WS) (hini : Cond.initialized Cn ∈ WS) (hc : vwCl[ci]? = some (Cn, T, N)) (hfs : ∀ j, j < N → defaultValue (ty j) = vp_V fs j) (hce : ce + 1 ≤ mc) (hsl : sl + N ≤ ms) (k : ∀ q : Nat, JN l g X (pc + 3) lv (.ref q :: st) (ws ++ [(q, .inr (ci, fs))]) (ce + 1) (sl + N)) : JN l g X pc lv st ws ce sl := by
  obtain ⟨p, e, R, s, m, args, below, meth, c, nL, A0, c0, s0, Q⟩ := X
  obtain ⟨hx, hb, hml, hown, hts, hK, hA, hSt, hdf, hdl, hmc, hms⟩ := C
  intro H locs ls hP hD hS hl
  exact va_new hx hb hts hin ty hty hown (hts _ hcl) (hts _ hinst) (hts _ hini) hK hP hD hS hA hc hfs (by omega) (by omega) hd (fun q H1 hP1 hD1 hS1 => k q H1 locs ls hP1 hD1 hS1 hl)
theorem n_putF {ref Cn : String} {T : u_T} {N ci ix a i : Nat} {fs : List Value} {v : Value} {ty : FieldType} {t0 : Nat → FieldType} (C : CN g X own cc d mc ms) (I : InN X) (hd : decode cc pc = .ok (.putfield ix, 3)) (hin : ∀ w ∈ u_ws Cn T N, w ∈ WS) (hty : ∀ k, k < N → parseFieldDescriptor (T k).2.2.1 = some (t0 k)) (hnm : ∀ a, a < N → ∀ b, b < N → a ≠ b → (T a).2.1 ≠ (T b).2.1) (hc : vwCl[ci]? = some (Cn, T, N)) (he : ws[i]? = some (a, .inr (ci, fs))) (f : Nat) (hf : f < N) (hlink : Cond.fieldLink own ix ref (T f).2.1 (T f).2.2.1 ∈ WS) (href : (T f).1 = ref) (hfin : (T f).2.2.2 = true) (hdecl : (T f).1 = own) (hdt : parseFieldDescriptor (T f).2.2.1 = some ty) (hnr : narrow ty v = v) (hfit : fits ty v = true) (hlen : f < fs.length) (k : JN l g X (pc + 3) lv st (ws.set i (a, .inr (ci, fs.set f v))) ce sl) : JN l g X pc lv (v :: .ref a :: st) ws ce sl := by
  obtain ⟨p, e, R, s, m, args, below, meth, c, nL, A0, c0, s0, Q⟩ := X
  obtain ⟨hx, hb, hml, hown, hts, hK, hA, hSt, hdf, hdl, hmc, hms⟩ := C
  intro H locs ls hP hD hS hl
  exact va_putF (D := gD g) hx hb hts hin t0 hty hnm hown hK hP hD hS i he hc f hf (hts _ hlink) (fun x h => by rw [← href]; exact h) hfin I hdecl hdt hnr hfit hlen hd (fun H1 locs1 hP1 hD1 hS1 => k H1 locs1 ls hP1 hD1 hS1 hl)
theorem n_put {ref Cn : String} {T : u_T} {N ci ix a i : Nat} {fs : List Value} {v : Value} {ty : FieldType} {t0 : Nat → FieldType} (C : CN g X own cc d mc ms) (hd : decode cc pc = .ok (.putfield ix, 3)) (hin : ∀ w ∈ u_ws Cn T N, w ∈ WS) (hty : ∀ k, k < N → parseFieldDescriptor (T k).2.2.1 = some (t0 k)) (hnm : ∀ a, a < N → ∀ b, b < N → a ≠ b → (T a).2.1 ≠ (T b).2.1) (hc : vwCl[ci]? = some (Cn, T, N)) (he : ws[i]? = some (a, .inr (ci, fs))) (f : Nat) (hf : f < N) (hlink : Cond.fieldLink own ix ref (T f).2.1 (T f).2.2.1 ∈ WS) (href : (T f).1 = ref) (hfin : (T f).2.2.2 = false) (hdt : parseFieldDescriptor (T f).2.2.1 = some ty) (hnr : narrow ty v = v) (hfit : fits ty v = true) (hlen : f < fs.length) (k : JN l g X (pc + 3) lv st (ws.set i (a, .inr (ci, fs.set f v))) ce sl) : JN l g X pc lv (v :: .ref a :: st) ws ce sl := by
  obtain ⟨p, e, R, s, m, args, below, meth, c, nL, A0, c0, s0, Q⟩ := X
  obtain ⟨hx, hb, hml, hown, hts, hK, hA, hSt, hdf, hdl, hmc, hms⟩ := C
  intro H locs ls hP hD hS hl
  exact va_put hx hb hts hin t0 hty hnm hown hK hP hD hS i he hc f hf (hts _ hlink) (fun x h => by rw [← href]; exact h) hfin hdt hnr hfit hlen hd (fun H1 locs1 hP1 hD1 hS1 => k H1 locs1 ls hP1 hD1 hS1 hl)
theorem n_get {ref Cn : String} {T : u_T} {N ci ix a i : Nat} {fs : List Value} {v : Value} (C : CN g X own cc d mc ms) (hd : decode cc pc = .ok (.getfield ix, 3)) (hin : ∀ w ∈ u_ws Cn T N, w ∈ WS) (hc : vwCl[ci]? = some (Cn, T, N)) (he : ws[i]? = some (a, .inr (ci, fs))) (f : Nat) (hf : f < N) (hlink : Cond.fieldLink own ix ref (T f).2.1 (T f).2.2.1 ∈ WS) (href : (T f).1 = ref) (hv : fs[f]? = some v) (k : JN l g X (pc + 3) lv (v :: st) ws ce sl) : JN l g X pc lv (.ref a :: st) ws ce sl := by
  obtain ⟨p, e, R, s, m, args, below, meth, c, nL, A0, c0, s0, Q⟩ := X
  obtain ⟨hx, hb, hml, hown, hts, hK, hA, hSt, hdf, hdl, hmc, hms⟩ := C
  intro H locs ls hP hD hS hl
  exact va_get hx hb hts hin hown hK hP i he hc f hf (hts _ hlink) (fun x h => by rw [← href]; exact h) hv hd (k H locs ls hP hD hS hl)
theorem n_iast {a i N j : Nat} {f : Nat → Int32} {x : Int32} (C : CN g X own cc d mc ms) (hd : decode cc pc = .ok (.iastore, 1)) (he : ws[i]? = some (a, ar g N f)) (hj : j < N) (hN : N < 2 ^ 20) (k : JN l g X (pc + 1) lv st (ws.set i (a, ar g N (upd f j x))) ce sl) : JN l g X pc lv (.int x :: .int (nI j) :: .ref a :: st) ws ce sl := by
  obtain ⟨p, e, R, s, m, args, below, meth, c, nL, A0, c0, s0, Q⟩ := X
  obtain ⟨hx, hb, hml, hown, hts, hK, hA, hSt, hdf, hdl, hmc, hms⟩ := C
  intro H locs ls hP hD hS hl
  refine va_iast hx hb hK hP hD hS i 0 he rfl (vp_in_nI hj (by omega)) hd (fun H1 locs1 hP1 hD1 hS1 => ?_)
  rw [nI_clamp (by omega)] at hP1 hD1
  exact k H1 locs1 ls hP1 hD1 hS1 hl
theorem n_alen {a i N : Nat} {f : Nat → Int32} (C : CN g X own cc d mc ms) (hd : decode cc pc = .ok (.arraylength, 1)) (he : ws[i]? = some (a, ar g N f)) (k : JN l g X (pc + 1) lv (.int (nI N) :: st) ws ce sl) : JN l g X pc lv (.ref a :: st) ws ce sl := by
  obtain ⟨p, e, R, s, m, args, below, meth, c, nL, A0, c0, s0, Q⟩ := X
  obtain ⟨hx, hb, hml, hown, hts, hK, hA, hSt, hdf, hdl, hmc, hms⟩ := C
  intro H locs ls hP hD hS hl
  exact va_alen hx hb hK hP i 0 he rfl rfl hd (k H locs ls hP hD hS hl)
theorem n_getSet (C : CN g X own cc d mc ms) (ho : own = "TrolleyAtEleven$House") (hd : decode cc pc = .ok (.getstatic 31, 3)) (k : JN l g X (pc + 3) lv (.ref g.2.2.2 :: st) ws ce sl) : JN l g X pc lv st ws ce sl := by
  obtain ⟨p, e, R, s, m, args, below, meth, c, nL, A0, c0, s0, Q⟩ := X
  obtain ⟨hx, hb, hml, hown, hts, hK, hA, hSt, hdf, hdl, hmc, hms⟩ := C
  intro H locs ls hP hD hS hl
  subst ho
  exact va_getsN hx hb hSt.1 hS hown (va_Nw.use (A := args) rfl hSt.2.2.1) (fun x h => h) hd (k H locs ls hP hD hS hl)
theorem n_setLen (C : CN g X own cc d mc ms) (hd : decode cc pc = .ok (.arraylength, 1)) (k : JN l g X (pc + 1) lv (.int (nI 10) :: st) ws ce sl) : JN l g X pc lv (.ref g.2.2.2 :: st) ws ce sl := by
  obtain ⟨p, e, R, s, m, args, below, meth, c, nL, A0, c0, s0, Q⟩ := X
  obtain ⟨hx, hb, hml, hown, hts, hK, hA, hSt, hdf, hdl, hmc, hms⟩ := C
  intro H locs ls hP hD hS hl
  obtain ⟨cell, h1, h2, h3, h4, h5, h6, h7⟩ := hSt.2.1.kept hS.2.1
  exact W.alen (n := nI 10) hx hb h1 h2 h5 rfl rfl hd (k H locs ls hP hD hS hl)
theorem n_ret {Post : va_W → Prop} (C : CN g X own cc d mc ms) (E : EnN g X mc ms Post) (hd : decode cc pc = .ok (.return_, 1)) (hce : ce ≤ mc) (hsl : sl ≤ ms) (h : Post ws) : JN l g X pc lv [] ws ce sl := by
  obtain ⟨p, e, R, s, m, args, below, meth, c, nL, A0, c0, s0, Q⟩ := X
  obtain ⟨hx, hb, hml, hown, hts, hK, hA, hSt, hdf, hdl, hmc, hms⟩ := C
  obtain ⟨hr, hlocks, rfl, -⟩ := E
  intro H locs ls hP hD hS hl
  refine W.widen (k := mc) (n := ms) hce hsl ?_
  exact W.vret hx hb hr (fun t ht hW => ⟨⟨ws, rfl, h, by rw [ht]; exact hP, va_K.moved hW.alike hK, hD⟩, hS.F ht⟩) hS.2.2 hd
theorem n_call {md : MD} {d' mc' ms' ix q ci : Nat} {fs0 : List Value} {Post : va_W → Prop} {wr : va_W} (C : CN g X own cc d mc ms) (hd : decode cc pc = .ok (.invokespecial ix, 3)) (hlk : Cond.methodLink own ix md.1 ∈ WS) (hm : MyI md) (hE : EvN l g md d' mc' ms' q ci fs0 Post) (hdd : d' + 1 ≤ d) (iq : Nat) (isR : List Nat) (hq : ws[iq]? = some (q, .inr (ci, fs0))) (hR : isR.map (fun i => ws[i]?) = wr.map some) (hn : va_nd isR = true) (hdis : iq ∉ isR) (hce : ce + mc' ≤ mc) (hsl : sl + ms' ≤ ms) (hst : (st.map fun v => v.category).sum ≤ 8)
    (k : ∀ w1, Post w1 → JN l g X (pc + 3) lv st (wr ++ w1) (ce + mc') (sl + ms')) : JN l g X pc lv (.ref q :: st) ws ce sl := by
  obtain ⟨p, e, R, s, m, args, below, meth, c, nL, A0, c0, s0, Q⟩ := X
  obtain ⟨hx, hb, hml, hown, hts, hK, hA, hSt, hdf, hdl, hmc, hms⟩ := C
  intro H locs ls hP hD hS hl
  obtain ⟨y, by_, nl, rt⟩ := md
  obtain ⟨m1, m2, m3, m4, m5, m6, m7⟩ := hm
  have hC1 : [iq].map (fun i => ws[i]?) = ([(q, .inr (ci, fs0))] : va_W).map some := by simp [hq]
  have hPc := hP.sub (ws' := [(q, .inr (ci, fs0))]) [iq] (by simp [hq])
  have hDc := hD.sub (ws' := [(q, .inr (ci, fs0))]) [iq] (by simp [va_nd]) hC1
  have hFc := va_free (wc := [(q, .inr (ci, fs0))]) hD hS hA [iq] hC1
  have hStc := (hSt.kept hS.2.1).narrow hFc
  refine va_callv (va_runI (As := []) (rest := st) ⟨hx, hb, hml, hown, hts⟩ (hE H.size) (cwI 0 hts (good_ws ?_ (fun _ h => h)) rfl rfl rfl (hts _ m2) (hts _ hlk) (hts _ m1) m4 m6 ⟨?_, ?_⟩) ⟨fun a U g9 mk q9 => by obtain ⟨q0, q1, qP, qK, qD, qS⟩ := q9; exact ⟨q0, q1, qP, va_K.moved (u := U) (U := U.calling g9 mk a) (Vm.Alike.refl U.vm) qK, qD, StN.same (u := U) (U := U.calling g9 mk a) rfl qS⟩, fun U hU hW => ⟨rfl, by rw [hU], by rw [hU]; exact hPc, va_K.moved hW.alike hK, hDc.weaken (fun _ _ _ _ => trivial), by rw [hU]; exact hStc.moved hW⟩⟩ rfl rfl hl.1 rfl (lv_room hst) hd ⟨by omega, by omega⟩) hS (fun q _ h => hFc q h) hFc (fun u t H1 locs1 ht hvm hw hB hz1 hk1 hS1 => ?_)
  · intro w hw
    rcases List.mem_cons.mp hw with rfl | h
    · exact m3
    · exact h
  · show d' + 1 ≤ R.frames
    omega
  · have m7' : nl ≤ 15 := m7
    show 8 + (nl + 11) + 34 * d' ≤ R.locals
    omega
  · obtain ⟨hP1, hK1, hD1⟩ := hB
    rw [ht] at hP1
    obtain ⟨hP2, hD2⟩ := va_join (wr := wr) (w1 := u) hP hD [iq] isR hC1 hR hn (by intro i hi h9; simp at h9; subst h9; exact hdis hi) hk1 hFc hP1 hD1
    exact k u hw H1 locs1 ls hP2 hD2 hS1 hl
theorem n_callN {md : MD} {d' mc' ms' ix q ci : Nat} {fs0 : List Value} {Post : va_W → Prop} {wr : va_W} {host : String} (C : CN g X own cc d mc ms) (hd : decode cc pc = .ok (.invokespecial ix, 3)) (hlk : ∀ A U H, StN g A U H → va_Nw (.methodLinkNest own ix md.1 host) U) (hm : MyI md) (hE : EvN l g md d' mc' ms' q ci fs0 Post) (hdd : d' + 1 ≤ d) (iq : Nat) (isR : List Nat) (hq : ws[iq]? = some (q, .inr (ci, fs0))) (hR : isR.map (fun i => ws[i]?) = wr.map some) (hn : va_nd isR = true) (hdis : iq ∉ isR) (hce : ce + mc' ≤ mc) (hsl : sl + ms' ≤ ms) (hst : (st.map fun v => v.category).sum ≤ 8)
    (k : ∀ w1, Post w1 → JN l g X (pc + 3) lv st (wr ++ w1) (ce + mc') (sl + ms')) : JN l g X pc lv (.ref q :: st) ws ce sl := by
  obtain ⟨p, e, R, s, m, args, below, meth, c, nL, A0, c0, s0, Q⟩ := X
  obtain ⟨hx, hb, hml, hown, hts, hK, hA, hSt, hdf, hdl, hmc, hms⟩ := C
  intro H locs ls hP hD hS hl
  obtain ⟨y, by_, nl, rt⟩ := md
  obtain ⟨m1, m2, m3, m4, m5, m6, m7⟩ := hm
  have hC1 : [iq].map (fun i => ws[i]?) = ([(q, .inr (ci, fs0))] : va_W).map some := by simp [hq]
  have hPc := hP.sub (ws' := [(q, .inr (ci, fs0))]) [iq] (by simp [hq])
  have hDc := hD.sub (ws' := [(q, .inr (ci, fs0))]) [iq] (by simp [va_nd]) hC1
  have hFc := va_free (wc := [(q, .inr (ci, fs0))]) hD hS hA [iq] hC1
  have hStc := (hSt.kept hS.2.1).narrow hFc
  refine va_callv (va_runIN (As := []) (rest := st) ⟨hx, hb, hml, hown, hts⟩ (hE H.size) ⟨va_cnB 0 hts (good_ws ?_ (fun _ h => h)) rfl rfl rfl (hlk _ _ _ hSt) (hts _ m2) m6 ⟨?_, ?_⟩, m4, hts _ m1⟩ ⟨fun a U g9 mk q9 => by obtain ⟨q0, q1, qP, qK, qD, qS⟩ := q9; exact ⟨q0, q1, qP, va_K.moved (u := U) (U := U.calling g9 mk a) (Vm.Alike.refl U.vm) qK, qD, StN.same (u := U) (U := U.calling g9 mk a) rfl qS⟩, fun U hU hW => ⟨rfl, by rw [hU], by rw [hU]; exact hPc, va_K.moved hW.alike hK, hDc.weaken (fun _ _ _ _ => trivial), by rw [hU]; exact hStc.moved hW⟩⟩ rfl rfl hl.1 rfl (lv_room hst) hd ⟨by omega, by omega⟩) hS (fun q _ h => hFc q h) hFc (fun u t H1 locs1 ht hvm hw hB hz1 hk1 hS1 => ?_)
  · intro w hw
    rcases List.mem_cons.mp hw with rfl | h
    · exact m3
    · exact h
  · show d' + 1 ≤ R.frames
    omega
  · have m7' : nl ≤ 15 := m7
    show 8 + (nl + 11) + 34 * d' ≤ R.locals
    omega
  · obtain ⟨hP1, hK1, hD1⟩ := hB
    rw [ht] at hP1
    obtain ⟨hP2, hD2⟩ := va_join (wr := wr) (w1 := u) hP hD [iq] isR hC1 hR hn (by intro i hi h9; simp at h9; subst h9; exact hdis hi) hk1 hFc hP1 hD1
    exact k u hw H1 locs1 ls hP2 hD2 hS1 hl
/-- the table of first settings, copied whole into a row -/
theorem n_copy {a i ix : Nat} {f : Nat → Int32} (C : CN g X own cc d mc ms) (hd : decode cc pc = .ok (.invokestatic ix, 3)) (hl1 : Cond.methodLink own ix arraycopyName ∈ WS) (he : ws[i]? = some (a, ar g 10 f)) (hd1 : 1 ≤ d) (k : JN l g X (pc + 3) lv [] (ws.set i (a, ar g 10 (va_cpy (fun j => nI (setN j)) f 0 0 10))) ce sl) : JN l g X pc lv [.int (nI 10), .int (nI 0), .ref a, .int (nI 0), .ref g.2.2.2] ws ce sl := by
  obtain ⟨p, e, R, s, m, args, below, meth, c, nL, A0, c0, s0, Q⟩ := X
  obtain ⟨hx, hb, hml, hown, hts, hK, hA, hSt, hdf, hdl, hmc, hms⟩ := C
  intro H locs ls hP hD hS hl T hT Y
  obtain ⟨scr, hs1, hs2, hs3, hs4, -, hs5, hs7⟩ := hSt.2.1
  have hc0 : H[g.2.2.2]? = some scr := by rw [hS.2.1 _ (Array.getElem?_eq_some_iff.mp hs1).1 hs7]; exact hs1
  have hc1 : H[a]? = some (vp_cell g.2.2.1 (10, .inl f)) := hP i _ he
  obtain ⟨hs6, k0, hk0, cm0, hkk0⟩ := hs2
  obtain ⟨-, k1, hk1, cm1, hkk1⟩ := (hK.2 0 (g.2.2.1, .int) rfl).1 10 (fun j => .int (f j))
  have hnf : nativeFrameWords "java/lang/System" "arraycopy" 5 ≤ 22 := by decide
  have z0 : (nI 0).toNatClampNeg = 0 := rfl
  have z10 : (nI 10).toNatClampNeg = 10 := rfl
  obtain ⟨vm', X', step⟩ := Y.arraycopy hx hown (hts _ hl1) (hts _ aN) (hts _ aS) (hts _ aI) (src := g.2.2.2) (dst := a) (cs := scr) (cd := vp_cell g.2.2.1 (10, .inl f)) (srcPos := nI 0) (destPos := nI 0) (n := nI 10) (by rw [hT]; exact hc0) (by rw [hT]; exact hc1)
    hs6 (fun _ h => by cases h) hs3 (fun h => by cases h) hk0 hk1 hkk0 hkk1 (by simp [refKind]) (by decide) (by decide) (by decide)
    (by have e1 : (nI 0).toInt = 0 := rfl; have e2 : (nI 10).toInt = 10 := rfl; rw [e1, e2]; omega)
    (by have e1 : (nI 0).toInt = 0 := rfl; have e2 : (nI 10).toInt = 10 := rfl; rw [e1, e2]; show ¬ _ > ((arrV g.2.2.1 10 (fun j => .int (f j))).slots.size : Int); rw [arrV_size]; omega)
    (fun vm₁ _ i hi => by
      have e : scr.slots.getD ((nI 0).toNatClampNeg + i) .null = .int (nI (setN i)) := by
        rw [z0, Nat.zero_add, Array.getD_eq_getD_getElem?, hs5 i (by rw [z10] at hi; omega)]
        rfl
      refine ⟨?_, ?_⟩
      · rw [e]; rfl
      · rw [e]; exact trivial)
    (g := F0 m pc ls [.int (nI 10), .int (nI 0), .ref a, .int (nI 0), .ref g.2.2.2]) rfl (by rw [hml]; exact hl.1) (rest := []) rfl (by rw [hb]; exact hd) (by omega) (by show 2 * 0 + 0 + _ ≤ _; omega)
  have e1 : copied scr (vp_cell g.2.2.1 (10, .inl f)) (nI 0) (nI 0) (nI 10) = vp_cell g.2.2.1 (10, .inl (va_cpy (fun j => nI (setN j)) f 0 0 10)) := va_copiedX (fun z => .int z) scr g.2.2.1 (fun j => nI (setN j)) f hs5 (by rw [z0, z10]; omega)
  rw [e1] at X' step
  have hlt : a < H.size := (Array.getElem?_eq_some_iff.mp hc1).1
  have hheap : ((T.setVm vm').setCell a (vp_cell g.2.2.1 (10, .inl (va_cpy (fun j => nI (setN j)) f 0 0 10)))).heap = H.setIfInBounds a (vp_cell g.2.2.1 (10, .inl (va_cpy (fun j => nI (setN j)) f 0 0 10))) := by rw [← hT]; rfl
  have oq : ∀ q : Nat, q ≠ a → (H.setIfInBounds a (vp_cell g.2.2.1 (10, .inl (va_cpy (fun j => nI (setN j)) f 0 0 10))))[q]? = H[q]? := fun q hq => by simp [Array.getElem?_setIfInBounds, Ne.symm hq]
  obtain ⟨t, a1, b1⟩ := k _ _ ls (hP.set hD he (show (H.setIfInBounds a _)[a]? = some _ by simp [Array.getElem?_setIfInBounds, hlt]) oq) (hD.set he) ⟨by simp; exact hS.1, fun q g1 g2 => by
      rw [oq q (fun e => g2 (by rw [e]; exact hD.2 i _ he))]
      exact hS.2.1 q g1 g2, fun q hq => by
      rcases List.mem_append.mp hq with h | h
      · exact hS.2.2 q h
      · obtain ⟨z, -, hz⟩ := List.mem_map.mp h
        rw [← hz]
        exact hD.2 i _ he⟩ hl _ hheap X'
  exact ⟨t, step t a1, b1⟩
end NROWS
