-- CALLS, and rows of fields
def Rcv (G : GX) (o : Nat) (Cn : String) : Prop := o < 60 ∧ ∀ f : Nat → Nat, ∃ (ci : Nat) (fs : List Value) (q : vw_C), entF G o f = .inr (ci, fs) ∧ vwCl[ci]? = some q ∧ q.1 = Cn
theorem rc4 {G : GX} : Rcv G 0 RX4 := ⟨by decide, fun f => ⟨_, _, _, ent4, rfl, rfl⟩⟩
theorem rc0 {G : GX} {h : Nat} (hh : isH h) : Rcv G h RX0 := ⟨by have := isH_le hh; omega, fun f => ⟨_, _, _, ent0 hh, rfl, rfl⟩⟩
theorem rc3 {G : GX} : Rcv G 22 RX3 := ⟨by decide, fun f => ⟨_, _, _, ent3, rfl, rfl⟩⟩
theorem rc1 {G : GX} : Rcv G 30 RX1 := ⟨by decide, fun f => ⟨_, _, _, ent1, rfl, rfl⟩⟩
theorem rc2 {G : GX} : Rcv G 34 RX2 := ⟨by decide, fun f => ⟨_, _, _, ent2, rfl, rfl⟩⟩
theorem rc5 {G : GX} : Rcv G 38 RX5 := ⟨by decide, fun f => ⟨_, _, _, ent5, rfl, rfl⟩⟩
def PIe (v : Int32) (μ0 : Mem) : PO := fun r μ' => r = some (.int v) ∧ μ' = μ0
def PI (P : Int32 → Mem → Prop) : PO := fun r μ' => ∃ v : Int32, r = some (.int v) ∧ P v μ'
def PV (P : Mem → Prop) : PO := fun r μ' => r = none ∧ P μ'
def PL (P : Int64 → Mem → Prop) : PO := fun r μ' => ∃ v : Int64, r = some (.long v) ∧ P v μ'
theorem Wd_blind {G : GX} {μ : Mem} {av : List Value} : FrameBlind (va_Pc av (Wd G μ)) := fun a U g mk q => by
  obtain ⟨q0, qP, qK, qS, qI⟩ := q
  exact ⟨q0, qP, va_K.moved (u := U) (U := U.calling g mk a) (Vm.Alike.refl U.vm) qK, Sd.same (u := U) (U := U.calling g mk a) rfl qS, qI⟩
section JC
variable {G : GX} {X : XC} {own : String} {cc : ByteArray} {d pc : Nat} {lv : List (Option Value)} {st : List Value} {μ : Mem}
theorem Wd_here {p : Program} {s : State} {A0 : Nat → Prop} {H : Heap} {locs : List Loc} (hK : va_K (gC G, gI G) vwCl [(gY G, .int)] s) (hSd : Sd G A0 s s.heap) (hI : Inj G) (hA0 : ∀ k, k < 60 → A0 (gA G k)) (hP : va_P (gC G, gI G) vwCl (cells G μ) H) (hS : va_S A0 s.heap H locs) (U : State) (hU : U.heap = H) (hW : s.WarmedH U.vm) : Wd G μ U := by
  refine ⟨by rw [hU]; exact hP, va_K.moved hW.alike hK, ?_, hI⟩
  rw [hU]
  exact ((hSd.kept hS.2.1).narrow (fun q hq => by obtain ⟨k, hk, rfl⟩ := hq; exact hA0 k hk)).moved hW
theorem run_go {p : Program} {e : Env} {R : Room} {s : State} {m : MethodId} {args : Array Value} {below : List Frame} {meth : Method} {c : Code} {nL : Nat} {A0 : Nat → Prop} {ce sl : Nat} {Q : State → Prop} {H : Heap} {locs : List Loc} {ls : Array Slot} {st0 : List Value} {a : Array Value} {Post : PO} (hA0 : ∀ k, k < 60 → A0 (gA G k)) (hS : va_S A0 s.heap H locs) (hl : lvOK ls nL lv)
    (hr : va_Run p (gL G) e R s m args below meth c H locs ce sl 0 0 (F0 m pc ls st0) st (Qp G Post a) (AA G))
    (k : ∀ r μ', Post r μ' → J G (p, e, R, s, m, args, below, meth, c, nL, A0, ce, sl, Q) (pc + 3) lv (r.toList ++ st) μ') : W p (gL G) e R s m args below meth c H locs ce sl Q (F0 m pc ls st0) := by
  intro T hT X
  obtain ⟨v, st₀, t, T', L, h0, X', hL, e1, e2, ⟨⟨r, μ', hv, hp, hWd⟩, hz, hk⟩, go⟩ := hr T hT X
  cases hv
  rw [h0] at hz hk
  obtain ⟨t2, a1, b1⟩ := k _ μ' hp T'.heap (locs ++ L) ls (by rw [e1]; exact hWd.1) ⟨Nat.le_trans hS.1 (by rw [e1]; exact hz), fun q h1 h2 => by
      rw [e1, hk q (Nat.lt_of_lt_of_le h1 hS.1) (fun z => h2 (by obtain ⟨j, hj, rfl⟩ := z; exact hA0 j hj))]
      exact hS.2.1 q h1 h2, fun q hq => by
      rcases List.mem_append.mp hq with h | h
      · exact hS.2.2 q h
      · obtain ⟨j, hj, e⟩ := hL q h
        rw [e]
        exact hA0 j hj⟩ hl T' rfl X'
  exact ⟨t2, go t2 a1, b1⟩
theorem j_callV {md : MD} {n d' o ix : Nat} {av : List Value} {Post : PO} (C : Cx G X own cc d) (hd : decode cc pc = .ok (.invokevirtual ix, 3)) (hlk : Cond.methodLink own ix md.1 ∈ WS) (hm : MyV md n) (hE : Ev G md d' (rf G o :: av) μ Post) (hdd : d' + 1 ≤ d) (hn : av.length = n) (ho : Rcv G o md.1.cls) (hst : (st.map fun v => v.category).sum ≤ 8)
    (k : ∀ r μ', Post r μ' → J G X (pc + 3) lv (r.toList ++ st) μ') : J G X pc lv (av.reverse ++ rf G o :: st) μ := by
  obtain ⟨p, e, R, s, m, args, below, meth, c, nL, A0, ce, sl, Q⟩ := X
  obtain ⟨hx, hb, hml, hown, hts, hK, hSd, hI, hA0, hdf, hdl, hce, hsl⟩ := C
  intro H locs ls hP hS hl
  obtain ⟨y, by_, nl, rt⟩ := md
  obtain ⟨m1, m2, m3, m4, m5, m6⟩ := hm
  obtain ⟨ho1, ho2⟩ := ho
  obtain ⟨ci, fs, q, h1, h2, h3⟩ := ho2 (μ o)
  have hcell := va_recv hK hP h2 (q0 := o) (a := gA G o) (fs := fs) (by rw [cells_at ho1, h1])
  rw [h3] at hcell
  refine run_go hA0 hS hl (va_runV (n := n) ⟨hx, hb, hml, hown, hts⟩ hE (cwV n hts (good_ws ?_ (fun _ h => h)) rfl rfl rfl ⟨rfl, m5⟩ ⟨?_, ?_⟩) ⟨Wd_blind, hcell, fun U hU hW => ⟨rfl, Wd_here (p := p) hK hSd hI hA0 hP hS U hU hW⟩⟩ rfl hn (hl.1) rfl (lv_room hst) hd ⟨hce, hsl⟩) k
  · intro w hw
    rcases List.mem_append.mp hw with h | h
    · simp only [List.mem_cons, List.not_mem_nil, or_false] at h
      rcases h with rfl | rfl | rfl | rfl
      · exact hlk
      · exact m1
      · exact m2
      · exact m3
    · rcases List.mem_cons.mp h with rfl | h
      · exact m4
      · exact h
  · show d' + 1 ≤ R.frames
    omega
  · have m6' : nl ≤ 15 := m6
    show 8 + (nl + 11) + 34 * d' ≤ R.locals
    omega
theorem j_callS {md : MD} {n d' ix : Nat} {av : List Value} {Post : PO} (C : Cx G X own cc d) (hd : decode cc pc = .ok (.invokestatic ix, 3)) (hlk : Cond.methodLink own ix md.1 ∈ WS) (hm : MyS md n) (hE : Ev G md d' av μ Post) (hdd : d' + 1 ≤ d) (hn : av.length = n) (hst : (st.map fun v => v.category).sum ≤ 8)
    (k : ∀ r μ', Post r μ' → J G X (pc + 3) lv (r.toList ++ st) μ') : J G X pc lv (av.reverse ++ st) μ := by
  obtain ⟨p, e, R, s, m, args, below, meth, c, nL, A0, ce, sl, Q⟩ := X
  obtain ⟨hx, hb, hml, hown, hts, hK, hSd, hI, hA0, hdf, hdl, hce, hsl⟩ := C
  intro H locs ls hP hS hl
  obtain ⟨y, by_, nl, rt⟩ := md
  obtain ⟨m2, m3, m4, m5, m6⟩ := hm
  refine run_go hA0 hS hl (va_runS (n := n) ⟨hx, hb, hml, hown, hts⟩ hE (va_cwS n hts (good_ws ?_ (fun _ h => h)) rfl rfl rfl m5 ⟨?_, ?_⟩) ⟨Wd_blind, fun U hU hW => ⟨rfl, Wd_here (p := p) hK hSd hI hA0 hP hS U hU hW⟩⟩ rfl hn (hl.1) rfl (lv_room hst) hd ⟨hce, hsl⟩) k
  · intro w hw
    rcases List.mem_append.mp hw with h | h
    · simp only [List.mem_cons, List.not_mem_nil, or_false] at h
      rcases h with rfl | rfl | rfl
      · exact hlk
      · exact m2
      · exact m3
    · rcases List.mem_cons.mp h with rfl | h
      · exact m4
      · exact h
  · show d' + 1 ≤ R.frames
    omega
  · have m6' : nl ≤ 15 := m6
    show 8 + (nl + 11) + 34 * d' ≤ R.locals
    omega
theorem cVe0 {md : MD} {d' o ix : Nat} {v : Int32} {μ' : Mem} (C : Cx G X own cc d) (hd : decode cc pc = .ok (.invokevirtual ix, 3)) (hlk : Cond.methodLink own ix md.1 ∈ WS) (hm : MyV md 0) (hE : Ev G md d' [rf G o] μ (PIe v μ')) (hdd : d' + 1 ≤ d) (ho : Rcv G o md.1.cls) (hst : (st.map fun v => v.category).sum ≤ 8) (k : J G X (pc + 3) lv (.int v :: st) μ') : J G X pc lv (rf G o :: st) μ :=
  j_callV (av := []) C hd hlk hm hE hdd rfl ho hst (fun r μ2 h => by obtain ⟨rfl, rfl⟩ := h; exact k)
theorem cVi0 {md : MD} {d' o ix : Nat} {P : Int32 → Mem → Prop} (C : Cx G X own cc d) (hd : decode cc pc = .ok (.invokevirtual ix, 3)) (hlk : Cond.methodLink own ix md.1 ∈ WS) (hm : MyV md 0) (hE : Ev G md d' [rf G o] μ (PI P)) (hdd : d' + 1 ≤ d) (ho : Rcv G o md.1.cls) (hst : (st.map fun v => v.category).sum ≤ 8) (k : ∀ v μ', P v μ' → J G X (pc + 3) lv (.int v :: st) μ') : J G X pc lv (rf G o :: st) μ :=
  j_callV (av := []) C hd hlk hm hE hdd rfl ho hst (fun r μ2 h => by obtain ⟨v, rfl, h⟩ := h; exact k v μ2 h)
theorem cVv0 {md : MD} {d' o ix : Nat} {P : Mem → Prop} (C : Cx G X own cc d) (hd : decode cc pc = .ok (.invokevirtual ix, 3)) (hlk : Cond.methodLink own ix md.1 ∈ WS) (hm : MyV md 0) (hE : Ev G md d' [rf G o] μ (PV P)) (hdd : d' + 1 ≤ d) (ho : Rcv G o md.1.cls) (hst : (st.map fun v => v.category).sum ≤ 8) (k : ∀ μ', P μ' → J G X (pc + 3) lv st μ') : J G X pc lv (rf G o :: st) μ :=
  j_callV (av := []) C hd hlk hm hE hdd rfl ho hst (fun r μ2 h => by obtain ⟨rfl, h⟩ := h; exact k μ2 h)
theorem cVl0 {md : MD} {d' o ix : Nat} {P : Int64 → Mem → Prop} (C : Cx G X own cc d) (hd : decode cc pc = .ok (.invokevirtual ix, 3)) (hlk : Cond.methodLink own ix md.1 ∈ WS) (hm : MyV md 0) (hE : Ev G md d' [rf G o] μ (PL P)) (hdd : d' + 1 ≤ d) (ho : Rcv G o md.1.cls) (hst : (st.map fun v => v.category).sum ≤ 8) (k : ∀ v μ', P v μ' → J G X (pc + 3) lv (.long v :: st) μ') : J G X pc lv (rf G o :: st) μ :=
  j_callV (av := []) C hd hlk hm hE hdd rfl ho hst (fun r μ2 h => by obtain ⟨v, rfl, h⟩ := h; exact k v μ2 h)
theorem cSe0 {md : MD} {d' ix : Nat} {v : Int32} {μ' : Mem} (C : Cx G X own cc d) (hd : decode cc pc = .ok (.invokestatic ix, 3)) (hlk : Cond.methodLink own ix md.1 ∈ WS) (hm : MyS md 0) (hE : Ev G md d' [] μ (PIe v μ')) (hdd : d' + 1 ≤ d) (hst : (st.map fun v => v.category).sum ≤ 8) (k : J G X (pc + 3) lv (.int v :: st) μ') : J G X pc lv (st) μ :=
  j_callS (av := []) C hd hlk hm hE hdd rfl hst (fun r μ2 h => by obtain ⟨rfl, rfl⟩ := h; exact k)
theorem cSi0 {md : MD} {d' ix : Nat} {P : Int32 → Mem → Prop} (C : Cx G X own cc d) (hd : decode cc pc = .ok (.invokestatic ix, 3)) (hlk : Cond.methodLink own ix md.1 ∈ WS) (hm : MyS md 0) (hE : Ev G md d' [] μ (PI P)) (hdd : d' + 1 ≤ d) (hst : (st.map fun v => v.category).sum ≤ 8) (k : ∀ v μ', P v μ' → J G X (pc + 3) lv (.int v :: st) μ') : J G X pc lv (st) μ :=
  j_callS (av := []) C hd hlk hm hE hdd rfl hst (fun r μ2 h => by obtain ⟨v, rfl, h⟩ := h; exact k v μ2 h)
theorem cSv0 {md : MD} {d' ix : Nat} {P : Mem → Prop} (C : Cx G X own cc d) (hd : decode cc pc = .ok (.invokestatic ix, 3)) (hlk : Cond.methodLink own ix md.1 ∈ WS) (hm : MyS md 0) (hE : Ev G md d' [] μ (PV P)) (hdd : d' + 1 ≤ d) (hst : (st.map fun v => v.category).sum ≤ 8) (k : ∀ μ', P μ' → J G X (pc + 3) lv st μ') : J G X pc lv (st) μ :=
  j_callS (av := []) C hd hlk hm hE hdd rfl hst (fun r μ2 h => by obtain ⟨rfl, h⟩ := h; exact k μ2 h)
theorem cSl0 {md : MD} {d' ix : Nat} {P : Int64 → Mem → Prop} (C : Cx G X own cc d) (hd : decode cc pc = .ok (.invokestatic ix, 3)) (hlk : Cond.methodLink own ix md.1 ∈ WS) (hm : MyS md 0) (hE : Ev G md d' [] μ (PL P)) (hdd : d' + 1 ≤ d) (hst : (st.map fun v => v.category).sum ≤ 8) (k : ∀ v μ', P v μ' → J G X (pc + 3) lv (.long v :: st) μ') : J G X pc lv (st) μ :=
  j_callS (av := []) C hd hlk hm hE hdd rfl hst (fun r μ2 h => by obtain ⟨v, rfl, h⟩ := h; exact k v μ2 h)
theorem cVe1 {md : MD} {d' o ix : Nat} {v : Int32} {μ' : Mem} {a0 : Value} (C : Cx G X own cc d) (hd : decode cc pc = .ok (.invokevirtual ix, 3)) (hlk : Cond.methodLink own ix md.1 ∈ WS) (hm : MyV md 1) (hE : Ev G md d' [rf G o, a0] μ (PIe v μ')) (hdd : d' + 1 ≤ d) (ho : Rcv G o md.1.cls) (hst : (st.map fun v => v.category).sum ≤ 8) (k : J G X (pc + 3) lv (.int v :: st) μ') : J G X pc lv (a0 :: rf G o :: st) μ :=
  j_callV (av := [a0]) C hd hlk hm hE hdd rfl ho hst (fun r μ2 h => by obtain ⟨rfl, rfl⟩ := h; exact k)
theorem cVi1 {md : MD} {d' o ix : Nat} {P : Int32 → Mem → Prop} {a0 : Value} (C : Cx G X own cc d) (hd : decode cc pc = .ok (.invokevirtual ix, 3)) (hlk : Cond.methodLink own ix md.1 ∈ WS) (hm : MyV md 1) (hE : Ev G md d' [rf G o, a0] μ (PI P)) (hdd : d' + 1 ≤ d) (ho : Rcv G o md.1.cls) (hst : (st.map fun v => v.category).sum ≤ 8) (k : ∀ v μ', P v μ' → J G X (pc + 3) lv (.int v :: st) μ') : J G X pc lv (a0 :: rf G o :: st) μ :=
  j_callV (av := [a0]) C hd hlk hm hE hdd rfl ho hst (fun r μ2 h => by obtain ⟨v, rfl, h⟩ := h; exact k v μ2 h)
theorem cVv1 {md : MD} {d' o ix : Nat} {P : Mem → Prop} {a0 : Value} (C : Cx G X own cc d) (hd : decode cc pc = .ok (.invokevirtual ix, 3)) (hlk : Cond.methodLink own ix md.1 ∈ WS) (hm : MyV md 1) (hE : Ev G md d' [rf G o, a0] μ (PV P)) (hdd : d' + 1 ≤ d) (ho : Rcv G o md.1.cls) (hst : (st.map fun v => v.category).sum ≤ 8) (k : ∀ μ', P μ' → J G X (pc + 3) lv st μ') : J G X pc lv (a0 :: rf G o :: st) μ :=
  j_callV (av := [a0]) C hd hlk hm hE hdd rfl ho hst (fun r μ2 h => by obtain ⟨rfl, h⟩ := h; exact k μ2 h)
theorem cVl1 {md : MD} {d' o ix : Nat} {P : Int64 → Mem → Prop} {a0 : Value} (C : Cx G X own cc d) (hd : decode cc pc = .ok (.invokevirtual ix, 3)) (hlk : Cond.methodLink own ix md.1 ∈ WS) (hm : MyV md 1) (hE : Ev G md d' [rf G o, a0] μ (PL P)) (hdd : d' + 1 ≤ d) (ho : Rcv G o md.1.cls) (hst : (st.map fun v => v.category).sum ≤ 8) (k : ∀ v μ', P v μ' → J G X (pc + 3) lv (.long v :: st) μ') : J G X pc lv (a0 :: rf G o :: st) μ :=
  j_callV (av := [a0]) C hd hlk hm hE hdd rfl ho hst (fun r μ2 h => by obtain ⟨v, rfl, h⟩ := h; exact k v μ2 h)
theorem cSe1 {md : MD} {d' ix : Nat} {v : Int32} {μ' : Mem} {a0 : Value} (C : Cx G X own cc d) (hd : decode cc pc = .ok (.invokestatic ix, 3)) (hlk : Cond.methodLink own ix md.1 ∈ WS) (hm : MyS md 1) (hE : Ev G md d' [a0] μ (PIe v μ')) (hdd : d' + 1 ≤ d) (hst : (st.map fun v => v.category).sum ≤ 8) (k : J G X (pc + 3) lv (.int v :: st) μ') : J G X pc lv (a0 :: st) μ :=
  j_callS (av := [a0]) C hd hlk hm hE hdd rfl hst (fun r μ2 h => by obtain ⟨rfl, rfl⟩ := h; exact k)
theorem cSi1 {md : MD} {d' ix : Nat} {P : Int32 → Mem → Prop} {a0 : Value} (C : Cx G X own cc d) (hd : decode cc pc = .ok (.invokestatic ix, 3)) (hlk : Cond.methodLink own ix md.1 ∈ WS) (hm : MyS md 1) (hE : Ev G md d' [a0] μ (PI P)) (hdd : d' + 1 ≤ d) (hst : (st.map fun v => v.category).sum ≤ 8) (k : ∀ v μ', P v μ' → J G X (pc + 3) lv (.int v :: st) μ') : J G X pc lv (a0 :: st) μ :=
  j_callS (av := [a0]) C hd hlk hm hE hdd rfl hst (fun r μ2 h => by obtain ⟨v, rfl, h⟩ := h; exact k v μ2 h)
theorem cSv1 {md : MD} {d' ix : Nat} {P : Mem → Prop} {a0 : Value} (C : Cx G X own cc d) (hd : decode cc pc = .ok (.invokestatic ix, 3)) (hlk : Cond.methodLink own ix md.1 ∈ WS) (hm : MyS md 1) (hE : Ev G md d' [a0] μ (PV P)) (hdd : d' + 1 ≤ d) (hst : (st.map fun v => v.category).sum ≤ 8) (k : ∀ μ', P μ' → J G X (pc + 3) lv st μ') : J G X pc lv (a0 :: st) μ :=
  j_callS (av := [a0]) C hd hlk hm hE hdd rfl hst (fun r μ2 h => by obtain ⟨rfl, h⟩ := h; exact k μ2 h)
theorem cSl1 {md : MD} {d' ix : Nat} {P : Int64 → Mem → Prop} {a0 : Value} (C : Cx G X own cc d) (hd : decode cc pc = .ok (.invokestatic ix, 3)) (hlk : Cond.methodLink own ix md.1 ∈ WS) (hm : MyS md 1) (hE : Ev G md d' [a0] μ (PL P)) (hdd : d' + 1 ≤ d) (hst : (st.map fun v => v.category).sum ≤ 8) (k : ∀ v μ', P v μ' → J G X (pc + 3) lv (.long v :: st) μ') : J G X pc lv (a0 :: st) μ :=
  j_callS (av := [a0]) C hd hlk hm hE hdd rfl hst (fun r μ2 h => by obtain ⟨v, rfl, h⟩ := h; exact k v μ2 h)
theorem cVe2 {md : MD} {d' o ix : Nat} {v : Int32} {μ' : Mem} {a0 a1 : Value} (C : Cx G X own cc d) (hd : decode cc pc = .ok (.invokevirtual ix, 3)) (hlk : Cond.methodLink own ix md.1 ∈ WS) (hm : MyV md 2) (hE : Ev G md d' [rf G o, a0, a1] μ (PIe v μ')) (hdd : d' + 1 ≤ d) (ho : Rcv G o md.1.cls) (hst : (st.map fun v => v.category).sum ≤ 8) (k : J G X (pc + 3) lv (.int v :: st) μ') : J G X pc lv (a1 :: a0 :: rf G o :: st) μ :=
  j_callV (av := [a0, a1]) C hd hlk hm hE hdd rfl ho hst (fun r μ2 h => by obtain ⟨rfl, rfl⟩ := h; exact k)
theorem cVi2 {md : MD} {d' o ix : Nat} {P : Int32 → Mem → Prop} {a0 a1 : Value} (C : Cx G X own cc d) (hd : decode cc pc = .ok (.invokevirtual ix, 3)) (hlk : Cond.methodLink own ix md.1 ∈ WS) (hm : MyV md 2) (hE : Ev G md d' [rf G o, a0, a1] μ (PI P)) (hdd : d' + 1 ≤ d) (ho : Rcv G o md.1.cls) (hst : (st.map fun v => v.category).sum ≤ 8) (k : ∀ v μ', P v μ' → J G X (pc + 3) lv (.int v :: st) μ') : J G X pc lv (a1 :: a0 :: rf G o :: st) μ :=
  j_callV (av := [a0, a1]) C hd hlk hm hE hdd rfl ho hst (fun r μ2 h => by obtain ⟨v, rfl, h⟩ := h; exact k v μ2 h)
theorem cVv2 {md : MD} {d' o ix : Nat} {P : Mem → Prop} {a0 a1 : Value} (C : Cx G X own cc d) (hd : decode cc pc = .ok (.invokevirtual ix, 3)) (hlk : Cond.methodLink own ix md.1 ∈ WS) (hm : MyV md 2) (hE : Ev G md d' [rf G o, a0, a1] μ (PV P)) (hdd : d' + 1 ≤ d) (ho : Rcv G o md.1.cls) (hst : (st.map fun v => v.category).sum ≤ 8) (k : ∀ μ', P μ' → J G X (pc + 3) lv st μ') : J G X pc lv (a1 :: a0 :: rf G o :: st) μ :=
  j_callV (av := [a0, a1]) C hd hlk hm hE hdd rfl ho hst (fun r μ2 h => by obtain ⟨rfl, h⟩ := h; exact k μ2 h)
theorem cVl2 {md : MD} {d' o ix : Nat} {P : Int64 → Mem → Prop} {a0 a1 : Value} (C : Cx G X own cc d) (hd : decode cc pc = .ok (.invokevirtual ix, 3)) (hlk : Cond.methodLink own ix md.1 ∈ WS) (hm : MyV md 2) (hE : Ev G md d' [rf G o, a0, a1] μ (PL P)) (hdd : d' + 1 ≤ d) (ho : Rcv G o md.1.cls) (hst : (st.map fun v => v.category).sum ≤ 8) (k : ∀ v μ', P v μ' → J G X (pc + 3) lv (.long v :: st) μ') : J G X pc lv (a1 :: a0 :: rf G o :: st) μ :=
  j_callV (av := [a0, a1]) C hd hlk hm hE hdd rfl ho hst (fun r μ2 h => by obtain ⟨v, rfl, h⟩ := h; exact k v μ2 h)
theorem cSe2 {md : MD} {d' ix : Nat} {v : Int32} {μ' : Mem} {a0 a1 : Value} (C : Cx G X own cc d) (hd : decode cc pc = .ok (.invokestatic ix, 3)) (hlk : Cond.methodLink own ix md.1 ∈ WS) (hm : MyS md 2) (hE : Ev G md d' [a0, a1] μ (PIe v μ')) (hdd : d' + 1 ≤ d) (hst : (st.map fun v => v.category).sum ≤ 8) (k : J G X (pc + 3) lv (.int v :: st) μ') : J G X pc lv (a1 :: a0 :: st) μ :=
  j_callS (av := [a0, a1]) C hd hlk hm hE hdd rfl hst (fun r μ2 h => by obtain ⟨rfl, rfl⟩ := h; exact k)
theorem cSi2 {md : MD} {d' ix : Nat} {P : Int32 → Mem → Prop} {a0 a1 : Value} (C : Cx G X own cc d) (hd : decode cc pc = .ok (.invokestatic ix, 3)) (hlk : Cond.methodLink own ix md.1 ∈ WS) (hm : MyS md 2) (hE : Ev G md d' [a0, a1] μ (PI P)) (hdd : d' + 1 ≤ d) (hst : (st.map fun v => v.category).sum ≤ 8) (k : ∀ v μ', P v μ' → J G X (pc + 3) lv (.int v :: st) μ') : J G X pc lv (a1 :: a0 :: st) μ :=
  j_callS (av := [a0, a1]) C hd hlk hm hE hdd rfl hst (fun r μ2 h => by obtain ⟨v, rfl, h⟩ := h; exact k v μ2 h)
theorem cSv2 {md : MD} {d' ix : Nat} {P : Mem → Prop} {a0 a1 : Value} (C : Cx G X own cc d) (hd : decode cc pc = .ok (.invokestatic ix, 3)) (hlk : Cond.methodLink own ix md.1 ∈ WS) (hm : MyS md 2) (hE : Ev G md d' [a0, a1] μ (PV P)) (hdd : d' + 1 ≤ d) (hst : (st.map fun v => v.category).sum ≤ 8) (k : ∀ μ', P μ' → J G X (pc + 3) lv st μ') : J G X pc lv (a1 :: a0 :: st) μ :=
  j_callS (av := [a0, a1]) C hd hlk hm hE hdd rfl hst (fun r μ2 h => by obtain ⟨rfl, h⟩ := h; exact k μ2 h)
theorem cSl2 {md : MD} {d' ix : Nat} {P : Int64 → Mem → Prop} {a0 a1 : Value} (C : Cx G X own cc d) (hd : decode cc pc = .ok (.invokestatic ix, 3)) (hlk : Cond.methodLink own ix md.1 ∈ WS) (hm : MyS md 2) (hE : Ev G md d' [a0, a1] μ (PL P)) (hdd : d' + 1 ≤ d) (hst : (st.map fun v => v.category).sum ≤ 8) (k : ∀ v μ', P v μ' → J G X (pc + 3) lv (.long v :: st) μ') : J G X pc lv (a1 :: a0 :: st) μ :=
  j_callS (av := [a0, a1]) C hd hlk hm hE hdd rfl hst (fun r μ2 h => by obtain ⟨v, rfl, h⟩ := h; exact k v μ2 h)
theorem cVe3 {md : MD} {d' o ix : Nat} {v : Int32} {μ' : Mem} {a0 a1 a2 : Value} (C : Cx G X own cc d) (hd : decode cc pc = .ok (.invokevirtual ix, 3)) (hlk : Cond.methodLink own ix md.1 ∈ WS) (hm : MyV md 3) (hE : Ev G md d' [rf G o, a0, a1, a2] μ (PIe v μ')) (hdd : d' + 1 ≤ d) (ho : Rcv G o md.1.cls) (hst : (st.map fun v => v.category).sum ≤ 8) (k : J G X (pc + 3) lv (.int v :: st) μ') : J G X pc lv (a2 :: a1 :: a0 :: rf G o :: st) μ :=
  j_callV (av := [a0, a1, a2]) C hd hlk hm hE hdd rfl ho hst (fun r μ2 h => by obtain ⟨rfl, rfl⟩ := h; exact k)
theorem cVi3 {md : MD} {d' o ix : Nat} {P : Int32 → Mem → Prop} {a0 a1 a2 : Value} (C : Cx G X own cc d) (hd : decode cc pc = .ok (.invokevirtual ix, 3)) (hlk : Cond.methodLink own ix md.1 ∈ WS) (hm : MyV md 3) (hE : Ev G md d' [rf G o, a0, a1, a2] μ (PI P)) (hdd : d' + 1 ≤ d) (ho : Rcv G o md.1.cls) (hst : (st.map fun v => v.category).sum ≤ 8) (k : ∀ v μ', P v μ' → J G X (pc + 3) lv (.int v :: st) μ') : J G X pc lv (a2 :: a1 :: a0 :: rf G o :: st) μ :=
  j_callV (av := [a0, a1, a2]) C hd hlk hm hE hdd rfl ho hst (fun r μ2 h => by obtain ⟨v, rfl, h⟩ := h; exact k v μ2 h)
theorem cVv3 {md : MD} {d' o ix : Nat} {P : Mem → Prop} {a0 a1 a2 : Value} (C : Cx G X own cc d) (hd : decode cc pc = .ok (.invokevirtual ix, 3)) (hlk : Cond.methodLink own ix md.1 ∈ WS) (hm : MyV md 3) (hE : Ev G md d' [rf G o, a0, a1, a2] μ (PV P)) (hdd : d' + 1 ≤ d) (ho : Rcv G o md.1.cls) (hst : (st.map fun v => v.category).sum ≤ 8) (k : ∀ μ', P μ' → J G X (pc + 3) lv st μ') : J G X pc lv (a2 :: a1 :: a0 :: rf G o :: st) μ :=
  j_callV (av := [a0, a1, a2]) C hd hlk hm hE hdd rfl ho hst (fun r μ2 h => by obtain ⟨rfl, h⟩ := h; exact k μ2 h)
theorem cVl3 {md : MD} {d' o ix : Nat} {P : Int64 → Mem → Prop} {a0 a1 a2 : Value} (C : Cx G X own cc d) (hd : decode cc pc = .ok (.invokevirtual ix, 3)) (hlk : Cond.methodLink own ix md.1 ∈ WS) (hm : MyV md 3) (hE : Ev G md d' [rf G o, a0, a1, a2] μ (PL P)) (hdd : d' + 1 ≤ d) (ho : Rcv G o md.1.cls) (hst : (st.map fun v => v.category).sum ≤ 8) (k : ∀ v μ', P v μ' → J G X (pc + 3) lv (.long v :: st) μ') : J G X pc lv (a2 :: a1 :: a0 :: rf G o :: st) μ :=
  j_callV (av := [a0, a1, a2]) C hd hlk hm hE hdd rfl ho hst (fun r μ2 h => by obtain ⟨v, rfl, h⟩ := h; exact k v μ2 h)
theorem cSe3 {md : MD} {d' ix : Nat} {v : Int32} {μ' : Mem} {a0 a1 a2 : Value} (C : Cx G X own cc d) (hd : decode cc pc = .ok (.invokestatic ix, 3)) (hlk : Cond.methodLink own ix md.1 ∈ WS) (hm : MyS md 3) (hE : Ev G md d' [a0, a1, a2] μ (PIe v μ')) (hdd : d' + 1 ≤ d) (hst : (st.map fun v => v.category).sum ≤ 8) (k : J G X (pc + 3) lv (.int v :: st) μ') : J G X pc lv (a2 :: a1 :: a0 :: st) μ :=
  j_callS (av := [a0, a1, a2]) C hd hlk hm hE hdd rfl hst (fun r μ2 h => by obtain ⟨rfl, rfl⟩ := h; exact k)
theorem cSi3 {md : MD} {d' ix : Nat} {P : Int32 → Mem → Prop} {a0 a1 a2 : Value} (C : Cx G X own cc d) (hd : decode cc pc = .ok (.invokestatic ix, 3)) (hlk : Cond.methodLink own ix md.1 ∈ WS) (hm : MyS md 3) (hE : Ev G md d' [a0, a1, a2] μ (PI P)) (hdd : d' + 1 ≤ d) (hst : (st.map fun v => v.category).sum ≤ 8) (k : ∀ v μ', P v μ' → J G X (pc + 3) lv (.int v :: st) μ') : J G X pc lv (a2 :: a1 :: a0 :: st) μ :=
  j_callS (av := [a0, a1, a2]) C hd hlk hm hE hdd rfl hst (fun r μ2 h => by obtain ⟨v, rfl, h⟩ := h; exact k v μ2 h)
theorem cSv3 {md : MD} {d' ix : Nat} {P : Mem → Prop} {a0 a1 a2 : Value} (C : Cx G X own cc d) (hd : decode cc pc = .ok (.invokestatic ix, 3)) (hlk : Cond.methodLink own ix md.1 ∈ WS) (hm : MyS md 3) (hE : Ev G md d' [a0, a1, a2] μ (PV P)) (hdd : d' + 1 ≤ d) (hst : (st.map fun v => v.category).sum ≤ 8) (k : ∀ μ', P μ' → J G X (pc + 3) lv st μ') : J G X pc lv (a2 :: a1 :: a0 :: st) μ :=
  j_callS (av := [a0, a1, a2]) C hd hlk hm hE hdd rfl hst (fun r μ2 h => by obtain ⟨rfl, h⟩ := h; exact k μ2 h)
theorem cSl3 {md : MD} {d' ix : Nat} {P : Int64 → Mem → Prop} {a0 a1 a2 : Value} (C : Cx G X own cc d) (hd : decode cc pc = .ok (.invokestatic ix, 3)) (hlk : Cond.methodLink own ix md.1 ∈ WS) (hm : MyS md 3) (hE : Ev G md d' [a0, a1, a2] μ (PL P)) (hdd : d' + 1 ≤ d) (hst : (st.map fun v => v.category).sum ≤ 8) (k : ∀ v μ', P v μ' → J G X (pc + 3) lv (.long v :: st) μ') : J G X pc lv (a2 :: a1 :: a0 :: st) μ :=
  j_callS (av := [a0, a1, a2]) C hd hlk hm hE hdd rfl hst (fun r μ2 h => by obtain ⟨v, rfl, h⟩ := h; exact k v μ2 h)
theorem cVe4 {md : MD} {d' o ix : Nat} {v : Int32} {μ' : Mem} {a0 a1 a2 a3 : Value} (C : Cx G X own cc d) (hd : decode cc pc = .ok (.invokevirtual ix, 3)) (hlk : Cond.methodLink own ix md.1 ∈ WS) (hm : MyV md 4) (hE : Ev G md d' [rf G o, a0, a1, a2, a3] μ (PIe v μ')) (hdd : d' + 1 ≤ d) (ho : Rcv G o md.1.cls) (hst : (st.map fun v => v.category).sum ≤ 8) (k : J G X (pc + 3) lv (.int v :: st) μ') : J G X pc lv (a3 :: a2 :: a1 :: a0 :: rf G o :: st) μ :=
  j_callV (av := [a0, a1, a2, a3]) C hd hlk hm hE hdd rfl ho hst (fun r μ2 h => by obtain ⟨rfl, rfl⟩ := h; exact k)
theorem cVi4 {md : MD} {d' o ix : Nat} {P : Int32 → Mem → Prop} {a0 a1 a2 a3 : Value} (C : Cx G X own cc d) (hd : decode cc pc = .ok (.invokevirtual ix, 3)) (hlk : Cond.methodLink own ix md.1 ∈ WS) (hm : MyV md 4) (hE : Ev G md d' [rf G o, a0, a1, a2, a3] μ (PI P)) (hdd : d' + 1 ≤ d) (ho : Rcv G o md.1.cls) (hst : (st.map fun v => v.category).sum ≤ 8) (k : ∀ v μ', P v μ' → J G X (pc + 3) lv (.int v :: st) μ') : J G X pc lv (a3 :: a2 :: a1 :: a0 :: rf G o :: st) μ :=
  j_callV (av := [a0, a1, a2, a3]) C hd hlk hm hE hdd rfl ho hst (fun r μ2 h => by obtain ⟨v, rfl, h⟩ := h; exact k v μ2 h)
theorem cVv4 {md : MD} {d' o ix : Nat} {P : Mem → Prop} {a0 a1 a2 a3 : Value} (C : Cx G X own cc d) (hd : decode cc pc = .ok (.invokevirtual ix, 3)) (hlk : Cond.methodLink own ix md.1 ∈ WS) (hm : MyV md 4) (hE : Ev G md d' [rf G o, a0, a1, a2, a3] μ (PV P)) (hdd : d' + 1 ≤ d) (ho : Rcv G o md.1.cls) (hst : (st.map fun v => v.category).sum ≤ 8) (k : ∀ μ', P μ' → J G X (pc + 3) lv st μ') : J G X pc lv (a3 :: a2 :: a1 :: a0 :: rf G o :: st) μ :=
  j_callV (av := [a0, a1, a2, a3]) C hd hlk hm hE hdd rfl ho hst (fun r μ2 h => by obtain ⟨rfl, h⟩ := h; exact k μ2 h)
theorem cVl4 {md : MD} {d' o ix : Nat} {P : Int64 → Mem → Prop} {a0 a1 a2 a3 : Value} (C : Cx G X own cc d) (hd : decode cc pc = .ok (.invokevirtual ix, 3)) (hlk : Cond.methodLink own ix md.1 ∈ WS) (hm : MyV md 4) (hE : Ev G md d' [rf G o, a0, a1, a2, a3] μ (PL P)) (hdd : d' + 1 ≤ d) (ho : Rcv G o md.1.cls) (hst : (st.map fun v => v.category).sum ≤ 8) (k : ∀ v μ', P v μ' → J G X (pc + 3) lv (.long v :: st) μ') : J G X pc lv (a3 :: a2 :: a1 :: a0 :: rf G o :: st) μ :=
  j_callV (av := [a0, a1, a2, a3]) C hd hlk hm hE hdd rfl ho hst (fun r μ2 h => by obtain ⟨v, rfl, h⟩ := h; exact k v μ2 h)
theorem cSe4 {md : MD} {d' ix : Nat} {v : Int32} {μ' : Mem} {a0 a1 a2 a3 : Value} (C : Cx G X own cc d) (hd : decode cc pc = .ok (.invokestatic ix, 3)) (hlk : Cond.methodLink own ix md.1 ∈ WS) (hm : MyS md 4) (hE : Ev G md d' [a0, a1, a2, a3] μ (PIe v μ')) (hdd : d' + 1 ≤ d) (hst : (st.map fun v => v.category).sum ≤ 8) (k : J G X (pc + 3) lv (.int v :: st) μ') : J G X pc lv (a3 :: a2 :: a1 :: a0 :: st) μ :=
  j_callS (av := [a0, a1, a2, a3]) C hd hlk hm hE hdd rfl hst (fun r μ2 h => by obtain ⟨rfl, rfl⟩ := h; exact k)
theorem cSi4 {md : MD} {d' ix : Nat} {P : Int32 → Mem → Prop} {a0 a1 a2 a3 : Value} (C : Cx G X own cc d) (hd : decode cc pc = .ok (.invokestatic ix, 3)) (hlk : Cond.methodLink own ix md.1 ∈ WS) (hm : MyS md 4) (hE : Ev G md d' [a0, a1, a2, a3] μ (PI P)) (hdd : d' + 1 ≤ d) (hst : (st.map fun v => v.category).sum ≤ 8) (k : ∀ v μ', P v μ' → J G X (pc + 3) lv (.int v :: st) μ') : J G X pc lv (a3 :: a2 :: a1 :: a0 :: st) μ :=
  j_callS (av := [a0, a1, a2, a3]) C hd hlk hm hE hdd rfl hst (fun r μ2 h => by obtain ⟨v, rfl, h⟩ := h; exact k v μ2 h)
theorem cSv4 {md : MD} {d' ix : Nat} {P : Mem → Prop} {a0 a1 a2 a3 : Value} (C : Cx G X own cc d) (hd : decode cc pc = .ok (.invokestatic ix, 3)) (hlk : Cond.methodLink own ix md.1 ∈ WS) (hm : MyS md 4) (hE : Ev G md d' [a0, a1, a2, a3] μ (PV P)) (hdd : d' + 1 ≤ d) (hst : (st.map fun v => v.category).sum ≤ 8) (k : ∀ μ', P μ' → J G X (pc + 3) lv st μ') : J G X pc lv (a3 :: a2 :: a1 :: a0 :: st) μ :=
  j_callS (av := [a0, a1, a2, a3]) C hd hlk hm hE hdd rfl hst (fun r μ2 h => by obtain ⟨rfl, h⟩ := h; exact k μ2 h)
theorem cSl4 {md : MD} {d' ix : Nat} {P : Int64 → Mem → Prop} {a0 a1 a2 a3 : Value} (C : Cx G X own cc d) (hd : decode cc pc = .ok (.invokestatic ix, 3)) (hlk : Cond.methodLink own ix md.1 ∈ WS) (hm : MyS md 4) (hE : Ev G md d' [a0, a1, a2, a3] μ (PL P)) (hdd : d' + 1 ≤ d) (hst : (st.map fun v => v.category).sum ≤ 8) (k : ∀ v μ', P v μ' → J G X (pc + 3) lv (.long v :: st) μ') : J G X pc lv (a3 :: a2 :: a1 :: a0 :: st) μ :=
  j_callS (av := [a0, a1, a2, a3]) C hd hlk hm hE hdd rfl hst (fun r μ2 h => by obtain ⟨v, rfl, h⟩ := h; exact k v μ2 h)
theorem g0_0 {ix : Nat} {h : Nat} (hh : isH h) (C : Cx G X own cc d) (hd : decode cc pc = .ok (.getfield ix, 3)) (hlk : Cond.fieldLink own ix "TrolleyAtEleven$House" "floors" "I" ∈ WS) (k : J G X (pc + 3) lv (.int (nI (μ h 0)) :: st) μ) : J G X pc lv (rf G h :: st) μ :=
  j_get (ci := 0) (C := C) uX0 rfl hd (by have := isH_le hh; omega) (ent0 hh) 0 (by decide) hlk rfl rfl k
theorem p0_0 {ix v : Nat} {h : Nat} (hh : isH h) (C : Cx G X own cc d) (hd : decode cc pc = .ok (.putfield ix, 3)) (hlk : Cond.fieldLink own ix "TrolleyAtEleven$House" "floors" "I" ∈ WS) (k : J G X (pc + 3) lv st (up μ h 0 v)) : J G X pc lv (.int (nI v) :: rf G h :: st) μ :=
  j_putI (x := 0) (ci := 0) (C := C) uX0 tyX0_ok nmX0 rfl hd (by have := isH_le hh; omega) (ent0 hh) 0 (by decide) hlk rfl rfl (ty := tyX0 0) (by decide +kernel) rfl rfl (by show 0 < 7; decide) (by rw [ent0 hh, up_self]; rfl) (fun b hb => up_ne hb) k
theorem g0_1 {ix : Nat} {h : Nat} (hh : isH h) (C : Cx G X own cc d) (hd : decode cc pc = .ok (.getfield ix, 3)) (hlk : Cond.fieldLink own ix "TrolleyAtEleven$House" "kind" "[I" ∈ WS) (k : J G X (pc + 3) lv (rf G (h + 1) :: st) μ) : J G X pc lv (rf G h :: st) μ :=
  j_get (ci := 0) (C := C) uX0 rfl hd (by have := isH_le hh; omega) (ent0 hh) 1 (by decide) hlk rfl rfl k
theorem g0_2 {ix : Nat} {h : Nat} (hh : isH h) (C : Cx G X own cc d) (hd : decode cc pc = .ok (.getfield ix, 3)) (hlk : Cond.fieldLink own ix "TrolleyAtEleven$House" "level" "[I" ∈ WS) (k : J G X (pc + 3) lv (rf G (h + 2) :: st) μ) : J G X pc lv (rf G h :: st) μ :=
  j_get (ci := 0) (C := C) uX0 rfl hd (by have := isH_le hh; omega) (ent0 hh) 2 (by decide) hlk rfl rfl k
theorem g0_3 {ix : Nat} {h : Nat} (hh : isH h) (C : Cx G X own cc d) (hd : decode cc pc = .ok (.getfield ix, 3)) (hlk : Cond.fieldLink own ix "TrolleyAtEleven$House" "people" "[I" ∈ WS) (k : J G X (pc + 3) lv (rf G (h + 3) :: st) μ) : J G X pc lv (rf G h :: st) μ :=
  j_get (ci := 0) (C := C) uX0 rfl hd (by have := isH_le hh; omega) (ent0 hh) 3 (by decide) hlk rfl rfl k
theorem g0_4 {ix : Nat} {h : Nat} (hh : isH h) (C : Cx G X own cc d) (hd : decode cc pc = .ok (.getfield ix, 3)) (hlk : Cond.fieldLink own ix "TrolleyAtEleven$House" "chat" "[I" ∈ WS) (k : J G X (pc + 3) lv (rf G (h + 4) :: st) μ) : J G X pc lv (rf G h :: st) μ :=
  j_get (ci := 0) (C := C) uX0 rfl hd (by have := isH_le hh; omega) (ent0 hh) 4 (by decide) hlk rfl rfl k
theorem g0_5 {ix : Nat} {h : Nat} (hh : isH h) (C : Cx G X own cc d) (hd : decode cc pc = .ok (.getfield ix, 3)) (hlk : Cond.fieldLink own ix "TrolleyAtEleven$House" "order" "[I" ∈ WS) (k : J G X (pc + 3) lv (rf G (h + 5) :: st) μ) : J G X pc lv (rf G h :: st) μ :=
  j_get (ci := 0) (C := C) uX0 rfl hd (by have := isH_le hh; omega) (ent0 hh) 5 (by decide) hlk rfl rfl k
theorem g0_6 {ix : Nat} {h : Nat} (hh : isH h) (C : Cx G X own cc d) (hd : decode cc pc = .ok (.getfield ix, 3)) (hlk : Cond.fieldLink own ix "TrolleyAtEleven$House" "settings" "[I" ∈ WS) (k : J G X (pc + 3) lv (rf G (h + 6) :: st) μ) : J G X pc lv (rf G h :: st) μ :=
  j_get (ci := 0) (C := C) uX0 rfl hd (by have := isH_le hh; omega) (ent0 hh) 6 (by decide) hlk rfl rfl k
theorem g1_0 {ix : Nat} (C : Cx G X own cc d) (hd : decode cc pc = .ok (.getfield ix, 3)) (hlk : Cond.fieldLink own ix "TrolleyAtEleven$Orders" "order" "[I" ∈ WS) (k : J G X (pc + 3) lv (rf G 31 :: st) μ) : J G X pc lv (rf G 30 :: st) μ :=
  j_get (ci := 1) (C := C) uX1 rfl hd (by decide) (ent1) 0 (by decide) hlk rfl rfl k
theorem g1_1 {ix : Nat} (C : Cx G X own cc d) (hd : decode cc pc = .ok (.getfield ix, 3)) (hlk : Cond.fieldLink own ix "TrolleyAtEleven$Orders" "size" "I" ∈ WS) (k : J G X (pc + 3) lv (.int (nI (μ 30 1)) :: st) μ) : J G X pc lv (rf G 30 :: st) μ :=
  j_get (ci := 1) (C := C) uX1 rfl hd (by decide) (ent1) 1 (by decide) hlk rfl rfl k
theorem p1_1 {ix v : Nat} (C : Cx G X own cc d) (hd : decode cc pc = .ok (.putfield ix, 3)) (hlk : Cond.fieldLink own ix "TrolleyAtEleven$Orders" "size" "I" ∈ WS) (k : J G X (pc + 3) lv st (up μ 30 1 v)) : J G X pc lv (.int (nI v) :: rf G 30 :: st) μ :=
  j_putI (x := 0) (ci := 1) (C := C) uX1 tyX1_ok nmX1 rfl hd (by decide) (ent1) 1 (by decide) hlk rfl rfl (ty := tyX1 1) (by decide +kernel) rfl rfl (by show 1 < 2; decide) (by rw [ent1, up_self]; rfl) (fun b hb => up_ne hb) k
theorem g2_0 {ix : Nat} (C : Cx G X own cc d) (hd : decode cc pc = .ok (.getfield ix, 3)) (hlk : Cond.fieldLink own ix "TrolleyAtEleven$Reader" "letters" "[I" ∈ WS) (k : J G X (pc + 3) lv (rf G 35 :: st) μ) : J G X pc lv (rf G 34 :: st) μ :=
  j_get (ci := 2) (C := C) uX2 rfl hd (by decide) (ent2) 0 (by decide) hlk rfl rfl k
theorem g2_1 {ix : Nat} (C : Cx G X own cc d) (hd : decode cc pc = .ok (.getfield ix, 3)) (hlk : Cond.fieldLink own ix "TrolleyAtEleven$Reader" "length" "I" ∈ WS) (k : J G X (pc + 3) lv (.int (nI (μ 34 1)) :: st) μ) : J G X pc lv (rf G 34 :: st) μ :=
  j_get (ci := 2) (C := C) uX2 rfl hd (by decide) (ent2) 1 (by decide) hlk rfl rfl k
theorem p2_1 {ix v : Nat} (C : Cx G X own cc d) (hd : decode cc pc = .ok (.putfield ix, 3)) (hlk : Cond.fieldLink own ix "TrolleyAtEleven$Reader" "length" "I" ∈ WS) (k : J G X (pc + 3) lv st (up μ 34 1 v)) : J G X pc lv (.int (nI v) :: rf G 34 :: st) μ :=
  j_putI (x := 0) (ci := 2) (C := C) uX2 tyX2_ok nmX2 rfl hd (by decide) (ent2) 1 (by decide) hlk rfl rfl (ty := tyX2 1) (by decide +kernel) rfl rfl (by show 1 < 2; decide) (by rw [ent2, up_self]; rfl) (fun b hb => up_ne hb) k
theorem g3_0 {ix : Nat} (C : Cx G X own cc d) (hd : decode cc pc = .ok (.getfield ix, 3)) (hlk : Cond.fieldLink own ix "TrolleyAtEleven$Round" "totals" "[I" ∈ WS) (k : J G X (pc + 3) lv (rf G 23 :: st) μ) : J G X pc lv (rf G 22 :: st) μ :=
  j_get (ci := 3) (C := C) uX3 rfl hd (by decide) (ent3) 0 (by decide) hlk rfl rfl k
theorem g3_1 {ix : Nat} (C : Cx G X own cc d) (hd : decode cc pc = .ok (.getfield ix, 3)) (hlk : Cond.fieldLink own ix "TrolleyAtEleven$Round" "minute" "[I" ∈ WS) (k : J G X (pc + 3) lv (rf G 24 :: st) μ) : J G X pc lv (rf G 22 :: st) μ :=
  j_get (ci := 3) (C := C) uX3 rfl hd (by decide) (ent3) 1 (by decide) hlk rfl rfl k
theorem g3_2 {ix : Nat} (C : Cx G X own cc d) (hd : decode cc pc = .ok (.getfield ix, 3)) (hlk : Cond.fieldLink own ix "TrolleyAtEleven$Round" "warm" "[I" ∈ WS) (k : J G X (pc + 3) lv (rf G 25 :: st) μ) : J G X pc lv (rf G 22 :: st) μ :=
  j_get (ci := 3) (C := C) uX3 rfl hd (by decide) (ent3) 2 (by decide) hlk rfl rfl k
theorem g3_3 {ix : Nat} (C : Cx G X own cc d) (hd : decode cc pc = .ok (.getfield ix, 3)) (hlk : Cond.fieldLink own ix "TrolleyAtEleven$Round" "served" "[I" ∈ WS) (k : J G X (pc + 3) lv (rf G 26 :: st) μ) : J G X pc lv (rf G 22 :: st) μ :=
  j_get (ci := 3) (C := C) uX3 rfl hd (by decide) (ent3) 3 (by decide) hlk rfl rfl k
theorem g3_4 {ix : Nat} (C : Cx G X own cc d) (hd : decode cc pc = .ok (.getfield ix, 3)) (hlk : Cond.fieldLink own ix "TrolleyAtEleven$Round" "iced" "[I" ∈ WS) (k : J G X (pc + 3) lv (rf G 27 :: st) μ) : J G X pc lv (rf G 22 :: st) μ :=
  j_get (ci := 3) (C := C) uX3 rfl hd (by decide) (ent3) 4 (by decide) hlk rfl rfl k
theorem g3_5 {ix : Nat} (C : Cx G X own cc d) (hd : decode cc pc = .ok (.getfield ix, 3)) (hlk : Cond.fieldLink own ix "TrolleyAtEleven$Round" "cold" "[I" ∈ WS) (k : J G X (pc + 3) lv (rf G 28 :: st) μ) : J G X pc lv (rf G 22 :: st) μ :=
  j_get (ci := 3) (C := C) uX3 rfl hd (by decide) (ent3) 5 (by decide) hlk rfl rfl k
theorem g3_6 {ix : Nat} (C : Cx G X own cc d) (hd : decode cc pc = .ok (.getfield ix, 3)) (hlk : Cond.fieldLink own ix "TrolleyAtEleven$Round" "standing" "[I" ∈ WS) (k : J G X (pc + 3) lv (rf G 29 :: st) μ) : J G X pc lv (rf G 22 :: st) μ :=
  j_get (ci := 3) (C := C) uX3 rfl hd (by decide) (ent3) 6 (by decide) hlk rfl rfl k
theorem g3_7 {ix : Nat} (C : Cx G X own cc d) (hd : decode cc pc = .ok (.getfield ix, 3)) (hlk : Cond.fieldLink own ix "TrolleyAtEleven$Round" "clock" "I" ∈ WS) (k : J G X (pc + 3) lv (.int (nI (μ 22 7)) :: st) μ) : J G X pc lv (rf G 22 :: st) μ :=
  j_get (ci := 3) (C := C) uX3 rfl hd (by decide) (ent3) 7 (by decide) hlk rfl rfl k
theorem p3_7 {ix v : Nat} (C : Cx G X own cc d) (hd : decode cc pc = .ok (.putfield ix, 3)) (hlk : Cond.fieldLink own ix "TrolleyAtEleven$Round" "clock" "I" ∈ WS) (k : J G X (pc + 3) lv st (up μ 22 7 v)) : J G X pc lv (.int (nI v) :: rf G 22 :: st) μ :=
  j_putI (x := 0) (ci := 3) (C := C) uX3 tyX3_ok nmX3 rfl hd (by decide) (ent3) 7 (by decide) hlk rfl rfl (ty := tyX3 7) (by decide +kernel) rfl rfl (by show 7 < 14; decide) (by rw [ent3, up_self]; rfl) (fun b hb => up_ne hb) k
theorem g3_8 {ix : Nat} (C : Cx G X own cc d) (hd : decode cc pc = .ok (.getfield ix, 3)) (hlk : Cond.fieldLink own ix "TrolleyAtEleven$Round" "cups" "I" ∈ WS) (k : J G X (pc + 3) lv (.int (nI (μ 22 8)) :: st) μ) : J G X pc lv (rf G 22 :: st) μ :=
  j_get (ci := 3) (C := C) uX3 rfl hd (by decide) (ent3) 8 (by decide) hlk rfl rfl k
theorem p3_8 {ix v : Nat} (C : Cx G X own cc d) (hd : decode cc pc = .ok (.putfield ix, 3)) (hlk : Cond.fieldLink own ix "TrolleyAtEleven$Round" "cups" "I" ∈ WS) (k : J G X (pc + 3) lv st (up μ 22 8 v)) : J G X pc lv (.int (nI v) :: rf G 22 :: st) μ :=
  j_putI (x := 0) (ci := 3) (C := C) uX3 tyX3_ok nmX3 rfl hd (by decide) (ent3) 8 (by decide) hlk rfl rfl (ty := tyX3 8) (by decide +kernel) rfl rfl (by show 8 < 14; decide) (by rw [ent3, up_self]; rfl) (fun b hb => up_ne hb) k
theorem g3_9 {ix : Nat} (C : Cx G X own cc d) (hd : decode cc pc = .ok (.getfield ix, 3)) (hlk : Cond.fieldLink own ix "TrolleyAtEleven$Round" "warmWhenFilled" "I" ∈ WS) (k : J G X (pc + 3) lv (.int (nI (μ 22 9)) :: st) μ) : J G X pc lv (rf G 22 :: st) μ :=
  j_get (ci := 3) (C := C) uX3 rfl hd (by decide) (ent3) 9 (by decide) hlk rfl rfl k
theorem p3_9 {ix v : Nat} (C : Cx G X own cc d) (hd : decode cc pc = .ok (.putfield ix, 3)) (hlk : Cond.fieldLink own ix "TrolleyAtEleven$Round" "warmWhenFilled" "I" ∈ WS) (k : J G X (pc + 3) lv st (up μ 22 9 v)) : J G X pc lv (.int (nI v) :: rf G 22 :: st) μ :=
  j_putI (x := 0) (ci := 3) (C := C) uX3 tyX3_ok nmX3 rfl hd (by decide) (ent3) 9 (by decide) hlk rfl rfl (ty := tyX3 9) (by decide +kernel) rfl rfl (by show 9 < 14; decide) (by rw [ent3, up_self]; rfl) (fun b hb => up_ne hb) k
theorem g3_10 {ix : Nat} (C : Cx G X own cc d) (hd : decode cc pc = .ok (.getfield ix, 3)) (hlk : Cond.fieldLink own ix "TrolleyAtEleven$Round" "filledAt" "I" ∈ WS) (k : J G X (pc + 3) lv (.int (nI (μ 22 10)) :: st) μ) : J G X pc lv (rf G 22 :: st) μ :=
  j_get (ci := 3) (C := C) uX3 rfl hd (by decide) (ent3) 10 (by decide) hlk rfl rfl k
theorem p3_10 {ix v : Nat} (C : Cx G X own cc d) (hd : decode cc pc = .ok (.putfield ix, 3)) (hlk : Cond.fieldLink own ix "TrolleyAtEleven$Round" "filledAt" "I" ∈ WS) (k : J G X (pc + 3) lv st (up μ 22 10 v)) : J G X pc lv (.int (nI v) :: rf G 22 :: st) μ :=
  j_putI (x := 0) (ci := 3) (C := C) uX3 tyX3_ok nmX3 rfl hd (by decide) (ent3) 10 (by decide) hlk rfl rfl (ty := tyX3 10) (by decide +kernel) rfl rfl (by show 10 < 14; decide) (by rw [ent3, up_self]; rfl) (fun b hb => up_ne hb) k
theorem g3_11 {ix : Nat} (C : Cx G X own cc d) (hd : decode cc pc = .ok (.getfield ix, 3)) (hlk : Cond.fieldLink own ix "TrolleyAtEleven$Round" "icedLeft" "I" ∈ WS) (k : J G X (pc + 3) lv (.int (nI (μ 22 11)) :: st) μ) : J G X pc lv (rf G 22 :: st) μ :=
  j_get (ci := 3) (C := C) uX3 rfl hd (by decide) (ent3) 11 (by decide) hlk rfl rfl k
theorem p3_11 {ix v : Nat} (C : Cx G X own cc d) (hd : decode cc pc = .ok (.putfield ix, 3)) (hlk : Cond.fieldLink own ix "TrolleyAtEleven$Round" "icedLeft" "I" ∈ WS) (k : J G X (pc + 3) lv st (up μ 22 11 v)) : J G X pc lv (.int (nI v) :: rf G 22 :: st) μ :=
  j_putI (x := 0) (ci := 3) (C := C) uX3 tyX3_ok nmX3 rfl hd (by decide) (ent3) 11 (by decide) hlk rfl rfl (ty := tyX3 11) (by decide +kernel) rfl rfl (by show 11 < 14; decide) (by rw [ent3, up_self]; rfl) (fun b hb => up_ne hb) k
theorem g3_12 {ix : Nat} (C : Cx G X own cc d) (hd : decode cc pc = .ok (.getfield ix, 3)) (hlk : Cond.fieldLink own ix "TrolleyAtEleven$Round" "othersLeft" "I" ∈ WS) (k : J G X (pc + 3) lv (.int (nI (μ 22 12)) :: st) μ) : J G X pc lv (rf G 22 :: st) μ :=
  j_get (ci := 3) (C := C) uX3 rfl hd (by decide) (ent3) 12 (by decide) hlk rfl rfl k
theorem p3_12 {ix v : Nat} (C : Cx G X own cc d) (hd : decode cc pc = .ok (.putfield ix, 3)) (hlk : Cond.fieldLink own ix "TrolleyAtEleven$Round" "othersLeft" "I" ∈ WS) (k : J G X (pc + 3) lv st (up μ 22 12 v)) : J G X pc lv (.int (nI v) :: rf G 22 :: st) μ :=
  j_putI (x := 0) (ci := 3) (C := C) uX3 tyX3_ok nmX3 rfl hd (by decide) (ent3) 12 (by decide) hlk rfl rfl (ty := tyX3 12) (by decide +kernel) rfl rfl (by show 12 < 14; decide) (by rw [ent3, up_self]; rfl) (fun b hb => up_ne hb) k
theorem g3_13 {ix : Nat} (C : Cx G X own cc d) (hd : decode cc pc = .ok (.getfield ix, 3)) (hlk : Cond.fieldLink own ix "TrolleyAtEleven$Round" "oneBunEach" "Z" ∈ WS) (k : J G X (pc + 3) lv (.int (nI (μ 22 13)) :: st) μ) : J G X pc lv (rf G 22 :: st) μ :=
  j_get (ci := 3) (C := C) uX3 rfl hd (by decide) (ent3) 13 (by decide) hlk rfl rfl k
theorem p3_13 {ix v : Nat} (C : Cx G X own cc d) (hd : decode cc pc = .ok (.putfield ix, 3)) (hlk : Cond.fieldLink own ix "TrolleyAtEleven$Round" "oneBunEach" "Z" ∈ WS) (hz : v = 0 ∨ v = 1) (k : J G X (pc + 3) lv st (up μ 22 13 v)) : J G X pc lv (.int (nI v) :: rf G 22 :: st) μ :=
  j_putI (x := 0) (ci := 3) (C := C) uX3 tyX3_ok nmX3 rfl hd (by decide) (ent3) 13 (by decide) hlk rfl rfl (ty := tyX3 13) (by decide +kernel) (by rcases hz with rfl | rfl <;> rfl) (by rcases hz with rfl | rfl <;> rfl) (by show 13 < 14; decide) (by rw [ent3, up_self]; rfl) (fun b hb => up_ne hb) k
theorem g4_0 {ix : Nat} (C : Cx G X own cc d) (hd : decode cc pc = .ok (.getfield ix, 3)) (hlk : Cond.fieldLink own ix "TrolleyAtEleven" "now" "LTrolleyAtEleven$House;" ∈ WS) (k : J G X (pc + 3) lv (rf G 1 :: st) μ) : J G X pc lv (rf G 0 :: st) μ :=
  j_get (ci := 4) (C := C) uX4 rfl hd (by decide) (ent4) 0 (by decide) hlk rfl rfl k
theorem g4_1 {ix : Nat} (C : Cx G X own cc d) (hd : decode cc pc = .ok (.getfield ix, 3)) (hlk : Cond.fieldLink own ix "TrolleyAtEleven" "trial" "LTrolleyAtEleven$House;" ∈ WS) (k : J G X (pc + 3) lv (rf G 8 :: st) μ) : J G X pc lv (rf G 0 :: st) μ :=
  j_get (ci := 4) (C := C) uX4 rfl hd (by decide) (ent4) 1 (by decide) hlk rfl rfl k
theorem g4_2 {ix : Nat} (C : Cx G X own cc d) (hd : decode cc pc = .ok (.getfield ix, 3)) (hlk : Cond.fieldLink own ix "TrolleyAtEleven" "taken" "LTrolleyAtEleven$House;" ∈ WS) (k : J G X (pc + 3) lv (rf G 15 :: st) μ) : J G X pc lv (rf G 0 :: st) μ :=
  j_get (ci := 4) (C := C) uX4 rfl hd (by decide) (ent4) 2 (by decide) hlk rfl rfl k
theorem g4_3 {ix : Nat} (C : Cx G X own cc d) (hd : decode cc pc = .ok (.getfield ix, 3)) (hlk : Cond.fieldLink own ix "TrolleyAtEleven" "isTaken" "Z" ∈ WS) (k : J G X (pc + 3) lv (.int (nI (μ 0 3)) :: st) μ) : J G X pc lv (rf G 0 :: st) μ :=
  j_get (ci := 4) (C := C) uX4 rfl hd (by decide) (ent4) 3 (by decide) hlk rfl rfl k
theorem p4_3 {ix v : Nat} (C : Cx G X own cc d) (hd : decode cc pc = .ok (.putfield ix, 3)) (hlk : Cond.fieldLink own ix "TrolleyAtEleven" "isTaken" "Z" ∈ WS) (hz : v = 0 ∨ v = 1) (k : J G X (pc + 3) lv st (up μ 0 3 v)) : J G X pc lv (.int (nI v) :: rf G 0 :: st) μ :=
  j_putI (x := 0) (ci := 4) (C := C) uX4 tyX4_ok nmX4 rfl hd (by decide) (ent4) 3 (by decide) hlk rfl rfl (ty := tyX4 3) (by decide +kernel) (by rcases hz with rfl | rfl <;> rfl) (by rcases hz with rfl | rfl <;> rfl) (by show 3 < 12; decide) (by rw [ent4, up_self]; rfl) (fun b hb => up_ne hb) k
theorem g4_4 {ix : Nat} (C : Cx G X own cc d) (hd : decode cc pc = .ok (.getfield ix, 3)) (hlk : Cond.fieldLink own ix "TrolleyAtEleven" "round" "LTrolleyAtEleven$Round;" ∈ WS) (k : J G X (pc + 3) lv (rf G 22 :: st) μ) : J G X pc lv (rf G 0 :: st) μ :=
  j_get (ci := 4) (C := C) uX4 rfl hd (by decide) (ent4) 4 (by decide) hlk rfl rfl k
theorem g4_5 {ix : Nat} (C : Cx G X own cc d) (hd : decode cc pc = .ok (.getfield ix, 3)) (hlk : Cond.fieldLink own ix "TrolleyAtEleven" "orders" "LTrolleyAtEleven$Orders;" ∈ WS) (k : J G X (pc + 3) lv (rf G 30 :: st) μ) : J G X pc lv (rf G 0 :: st) μ :=
  j_get (ci := 4) (C := C) uX4 rfl hd (by decide) (ent4) 5 (by decide) hlk rfl rfl k
theorem g4_6 {ix : Nat} (C : Cx G X own cc d) (hd : decode cc pc = .ok (.getfield ix, 3)) (hlk : Cond.fieldLink own ix "TrolleyAtEleven" "found" "[I" ∈ WS) (k : J G X (pc + 3) lv (rf G 32 :: st) μ) : J G X pc lv (rf G 0 :: st) μ :=
  j_get (ci := 4) (C := C) uX4 rfl hd (by decide) (ent4) 6 (by decide) hlk rfl rfl k
theorem g4_7 {ix : Nat} (C : Cx G X own cc d) (hd : decode cc pc = .ok (.getfield ix, 3)) (hlk : Cond.fieldLink own ix "TrolleyAtEleven" "coldDays" "[I" ∈ WS) (k : J G X (pc + 3) lv (rf G 33 :: st) μ) : J G X pc lv (rf G 0 :: st) μ :=
  j_get (ci := 4) (C := C) uX4 rfl hd (by decide) (ent4) 7 (by decide) hlk rfl rfl k
theorem g4_8 {ix : Nat} (C : Cx G X own cc d) (hd : decode cc pc = .ok (.getfield ix, 3)) (hlk : Cond.fieldLink own ix "TrolleyAtEleven" "reader" "LTrolleyAtEleven$Reader;" ∈ WS) (k : J G X (pc + 3) lv (rf G 34 :: st) μ) : J G X pc lv (rf G 0 :: st) μ :=
  j_get (ci := 4) (C := C) uX4 rfl hd (by decide) (ent4) 8 (by decide) hlk rfl rfl k
theorem g4_9 {ix : Nat} (C : Cx G X own cc d) (hd : decode cc pc = .ok (.getfield ix, 3)) (hlk : Cond.fieldLink own ix "TrolleyAtEleven" "numbers" "[I" ∈ WS) (k : J G X (pc + 3) lv (rf G 36 :: st) μ) : J G X pc lv (rf G 0 :: st) μ :=
  j_get (ci := 4) (C := C) uX4 rfl hd (by decide) (ent4) 9 (by decide) hlk rfl rfl k
theorem g4_10 {ix : Nat} (C : Cx G X own cc d) (hd : decode cc pc = .ok (.getfield ix, 3)) (hlk : Cond.fieldLink own ix "TrolleyAtEleven" "numberCount" "I" ∈ WS) (k : J G X (pc + 3) lv (.int (nI (μ 0 10)) :: st) μ) : J G X pc lv (rf G 0 :: st) μ :=
  j_get (ci := 4) (C := C) uX4 rfl hd (by decide) (ent4) 10 (by decide) hlk rfl rfl k
theorem p4_10 {ix v : Nat} (C : Cx G X own cc d) (hd : decode cc pc = .ok (.putfield ix, 3)) (hlk : Cond.fieldLink own ix "TrolleyAtEleven" "numberCount" "I" ∈ WS) (k : J G X (pc + 3) lv st (up μ 0 10 v)) : J G X pc lv (.int (nI v) :: rf G 0 :: st) μ :=
  j_putI (x := 0) (ci := 4) (C := C) uX4 tyX4_ok nmX4 rfl hd (by decide) (ent4) 10 (by decide) hlk rfl rfl (ty := tyX4 10) (by decide +kernel) rfl rfl (by show 10 < 12; decide) (by rw [ent4, up_self]; rfl) (fun b hb => up_ne hb) k
theorem g4_11 {ix : Nat} (C : Cx G X own cc d) (hd : decode cc pc = .ok (.getfield ix, 3)) (hlk : Cond.fieldLink own ix "TrolleyAtEleven" "refusals" "[I" ∈ WS) (k : J G X (pc + 3) lv (rf G 37 :: st) μ) : J G X pc lv (rf G 0 :: st) μ :=
  j_get (ci := 4) (C := C) uX4 rfl hd (by decide) (ent4) 11 (by decide) hlk rfl rfl k
theorem g5_0 {ix : Nat} (C : Cx G X own cc d) (hd : decode cc pc = .ok (.getfield ix, 3)) (hlk : Cond.fieldLink own ix "TrolleyAtElevenModel" "floors" "I" ∈ WS) (k : J G X (pc + 3) lv (.int (nI (μ 38 0)) :: st) μ) : J G X pc lv (rf G 38 :: st) μ :=
  j_get (ci := 5) (C := C) uX5 rfl hd (by decide) (ent5) 0 (by decide) hlk rfl rfl k
theorem p5_0 {ix v : Nat} (C : Cx G X own cc d) (hd : decode cc pc = .ok (.putfield ix, 3)) (hlk : Cond.fieldLink own ix "TrolleyAtElevenModel" "floors" "I" ∈ WS) (k : J G X (pc + 3) lv st (up μ 38 0 v)) : J G X pc lv (.int (nI v) :: rf G 38 :: st) μ :=
  j_putI (x := 0) (ci := 5) (C := C) uX5 tyX5_ok nmX5 rfl hd (by decide) (ent5) 0 (by decide) hlk rfl rfl (ty := tyX5 0) (by decide +kernel) rfl rfl (by show 0 < 30; decide) (by rw [ent5, up_self]; rfl) (fun b hb => up_ne hb) k
theorem g5_1 {ix : Nat} (C : Cx G X own cc d) (hd : decode cc pc = .ok (.getfield ix, 3)) (hlk : Cond.fieldLink own ix "TrolleyAtElevenModel" "kind" "[I" ∈ WS) (k : J G X (pc + 3) lv (rf G 39 :: st) μ) : J G X pc lv (rf G 38 :: st) μ :=
  j_get (ci := 5) (C := C) uX5 rfl hd (by decide) (ent5) 1 (by decide) hlk rfl rfl k
theorem g5_2 {ix : Nat} (C : Cx G X own cc d) (hd : decode cc pc = .ok (.getfield ix, 3)) (hlk : Cond.fieldLink own ix "TrolleyAtElevenModel" "level" "[I" ∈ WS) (k : J G X (pc + 3) lv (rf G 40 :: st) μ) : J G X pc lv (rf G 38 :: st) μ :=
  j_get (ci := 5) (C := C) uX5 rfl hd (by decide) (ent5) 2 (by decide) hlk rfl rfl k
theorem g5_3 {ix : Nat} (C : Cx G X own cc d) (hd : decode cc pc = .ok (.getfield ix, 3)) (hlk : Cond.fieldLink own ix "TrolleyAtElevenModel" "people" "[I" ∈ WS) (k : J G X (pc + 3) lv (rf G 41 :: st) μ) : J G X pc lv (rf G 38 :: st) μ :=
  j_get (ci := 5) (C := C) uX5 rfl hd (by decide) (ent5) 3 (by decide) hlk rfl rfl k
theorem g5_4 {ix : Nat} (C : Cx G X own cc d) (hd : decode cc pc = .ok (.getfield ix, 3)) (hlk : Cond.fieldLink own ix "TrolleyAtElevenModel" "chat" "[I" ∈ WS) (k : J G X (pc + 3) lv (rf G 42 :: st) μ) : J G X pc lv (rf G 38 :: st) μ :=
  j_get (ci := 5) (C := C) uX5 rfl hd (by decide) (ent5) 4 (by decide) hlk rfl rfl k
theorem g5_5 {ix : Nat} (C : Cx G X own cc d) (hd : decode cc pc = .ok (.getfield ix, 3)) (hlk : Cond.fieldLink own ix "TrolleyAtElevenModel" "order" "[I" ∈ WS) (k : J G X (pc + 3) lv (rf G 43 :: st) μ) : J G X pc lv (rf G 38 :: st) μ :=
  j_get (ci := 5) (C := C) uX5 rfl hd (by decide) (ent5) 5 (by decide) hlk rfl rfl k
theorem g5_6 {ix : Nat} (C : Cx G X own cc d) (hd : decode cc pc = .ok (.getfield ix, 3)) (hlk : Cond.fieldLink own ix "TrolleyAtElevenModel" "told" "[I" ∈ WS) (k : J G X (pc + 3) lv (rf G 44 :: st) μ) : J G X pc lv (rf G 38 :: st) μ :=
  j_get (ci := 5) (C := C) uX5 rfl hd (by decide) (ent5) 6 (by decide) hlk rfl rfl k
theorem g5_7 {ix : Nat} (C : Cx G X own cc d) (hd : decode cc pc = .ok (.getfield ix, 3)) (hlk : Cond.fieldLink own ix "TrolleyAtElevenModel" "bun" "[I" ∈ WS) (k : J G X (pc + 3) lv (rf G 45 :: st) μ) : J G X pc lv (rf G 38 :: st) μ :=
  j_get (ci := 5) (C := C) uX5 rfl hd (by decide) (ent5) 7 (by decide) hlk rfl rfl k
theorem g5_8 {ix : Nat} (C : Cx G X own cc d) (hd : decode cc pc = .ok (.getfield ix, 3)) (hlk : Cond.fieldLink own ix "TrolleyAtElevenModel" "total" "[I" ∈ WS) (k : J G X (pc + 3) lv (rf G 46 :: st) μ) : J G X pc lv (rf G 38 :: st) μ :=
  j_get (ci := 5) (C := C) uX5 rfl hd (by decide) (ent5) 8 (by decide) hlk rfl rfl k
theorem g5_9 {ix : Nat} (C : Cx G X own cc d) (hd : decode cc pc = .ok (.getfield ix, 3)) (hlk : Cond.fieldLink own ix "TrolleyAtElevenModel" "minute" "[I" ∈ WS) (k : J G X (pc + 3) lv (rf G 47 :: st) μ) : J G X pc lv (rf G 38 :: st) μ :=
  j_get (ci := 5) (C := C) uX5 rfl hd (by decide) (ent5) 9 (by decide) hlk rfl rfl k
theorem g5_10 {ix : Nat} (C : Cx G X own cc d) (hd : decode cc pc = .ok (.getfield ix, 3)) (hlk : Cond.fieldLink own ix "TrolleyAtElevenModel" "warm" "[I" ∈ WS) (k : J G X (pc + 3) lv (rf G 48 :: st) μ) : J G X pc lv (rf G 38 :: st) μ :=
  j_get (ci := 5) (C := C) uX5 rfl hd (by decide) (ent5) 10 (by decide) hlk rfl rfl k
theorem g5_11 {ix : Nat} (C : Cx G X own cc d) (hd : decode cc pc = .ok (.getfield ix, 3)) (hlk : Cond.fieldLink own ix "TrolleyAtElevenModel" "served" "[I" ∈ WS) (k : J G X (pc + 3) lv (rf G 49 :: st) μ) : J G X pc lv (rf G 38 :: st) μ :=
  j_get (ci := 5) (C := C) uX5 rfl hd (by decide) (ent5) 11 (by decide) hlk rfl rfl k
theorem g5_12 {ix : Nat} (C : Cx G X own cc d) (hd : decode cc pc = .ok (.getfield ix, 3)) (hlk : Cond.fieldLink own ix "TrolleyAtElevenModel" "iced" "[I" ∈ WS) (k : J G X (pc + 3) lv (rf G 50 :: st) μ) : J G X pc lv (rf G 38 :: st) μ :=
  j_get (ci := 5) (C := C) uX5 rfl hd (by decide) (ent5) 12 (by decide) hlk rfl rfl k
theorem g5_13 {ix : Nat} (C : Cx G X own cc d) (hd : decode cc pc = .ok (.getfield ix, 3)) (hlk : Cond.fieldLink own ix "TrolleyAtElevenModel" "stood" "[I" ∈ WS) (k : J G X (pc + 3) lv (rf G 51 :: st) μ) : J G X pc lv (rf G 38 :: st) μ :=
  j_get (ci := 5) (C := C) uX5 rfl hd (by decide) (ent5) 13 (by decide) hlk rfl rfl k
theorem g5_14 {ix : Nat} (C : Cx G X own cc d) (hd : decode cc pc = .ok (.getfield ix, 3)) (hlk : Cond.fieldLink own ix "TrolleyAtElevenModel" "cold" "I" ∈ WS) (k : J G X (pc + 3) lv (.int (nI (μ 38 14)) :: st) μ) : J G X pc lv (rf G 38 :: st) μ :=
  j_get (ci := 5) (C := C) uX5 rfl hd (by decide) (ent5) 14 (by decide) hlk rfl rfl k
theorem p5_14 {ix v : Nat} (C : Cx G X own cc d) (hd : decode cc pc = .ok (.putfield ix, 3)) (hlk : Cond.fieldLink own ix "TrolleyAtElevenModel" "cold" "I" ∈ WS) (k : J G X (pc + 3) lv st (up μ 38 14 v)) : J G X pc lv (.int (nI v) :: rf G 38 :: st) μ :=
  j_putI (x := 0) (ci := 5) (C := C) uX5 tyX5_ok nmX5 rfl hd (by decide) (ent5) 14 (by decide) hlk rfl rfl (ty := tyX5 14) (by decide +kernel) rfl rfl (by show 14 < 30; decide) (by rw [ent5, up_self]; rfl) (fun b hb => up_ne hb) k
theorem g5_15 {ix : Nat} (C : Cx G X own cc d) (hd : decode cc pc = .ok (.getfield ix, 3)) (hlk : Cond.fieldLink own ix "TrolleyAtElevenModel" "oneEach" "Z" ∈ WS) (k : J G X (pc + 3) lv (.int (nI (μ 38 15)) :: st) μ) : J G X pc lv (rf G 38 :: st) μ :=
  j_get (ci := 5) (C := C) uX5 rfl hd (by decide) (ent5) 15 (by decide) hlk rfl rfl k
theorem p5_15 {ix v : Nat} (C : Cx G X own cc d) (hd : decode cc pc = .ok (.putfield ix, 3)) (hlk : Cond.fieldLink own ix "TrolleyAtElevenModel" "oneEach" "Z" ∈ WS) (hz : v = 0 ∨ v = 1) (k : J G X (pc + 3) lv st (up μ 38 15 v)) : J G X pc lv (.int (nI v) :: rf G 38 :: st) μ :=
  j_putI (x := 0) (ci := 5) (C := C) uX5 tyX5_ok nmX5 rfl hd (by decide) (ent5) 15 (by decide) hlk rfl rfl (ty := tyX5 15) (by decide +kernel) (by rcases hz with rfl | rfl <;> rfl) (by rcases hz with rfl | rfl <;> rfl) (by show 15 < 30; decide) (by rw [ent5, up_self]; rfl) (fun b hb => up_ne hb) k
theorem g5_16 {ix : Nat} (C : Cx G X own cc d) (hd : decode cc pc = .ok (.getfield ix, 3)) (hlk : Cond.fieldLink own ix "TrolleyAtElevenModel" "letters" "I" ∈ WS) (k : J G X (pc + 3) lv (.int (nI (μ 38 16)) :: st) μ) : J G X pc lv (rf G 38 :: st) μ :=
  j_get (ci := 5) (C := C) uX5 rfl hd (by decide) (ent5) 16 (by decide) hlk rfl rfl k
theorem p5_16 {ix v : Nat} (C : Cx G X own cc d) (hd : decode cc pc = .ok (.putfield ix, 3)) (hlk : Cond.fieldLink own ix "TrolleyAtElevenModel" "letters" "I" ∈ WS) (k : J G X (pc + 3) lv st (up μ 38 16 v)) : J G X pc lv (.int (nI v) :: rf G 38 :: st) μ :=
  j_putI (x := 0) (ci := 5) (C := C) uX5 tyX5_ok nmX5 rfl hd (by decide) (ent5) 16 (by decide) hlk rfl rfl (ty := tyX5 16) (by decide +kernel) rfl rfl (by show 16 < 30; decide) (by rw [ent5, up_self]; rfl) (fun b hb => up_ne hb) k
theorem g5_17 {ix : Nat} (C : Cx G X own cc d) (hd : decode cc pc = .ok (.getfield ix, 3)) (hlk : Cond.fieldLink own ix "TrolleyAtElevenModel" "letter" "[I" ∈ WS) (k : J G X (pc + 3) lv (rf G 52 :: st) μ) : J G X pc lv (rf G 38 :: st) μ :=
  j_get (ci := 5) (C := C) uX5 rfl hd (by decide) (ent5) 17 (by decide) hlk rfl rfl k
theorem g5_18 {ix : Nat} (C : Cx G X own cc d) (hd : decode cc pc = .ok (.getfield ix, 3)) (hlk : Cond.fieldLink own ix "TrolleyAtElevenModel" "at" "I" ∈ WS) (k : J G X (pc + 3) lv (.int (nI (μ 38 18)) :: st) μ) : J G X pc lv (rf G 38 :: st) μ :=
  j_get (ci := 5) (C := C) uX5 rfl hd (by decide) (ent5) 18 (by decide) hlk rfl rfl k
theorem p5_18 {ix v : Nat} (C : Cx G X own cc d) (hd : decode cc pc = .ok (.putfield ix, 3)) (hlk : Cond.fieldLink own ix "TrolleyAtElevenModel" "at" "I" ∈ WS) (k : J G X (pc + 3) lv st (up μ 38 18 v)) : J G X pc lv (.int (nI v) :: rf G 38 :: st) μ :=
  j_putI (x := 0) (ci := 5) (C := C) uX5 tyX5_ok nmX5 rfl hd (by decide) (ent5) 18 (by decide) hlk rfl rfl (ty := tyX5 18) (by decide +kernel) rfl rfl (by show 18 < 30; decide) (by rw [ent5, up_self]; rfl) (fun b hb => up_ne hb) k
theorem g5_19 {ix : Nat} (C : Cx G X own cc d) (hd : decode cc pc = .ok (.getfield ix, 3)) (hlk : Cond.fieldLink own ix "TrolleyAtElevenModel" "value" "[I" ∈ WS) (k : J G X (pc + 3) lv (rf G 53 :: st) μ) : J G X pc lv (rf G 38 :: st) μ :=
  j_get (ci := 5) (C := C) uX5 rfl hd (by decide) (ent5) 19 (by decide) hlk rfl rfl k
theorem g5_20 {ix : Nat} (C : Cx G X own cc d) (hd : decode cc pc = .ok (.getfield ix, 3)) (hlk : Cond.fieldLink own ix "TrolleyAtElevenModel" "inRow" "I" ∈ WS) (k : J G X (pc + 3) lv (.int (nI (μ 38 20)) :: st) μ) : J G X pc lv (rf G 38 :: st) μ :=
  j_get (ci := 5) (C := C) uX5 rfl hd (by decide) (ent5) 20 (by decide) hlk rfl rfl k
theorem p5_20 {ix v : Nat} (C : Cx G X own cc d) (hd : decode cc pc = .ok (.putfield ix, 3)) (hlk : Cond.fieldLink own ix "TrolleyAtElevenModel" "inRow" "I" ∈ WS) (k : J G X (pc + 3) lv st (up μ 38 20 v)) : J G X pc lv (.int (nI v) :: rf G 38 :: st) μ :=
  j_putI (x := 0) (ci := 5) (C := C) uX5 tyX5_ok nmX5 rfl hd (by decide) (ent5) 20 (by decide) hlk rfl rfl (ty := tyX5 20) (by decide +kernel) rfl rfl (by show 20 < 30; decide) (by rw [ent5, up_self]; rfl) (fun b hb => up_ne hb) k
theorem g5_21 {ix : Nat} (C : Cx G X own cc d) (hd : decode cc pc = .ok (.getfield ix, 3)) (hlk : Cond.fieldLink own ix "TrolleyAtElevenModel" "row" "[I" ∈ WS) (k : J G X (pc + 3) lv (rf G 54 :: st) μ) : J G X pc lv (rf G 38 :: st) μ :=
  j_get (ci := 5) (C := C) uX5 rfl hd (by decide) (ent5) 21 (by decide) hlk rfl rfl k
theorem g5_22 {ix : Nat} (C : Cx G X own cc d) (hd : decode cc pc = .ok (.getfield ix, 3)) (hlk : Cond.fieldLink own ix "TrolleyAtElevenModel" "refusals" "[I" ∈ WS) (k : J G X (pc + 3) lv (rf G 55 :: st) μ) : J G X pc lv (rf G 38 :: st) μ :=
  j_get (ci := 5) (C := C) uX5 rfl hd (by decide) (ent5) 22 (by decide) hlk rfl rfl k
theorem g5_23 {ix : Nat} (C : Cx G X own cc d) (hd : decode cc pc = .ok (.getfield ix, 3)) (hlk : Cond.fieldLink own ix "TrolleyAtElevenModel" "imaged" "Z" ∈ WS) (k : J G X (pc + 3) lv (.int (nI (μ 38 23)) :: st) μ) : J G X pc lv (rf G 38 :: st) μ :=
  j_get (ci := 5) (C := C) uX5 rfl hd (by decide) (ent5) 23 (by decide) hlk rfl rfl k
theorem p5_23 {ix v : Nat} (C : Cx G X own cc d) (hd : decode cc pc = .ok (.putfield ix, 3)) (hlk : Cond.fieldLink own ix "TrolleyAtElevenModel" "imaged" "Z" ∈ WS) (hz : v = 0 ∨ v = 1) (k : J G X (pc + 3) lv st (up μ 38 23 v)) : J G X pc lv (.int (nI v) :: rf G 38 :: st) μ :=
  j_putI (x := 0) (ci := 5) (C := C) uX5 tyX5_ok nmX5 rfl hd (by decide) (ent5) 23 (by decide) hlk rfl rfl (ty := tyX5 23) (by decide +kernel) (by rcases hz with rfl | rfl <;> rfl) (by rcases hz with rfl | rfl <;> rfl) (by show 23 < 30; decide) (by rw [ent5, up_self]; rfl) (fun b hb => up_ne hb) k
theorem g5_24 {ix : Nat} (C : Cx G X own cc d) (hd : decode cc pc = .ok (.getfield ix, 3)) (hlk : Cond.fieldLink own ix "TrolleyAtElevenModel" "image" "[I" ∈ WS) (k : J G X (pc + 3) lv (rf G 56 :: st) μ) : J G X pc lv (rf G 38 :: st) μ :=
  j_get (ci := 5) (C := C) uX5 rfl hd (by decide) (ent5) 24 (by decide) hlk rfl rfl k
theorem g5_25 {ix : Nat} (C : Cx G X own cc d) (hd : decode cc pc = .ok (.getfield ix, 3)) (hlk : Cond.fieldLink own ix "TrolleyAtElevenModel" "ahead" "[I" ∈ WS) (k : J G X (pc + 3) lv (rf G 57 :: st) μ) : J G X pc lv (rf G 38 :: st) μ :=
  j_get (ci := 5) (C := C) uX5 rfl hd (by decide) (ent5) 25 (by decide) hlk rfl rfl k
theorem g5_26 {ix : Nat} (C : Cx G X own cc d) (hd : decode cc pc = .ok (.getfield ix, 3)) (hlk : Cond.fieldLink own ix "TrolleyAtElevenModel" "best" "[I" ∈ WS) (k : J G X (pc + 3) lv (rf G 58 :: st) μ) : J G X pc lv (rf G 38 :: st) μ :=
  j_get (ci := 5) (C := C) uX5 rfl hd (by decide) (ent5) 26 (by decide) hlk rfl rfl k
theorem g5_27 {ix : Nat} (C : Cx G X own cc d) (hd : decode cc pc = .ok (.getfield ix, 3)) (hlk : Cond.fieldLink own ix "TrolleyAtElevenModel" "was" "[I" ∈ WS) (k : J G X (pc + 3) lv (rf G 59 :: st) μ) : J G X pc lv (rf G 38 :: st) μ :=
  j_get (ci := 5) (C := C) uX5 rfl hd (by decide) (ent5) 27 (by decide) hlk rfl rfl k
theorem g5_28 {ix : Nat} (C : Cx G X own cc d) (hd : decode cc pc = .ok (.getfield ix, 3)) (hlk : Cond.fieldLink own ix "TrolleyAtElevenModel" "above" "J" ∈ WS) (k : J G X (pc + 3) lv (.long (lN (μ 38 28)) :: st) μ) : J G X pc lv (rf G 38 :: st) μ :=
  j_get (ci := 5) (C := C) uX5 rfl hd (by decide) (ent5) 28 (by decide) hlk rfl rfl k
theorem p5_28 {ix v : Nat} (C : Cx G X own cc d) (hd : decode cc pc = .ok (.putfield ix, 3)) (hlk : Cond.fieldLink own ix "TrolleyAtElevenModel" "above" "J" ∈ WS) (k : J G X (pc + 3) lv st (up μ 38 28 v)) : J G X pc lv (.long (lN v) :: rf G 38 :: st) μ :=
  j_putI (x := 0) (ci := 5) (C := C) uX5 tyX5_ok nmX5 rfl hd (by decide) (ent5) 28 (by decide) hlk rfl rfl (ty := tyX5 28) (by decide +kernel) rfl rfl (by show 28 < 30; decide) (by rw [ent5, up_self]; rfl) (fun b hb => up_ne hb) k
theorem g5_29 {ix : Nat} (C : Cx G X own cc d) (hd : decode cc pc = .ok (.getfield ix, 3)) (hlk : Cond.fieldLink own ix "TrolleyAtElevenModel" "below" "J" ∈ WS) (k : J G X (pc + 3) lv (.long (lN (μ 38 29)) :: st) μ) : J G X pc lv (rf G 38 :: st) μ :=
  j_get (ci := 5) (C := C) uX5 rfl hd (by decide) (ent5) 29 (by decide) hlk rfl rfl k
theorem p5_29 {ix v : Nat} (C : Cx G X own cc d) (hd : decode cc pc = .ok (.putfield ix, 3)) (hlk : Cond.fieldLink own ix "TrolleyAtElevenModel" "below" "J" ∈ WS) (k : J G X (pc + 3) lv st (up μ 38 29 v)) : J G X pc lv (.long (lN v) :: rf G 38 :: st) μ :=
  j_putI (x := 0) (ci := 5) (C := C) uX5 tyX5_ok nmX5 rfl hd (by decide) (ent5) 29 (by decide) hlk rfl rfl (ty := tyX5 29) (by decide +kernel) rfl rfl (by show 29 < 30; decide) (by rw [ent5, up_self]; rfl) (fun b hb => up_ne hb) k
end JC
