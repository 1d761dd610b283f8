-- THE TEXT OF SIX LETTERS, and where a letter stands in it
section STR
variable {G : GX} {X : XC} {own : String} {cc : ByteArray} {d pc : Nat} {lv : List (Option Value)} {st : List Value} {μ : Mem}
theorem j_ldcS (C : Cx G X own cc d) (ho : own = "TrolleyAtElevenModel") (hd : decode cc pc = .ok (.ldc 97, 2)) (k : J G X (pc + 2) lv (rf G 61 :: st) μ) : J G X pc lv st μ := by
  obtain ⟨p, e, R, s, m, args, below, meth, c, nL, A0, ce, sl, Q⟩ := X
  obtain ⟨hx, hb, hml, hown, hts, hK, hSd, hI, hA0, hdf, hdl, hce, hsl⟩ := C
  intro H locs ls hP hS hl
  subst ho
  exact va_ldcS hx hb hown hSd.2.2.2.1 hd (k H locs ls hP hS hl)
theorem j_getCompact {ix : Nat} (C : Cx G X own cc d) (hd : decode cc pc = .ok (.getstatic ix, 3)) (hlink : Cond.fieldLink own ix "java/lang/String" "COMPACT_STRINGS" "Z" ∈ WS) (k : J G X (pc + 3) lv (.int (nI 1) :: st) μ) : J G X pc lv st μ := by
  obtain ⟨p, e, R, s, m, args, below, meth, c, nL, A0, ce, sl, Q⟩ := X
  obtain ⟨hx, hb, hml, hown, hts, hK, hSd, hI, hA0, hdf, hdl, hce, hsl⟩ := C
  intro H locs ls hP hS hl
  have hS' : va_S A0 s.heap H locs := hS
  exact va_gets hx hb hSd.2.2.1 hS' hown (hts _ hlink) (fun x h => h) hd (k H locs ls hP hS hl)
theorem j_strCoder {ix : Nat} (C : Cx G X own cc d) (hd : decode cc pc = .ok (.getfield ix, 3)) (hlink : Cond.fieldLink own ix "java/lang/String" "coder" "B" ∈ WS) (k : J G X (pc + 3) lv (.int (nI 0) :: st) μ) : J G X pc lv (rf G 61 :: st) μ := by
  obtain ⟨p, e, R, s, m, args, below, meth, c, nL, A0, ce, sl, Q⟩ := X
  obtain ⟨hx, hb, hml, hown, hts, hK, hSd, hI, hA0, hdf, hdl, hce, hsl⟩ := C
  intro H locs ls hP hS hl
  exact vk_getf hx hb hSd.2.2.2.2.2.1 hS hown (hts _ hlink) (fun x h => h) hd (k H locs ls hP hS hl)
theorem j_strValue {ix : Nat} (C : Cx G X own cc d) (hd : decode cc pc = .ok (.getfield ix, 3)) (hlink : Cond.fieldLink own ix "java/lang/String" "value" "[B" ∈ WS) (k : J G X (pc + 3) lv (rf G 62 :: st) μ) : J G X pc lv (rf G 61 :: st) μ := by
  obtain ⟨p, e, R, s, m, args, below, meth, c, nL, A0, ce, sl, Q⟩ := X
  obtain ⟨hx, hb, hml, hown, hts, hK, hSd, hI, hA0, hdf, hdl, hce, hsl⟩ := C
  intro H locs ls hP hS hl
  exact vk_getf hx hb hSd.2.2.2.2.2.2.1 hS hown (hts _ hlink) (fun x h => h) hd (k H locs ls hP hS hl)
theorem j_bytAt {j : Nat} (C : Cx G X own cc d) (hd : decode cc pc = .ok (.baload, 1)) (hj : j < 6) (k : J G X (pc + 1) lv (.int (nI (letN j)) :: st) μ) : J G X pc lv (.int (nI j) :: rf G 62 :: st) μ := by
  obtain ⟨p, e, R, s, m, args, below, meth, c, nL, A0, ce, sl, Q⟩ := X
  obtain ⟨hx, hb, hml, hown, hts, hK, hSd, hI, hA0, hdf, hdl, hce, hsl⟩ := C
  intro H locs ls hP hS hl
  exact va_tb hx hb hSd.2.2.2.2.2.2.2.1 hS (vp_in_nI hj (by omega)) (by rw [nI_clamp (by omega)]) hd (k H locs ls hP hS hl)
theorem j_bytLen (C : Cx G X own cc d) (hd : decode cc pc = .ok (.arraylength, 1)) (k : J G X (pc + 1) lv (.int (nI 6) :: st) μ) : J G X pc lv (rf G 62 :: st) μ := by
  obtain ⟨p, e, R, s, m, args, below, meth, c, nL, A0, ce, sl, Q⟩ := X
  obtain ⟨hx, hb, hml, hown, hts, hK, hSd, hI, hA0, hdf, hdl, hce, hsl⟩ := C
  intro H locs ls hP hS hl
  obtain ⟨cell, h1, h2, h3, h4, h5, h6, h7⟩ := hSd.2.2.2.2.2.2.2.1.kept hS.2.1
  exact W.alen (n := nI 6) hx hb h1 h2 h5 rfl rfl hd (k H locs ls hP hS hl)
theorem j_callT {md : MD} {n d' ix : Nat} {av : List Value} {Post : PO} (C : Cx G X own cc d) (hd : decode cc pc = .ok (.invokevirtual ix, 3)) (hlk : Cond.methodLink own ix md.1 ∈ WS) (hm : MyV md n) (hE : Ev G md d' (rf G 61 :: av) μ Post) (hdd : d' + 1 ≤ d) (hn : av.length = n) (ho : md.1.cls = "java/lang/String") (hst : (st.map fun v => v.category).sum ≤ 8)
    (k : ∀ r μ', Post r μ' → J G X (pc + 3) lv (r.toList ++ st) μ') : J G X pc lv (av.reverse ++ rf G 61 :: st) μ := by
  obtain ⟨p, e, R, s, m, args, below, meth, c, nL, A0, ce, sl, Q⟩ := X
  obtain ⟨hx, hb, hml, hown, hts, hK, hSd, hI, hA0, hdf, hdl, hce, hsl⟩ := C
  intro H locs ls hP hS hl
  obtain ⟨y, by_, nl, rt⟩ := md
  obtain ⟨m1, m2, m3, m4, m5, m6⟩ := hm
  obtain ⟨cell, c1, c2, c3, -⟩ := hSd.2.2.2.2.1.kept hS.2.1
  have hcell : ∃ cell : Cell, H[gA G 61]? = some cell ∧ cell.vm.isStatics = false ∧ s.vm.findClass y.cls = some cell.cls := ⟨cell, c1, c2, by have ho' : y.cls = "java/lang/String" := ho; rw [ho']; exact c3⟩
  refine run_go hA0 hS hl (va_runV (n := n) ⟨hx, hb, hml, hown, hts⟩ hE (cwV n hts (good_ws ?_ (fun _ h => h)) rfl rfl rfl ⟨rfl, m5⟩ ⟨?_, ?_⟩) ⟨Wd_blind, hcell, fun U hU hW => ⟨rfl, Wd_here (p := p) hK hSd hI hA0 hP hS U hU hW⟩⟩ rfl hn (hl.1) rfl (lv_room hst) hd ⟨hce, hsl⟩) k
  · intro w hw
    rcases List.mem_append.mp hw with h | h
    · simp only [List.mem_cons, List.not_mem_nil, or_false] at h
      rcases h with rfl | rfl | rfl | rfl
      · exact hlk
      · exact m1
      · exact m2
      · exact m3
    · rcases List.mem_cons.mp h with rfl | h
      · exact m4
      · exact h
  · show d' + 1 ≤ R.frames
    omega
  · have m6' : nl ≤ 15 := m6
    show 8 + (nl + 11) + 34 * d' ≤ R.locals
    omega
theorem cTe0 {md : MD} {d' ix : Nat} {v : Int32} {μ' : Mem} (C : Cx G X own cc d) (hd : decode cc pc = .ok (.invokevirtual ix, 3)) (hlk : Cond.methodLink own ix md.1 ∈ WS) (hm : MyV md 0) (hE : Ev G md d' [rf G 61] μ (PIe v μ')) (hdd : d' + 1 ≤ d) (ho : md.1.cls = "java/lang/String") (hst : (st.map fun v => v.category).sum ≤ 8) (k : J G X (pc + 3) lv (.int v :: st) μ') : J G X pc lv (rf G 61 :: st) μ :=
  j_callT (av := []) C hd hlk hm hE hdd rfl ho hst (fun r μ2 h => by obtain ⟨rfl, rfl⟩ := h; exact k)
theorem cTe1 {md : MD} {d' ix : Nat} {v : Int32} {μ' : Mem} {a0 : Value} (C : Cx G X own cc d) (hd : decode cc pc = .ok (.invokevirtual ix, 3)) (hlk : Cond.methodLink own ix md.1 ∈ WS) (hm : MyV md 1) (hE : Ev G md d' [rf G 61, a0] μ (PIe v μ')) (hdd : d' + 1 ≤ d) (ho : md.1.cls = "java/lang/String") (hst : (st.map fun v => v.category).sum ≤ 8) (k : J G X (pc + 3) lv (.int v :: st) μ') : J G X pc lv (a0 :: rf G 61 :: st) μ :=
  j_callT (av := [a0]) C hd hlk hm hE hdd rfl ho hst (fun r μ2 h => by obtain ⟨rfl, rfl⟩ := h; exact k)
theorem cTe2 {md : MD} {d' ix : Nat} {v : Int32} {μ' : Mem} {a0 a1 : Value} (C : Cx G X own cc d) (hd : decode cc pc = .ok (.invokevirtual ix, 3)) (hlk : Cond.methodLink own ix md.1 ∈ WS) (hm : MyV md 2) (hE : Ev G md d' [rf G 61, a0, a1] μ (PIe v μ')) (hdd : d' + 1 ≤ d) (ho : md.1.cls = "java/lang/String") (hst : (st.map fun v => v.category).sum ≤ 8) (k : J G X (pc + 3) lv (.int v :: st) μ') : J G X pc lv (a1 :: a0 :: rf G 61 :: st) μ :=
  j_callT (av := [a0, a1]) C hd hlk hm hE hdd rfl ho hst (fun r μ2 h => by obtain ⟨rfl, rfl⟩ := h; exact k)
end STR
set_option maxRecDepth 100000 in
set_option maxHeartbeats 4000000 in
theorem ev_J0_coder {G : GX} {μ : Mem} : Ev G mJ0_coder_7d493 0 [rf G 61] μ (PIe (nI 0) μ) := by
  refine Ev.of (own := RJ0) (n := 0) (by decide) rfl rfl (catOK rfl) (fun X C E => ?_)
  show J G X 0 [some _] [] _
  refine j_getCompact C dJ0_coder_7d493_0 lFJ0_38 ?_
  refine j_if_eqN (tgt := 13) C dJ0_coder_7d493_3 (by decide) (by decide) (fun c_3 => absurd c_3 (by decide)) (fun c_3 => ?_)
  refine j_aload_n C dJ0_coder_7d493_6 rfl ?_
  refine j_strCoder C dJ0_coder_7d493_7 lFJ0_15 ?_
  refine j_goto (tgt := 14) C dJ0_coder_7d493_10 (by decide) ?_
  exact j_zret C E dJ0_coder_7d493_14 rfl ⟨rfl, rfl⟩
set_option maxRecDepth 100000 in
set_option maxHeartbeats 4000000 in
theorem ev_J0_length {G : GX} {μ : Mem} : Ev G mJ0_length_8abf5 1 [rf G 61] μ (PIe (nI 6) μ) := by
  refine Ev.of (own := RJ0) (n := 0) (by decide) rfl rfl (catOK rfl) (fun X C E => ?_)
  show J G X 0 [some _] [] _
  refine j_aload_n C dJ0_length_8abf5_0 rfl ?_
  refine j_strValue C dJ0_length_8abf5_1 lFJ0_9 ?_
  refine j_bytLen C dJ0_length_8abf5_4 ?_
  refine j_aload_n C dJ0_length_8abf5_5 rfl ?_
  refine cTe0 C dJ0_length_8abf5_6 lMJ0_335 myJ0_coder_7d493 ev_J0_coder (by omega) rfl (Nat.le_of_ble_eq_true rfl) ?_
  refine j_ishr C dJ0_length_8abf5_9 ?_
  refine J.top (y := nI 6) (by decide) ?_
  exact j_iret C E dJ0_length_8abf5_10 ⟨rfl, rfl⟩
set_option maxRecDepth 100000 in
set_option maxHeartbeats 4000000 in
theorem ev_J0_isLatin1 {G : GX} {μ : Mem} : Ev G mJ0_isLatin1_aae02 0 [rf G 61] μ (PIe (nI 1) μ) := by
  refine Ev.of (own := RJ0) (n := 0) (by decide) rfl rfl (catOK rfl) (fun X C E => ?_)
  show J G X 0 [some _] [] _
  refine j_getCompact C dJ0_isLatin1_aae02_0 lFJ0_38 ?_
  refine j_if_eqN (tgt := 17) C dJ0_isLatin1_aae02_3 (by decide) (by decide) (fun c_3 => absurd c_3 (by decide)) (fun c_3 => ?_)
  refine j_aload_n C dJ0_isLatin1_aae02_6 rfl ?_
  refine j_strCoder C dJ0_isLatin1_aae02_7 lFJ0_15 ?_
  refine j_if_neN (tgt := 17) C dJ0_isLatin1_aae02_10 (by decide) (by decide) (fun c_10 => absurd rfl c_10) (fun c_10 => ?_)
  refine j_iconst (v := nI 1) C dJ0_isLatin1_aae02_13 (by decide) ?_
  refine j_goto (tgt := 18) C dJ0_isLatin1_aae02_14 (by decide) ?_
  exact j_zret C E dJ0_isLatin1_aae02_18 rfl ⟨rfl, rfl⟩
set_option maxRecDepth 100000 in
set_option maxHeartbeats 4000000 in
theorem ev_J1_canEncode {G : GX} {c9 : Nat} {μ : Mem} (hc : c9 ≤ 255) : Ev G mJ1_canEncode_9a6ad 0 [.int (nI c9)] μ (PIe (nI 1) μ) := by
  refine Ev.of (own := RJ1) (n := 0) (by decide) rfl rfl (catOK rfl) (fun X C E => ?_)
  show J G X 0 [some _] [] _
  refine j_iload_n C dJ1_canEncode_9a6ad_0 rfl ?_
  refine j_if_ltN (tgt := 15) C dJ1_canEncode_9a6ad_1 (by decide) (by omega) ?_
  refine j_iload_n C dJ1_canEncode_9a6ad_4 rfl ?_
  refine j_sipush (v := nI 255) C dJ1_canEncode_9a6ad_5 (by decide) ?_
  refine j_icmp_gtN (tgt := 15) C dJ1_canEncode_9a6ad_8 (by decide) (by omega) (by omega) (fun c_8 => absurd c_8 (by omega)) (fun c_8 => ?_)
  refine j_iconst (v := nI 1) C dJ1_canEncode_9a6ad_11 (by decide) ?_
  refine j_goto (tgt := 16) C dJ1_canEncode_9a6ad_12 (by decide) ?_
  exact j_zret C E dJ1_canEncode_9a6ad_16 rfl ⟨rfl, rfl⟩
theorem byt_eq : ∀ c, c < 256 → ∀ j, j < 6 → (nI (letN j) = (nI c).toInt8.toInt32 ↔ letN j = c) := by decide +kernel
theorem kdI_let : ∀ j, j < 6 → kdI (letN j) = nI j := by decide
theorem kdI_none {c : Nat} (h : ∀ j, j < 6 → ¬ letN j = c) : kdI c = -1 := by
  refine kdI_no (fun q => ?_)
  rcases q with q | q | q | q | q | q
  · exact h 0 (by decide) q.symm
  · exact h 1 (by decide) q.symm
  · exact h 2 (by decide) q.symm
  · exact h 3 (by decide) q.symm
  · exact h 4 (by decide) q.symm
  · exact h 5 (by decide) q.symm
set_option maxRecDepth 100000 in
set_option maxHeartbeats 4000000 in
theorem ev_J1_indexOfChar {G : GX} {c9 : Nat} {μ : Mem} (hc : c9 ≤ 255) : Ev G mJ1_indexOfChar_4cfef 0 [rf G 62, .int (nI c9), .int (nI 0), .int (nI 6)] μ (PIe (kdI c9) μ) := by
  refine Ev.of (own := RJ1) (n := 2) (by decide) rfl rfl (catOK rfl) (fun X C E => ?_)
  show J G X 0 [some _, some _, some _, some _, none, none] [] _
  have loop : ∀ k i9, i9 + k = 6 → (∀ j, j < i9 → ¬ letN j = c9) → J G X 7 [some (rf G 62), some (.int (nI c9)), some (.int (nI 0)), some (.int (nI 6)), some (.int (nI c9).toInt8.toInt32), some (.int (nI i9))] [] μ := by
    intro k
    induction k with
    | zero =>
      intro i9 hi hn
      refine j_iload C dJ1_indexOfChar_4cfef_7 rfl ?_
      refine j_iload_n C dJ1_indexOfChar_4cfef_9 rfl ?_
      refine j_icmp_geN (tgt := 31) C dJ1_indexOfChar_4cfef_10 (by decide) (by omega) (by omega) (fun c_10 => ?_) (fun c_10 => absurd c_10 (by omega))
      refine j_iconst (v := -1) C dJ1_indexOfChar_4cfef_31 (by decide) ?_
      exact j_iret C E dJ1_indexOfChar_4cfef_32 ⟨by rw [kdI_none (fun j hj => hn j (by omega))], rfl⟩
    | succ k ih =>
      intro i9 hi hn
      refine j_iload C dJ1_indexOfChar_4cfef_7 rfl ?_
      refine j_iload_n C dJ1_indexOfChar_4cfef_9 rfl ?_
      refine j_icmp_geN (tgt := 31) C dJ1_indexOfChar_4cfef_10 (by decide) (by omega) (by omega) (fun c_10 => absurd c_10 (by omega)) (fun c_10 => ?_)
      refine j_aload_n C dJ1_indexOfChar_4cfef_13 rfl ?_
      refine j_iload C dJ1_indexOfChar_4cfef_14 rfl ?_
      refine j_bytAt C dJ1_indexOfChar_4cfef_16 (by omega) ?_
      refine j_iload C dJ1_indexOfChar_4cfef_17 rfl ?_
      refine j_icmp_ne (tgt := 25) C dJ1_indexOfChar_4cfef_19 (by decide) (fun c_19 => ?_) (fun c_19 => ?_)
      · refine in5 C dJ1_indexOfChar_4cfef_25 (nI_1 _) rfl ?_
        refine j_goto (tgt := 7) C dJ1_indexOfChar_4cfef_28 (by decide) ?_
        exact ih (i9 + 1) (by omega) (fun j hj => if e : j = i9 then (by rw [e]; exact fun q => c_19 ((byt_eq c9 (by omega) i9 (by omega)).mpr q)) else hn j (by omega))
      · refine j_iload C dJ1_indexOfChar_4cfef_22 rfl ?_
        exact j_iret C E dJ1_indexOfChar_4cfef_24 ⟨by rw [← (byt_eq c9 (by omega) i9 (by omega)).mp c_19, kdI_let i9 (by omega)], rfl⟩
  refine j_iload_n C dJ1_indexOfChar_4cfef_0 rfl ?_
  refine j_i2b C dJ1_indexOfChar_4cfef_1 ?_
  refine sl4 C dJ1_indexOfChar_4cfef_2 rfl ?_
  refine j_iload_n C dJ1_indexOfChar_4cfef_4 rfl ?_
  refine sl5 C dJ1_indexOfChar_4cfef_5 rfl ?_
  exact loop 6 0 rfl (fun j hj => absurd hj (by omega))
set_option maxRecDepth 100000 in
set_option maxHeartbeats 4000000 in
theorem ev_J1_indexOf {G : GX} {c9 : Nat} {μ : Mem} (hc : c9 ≤ 255) : Ev G mJ1_indexOf_4cfef 1 [rf G 62, .int (nI c9), .int (nI 0), .int (nI 6)] μ (PIe (kdI c9) μ) := by
  refine Ev.of (own := RJ1) (n := 0) (by decide) rfl rfl (catOK rfl) (fun X C E => ?_)
  show J G X 0 [some _, some _, some _, some _] [] _
  refine j_iload_n C dJ1_indexOf_4cfef_0 rfl ?_
  refine cSe1 C dJ1_indexOf_4cfef_1 lMJ1_88 myJ1_canEncode_9a6ad (ev_J1_canEncode hc) (by omega) (Nat.le_of_ble_eq_true rfl) ?_
  refine j_if_neN (tgt := 9) C dJ1_indexOf_4cfef_4 (by decide) (by decide) (fun c_4 => ?_) (fun c_4 => absurd c_4 (by decide))
  refine j_iload_n C dJ1_indexOf_4cfef_9 rfl ?_
  refine j_iconst (v := nI 0) C dJ1_indexOf_4cfef_10 (by decide) ?_
  refine j_maxN C dJ1_indexOf_4cfef_11 lMJ1_92 (by omega) (Nat.le_of_ble_eq_true rfl) (by omega) (by omega) ?_
  refine J.top (y := nI 0) rfl ?_
  refine sn2 C dJ1_indexOf_4cfef_14 rfl ?_
  refine j_iload_n C dJ1_indexOf_4cfef_15 rfl ?_
  refine j_aload_n C dJ1_indexOf_4cfef_16 rfl ?_
  refine j_bytLen C dJ1_indexOf_4cfef_17 ?_
  refine j_minN C dJ1_indexOf_4cfef_18 lMJ1_38 (by omega) (Nat.le_of_ble_eq_true rfl) (by omega) (by omega) ?_
  refine J.top (y := nI 6) rfl ?_
  refine sn3 C dJ1_indexOf_4cfef_21 rfl ?_
  refine j_iload_n C dJ1_indexOf_4cfef_22 rfl ?_
  refine j_iload_n C dJ1_indexOf_4cfef_23 rfl ?_
  refine j_icmp_ltN (tgt := 29) C dJ1_indexOf_4cfef_24 (by decide) (by omega) (by omega) (fun c_24 => ?_) (fun c_24 => absurd c_24 (by omega))
  refine j_aload_n C dJ1_indexOf_4cfef_29 rfl ?_
  refine j_iload_n C dJ1_indexOf_4cfef_30 rfl ?_
  refine j_iload_n C dJ1_indexOf_4cfef_31 rfl ?_
  refine j_iload_n C dJ1_indexOf_4cfef_32 rfl ?_
  refine cSe4 C dJ1_indexOf_4cfef_33 lMJ1_95 myJ1_indexOfChar_4cfef (ev_J1_indexOfChar hc) (by omega) (Nat.le_of_ble_eq_true rfl) ?_
  exact j_iret C E dJ1_indexOf_4cfef_36 ⟨rfl, rfl⟩
set_option maxRecDepth 100000 in
set_option maxHeartbeats 4000000 in
theorem ev_J0_indexOf2 {G : GX} {c9 : Nat} {μ : Mem} (hc : c9 ≤ 255) : Ev G mJ0_indexOf_7cf53 2 [rf G 61, .int (nI c9), .int (nI 0)] μ (PIe (kdI c9) μ) := by
  refine Ev.of (own := RJ0) (n := 0) (by decide) rfl rfl (catOK rfl) (fun X C E => ?_)
  show J G X 0 [some _, some _, some _] [] _
  refine j_aload_n C dJ0_indexOf_7cf53_0 rfl ?_
  refine cTe0 C dJ0_indexOf_7cf53_1 lMJ0_492 myJ0_isLatin1_aae02 ev_J0_isLatin1 (by omega) rfl (Nat.le_of_ble_eq_true rfl) ?_
  refine j_if_eqN (tgt := 23) C dJ0_indexOf_7cf53_4 (by decide) (by decide) (fun c_4 => absurd c_4 (by decide)) (fun c_4 => ?_)
  refine j_aload_n C dJ0_indexOf_7cf53_7 rfl ?_
  refine j_strValue C dJ0_indexOf_7cf53_8 lFJ0_9 ?_
  refine j_iload_n C dJ0_indexOf_7cf53_11 rfl ?_
  refine j_iload_n C dJ0_indexOf_7cf53_12 rfl ?_
  refine j_aload_n C dJ0_indexOf_7cf53_13 rfl ?_
  refine cTe0 C dJ0_indexOf_7cf53_14 lMJ0_505 myJ0_length_8abf5 ev_J0_length (by omega) rfl (Nat.le_of_ble_eq_true rfl) ?_
  refine cSe4 C dJ0_indexOf_7cf53_17 lMJ0_637 myJ1_indexOf_4cfef (ev_J1_indexOf hc) (by omega) (Nat.le_of_ble_eq_true rfl) ?_
  refine j_goto (tgt := 36) C dJ0_indexOf_7cf53_20 (by decide) ?_
  exact j_iret C E dJ0_indexOf_7cf53_36 ⟨rfl, rfl⟩
set_option maxRecDepth 100000 in
set_option maxHeartbeats 4000000 in
theorem ev_J0_indexOf {G : GX} {c9 : Nat} {μ : Mem} (hc : c9 ≤ 255) : Ev G mJ0_indexOf_0f7a4 3 [rf G 61, .int (nI c9)] μ (PIe (kdI c9) μ) := by
  refine Ev.of (own := RJ0) (n := 0) (by decide) rfl rfl (catOK rfl) (fun X C E => ?_)
  show J G X 0 [some _, some _] [] _
  refine j_aload_n C dJ0_indexOf_0f7a4_0 rfl ?_
  refine j_iload_n C dJ0_indexOf_0f7a4_1 rfl ?_
  refine j_iconst (v := nI 0) C dJ0_indexOf_0f7a4_2 (by decide) ?_
  refine cTe2 C dJ0_indexOf_0f7a4_3 lMJ0_633 myJ0_indexOf_7cf53 (ev_J0_indexOf2 hc) (by omega) rfl (Nat.le_of_ble_eq_true rfl) ?_
  exact j_iret C E dJ0_indexOf_0f7a4_6 ⟨rfl, rfl⟩
