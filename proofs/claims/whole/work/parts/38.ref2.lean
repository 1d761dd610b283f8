-- THE REFERENCE: asks that go one round
theorem RPM.KM {μ E : Mem} {o : Nat → Nat} {w : Nat} {μ' : Mem} (h : RPM μ E o w μ') : KM μ μ' := by
  obtain ⟨h1, h2, -⟩ := h
  exact ⟨fun q hq => h1 q (by omega), ⟨h2 0 (by decide), fun k i a b _ => congrFun (h1 (38 + k) (by omega)) i, fun i _ => congrFun (h1 44 (by omega)) i⟩, h2 15 (by decide), h2 16 (by decide), h2 20 (by decide), h2 23 (by decide), h1 52 (by omega), h1 54 (by omega), h1 55 (by omega), h1 56 (by omega)⟩
theorem KM.trans {a b c : Mem} (h : KM a b) (g : KM b c) : KM a c := by
  obtain ⟨h1, h2, h3, h4, h5, h6, h7, h8, h9, h10⟩ := h
  obtain ⟨g1, g2, g3, g4, g5, g6, g7, g8, g9, g10⟩ := g
  exact ⟨fun q hq => (g1 q hq).trans (h1 q hq), g2.trans h2, g3.trans h3, g4.trans h4, g5.trans h5, g6.trans h6, g7.trans h7, g8.trans h8, g9.trans h9, g10.trans h10⟩
theorem RPM.f {μ E : Mem} {o : Nat → Nat} {w : Nat} {μ' : Mem} (h : RPM μ E o w μ') {k : Nat} (hk : k ≠ 14) : μ' 38 k = μ 38 k := h.2.1 k hk
theorem RPM.row {μ E : Mem} {o : Nat → Nat} {w : Nat} {μ' : Mem} (h : RPM μ E o w μ') {q : Nat} (hq : 38 < q ∧ q < 45) : μ' q = μ q := h.1 q (by omega)
theorem RPM.eqE {μ E : Mem} {o : Nat → Nat} {w : Nat} {μ' : Mem} (h : RPM μ E o w μ') : EQ (sh μ' 38) (sh μ 38) := h.KM.2.1
theorem RPM.eiE {μ E : Mem} {o : Nat → Nat} {w : Nat} {μ' : Mem} (h : RPM μ E o w μ') (hE : EI (sh μ 38)) : EI (sh μ' 38) := EI.eq h.eqE.symm hE
theorem RPM.piE {μ E : Mem} {o : Nat → Nat} {w : Nat} {μ' : Mem} (h : RPM μ E o w μ') (hE : EI (sh μ 38)) (hP : PI5 (sh μ 38)) : PI5 (sh μ' 38) := PI5.eq h.eqE.symm hE hP
theorem up38_EQ {ν : Mem} {k v : Nat} (hk : k ≠ 0) : EQ (sh (up ν 38 k v) 38) (sh ν 38) := ⟨up_off (b := 38) (j := 0) (Or.inr (fun e => hk e.symm)), fun k i a b _ => congrFun (up_ne (b := 38 + k) (by omega)) i, fun i _ => congrFun (up_ne (b := 44) (by omega)) i⟩
theorem in_07 {x : Int32} : (nI 0 ≤ x ∧ x ≤ nI 7) ↔ isTo x := by
  have h0 : (nI 0).toInt = 0 := rfl
  have h00 : (0 : Int32).toInt = 0 := rfl
  have h9 : (nI 7).toInt = 7 := rfl
  have h10 : (nI 8).toInt = 8 := rfl
  unfold isTo
  rw [Int32.le_iff_toInt_le, Int32.le_iff_toInt_le, Int32.le_iff_toInt_le, Int32.lt_iff_toInt_lt, h0, h9, h10, h00]
  omega
theorem in_03 {x : Int32} : (nI 0 ≤ x ∧ x ≤ nI 3) ↔ (0 ≤ x ∧ x ≤ nI 3) := Iff.rfl
set_option maxRecDepth 100000 in
set_option maxHeartbeats 4000000 in
theorem ev_X5_total {G : GX} {x : Int32} {μ : Mem} (hE : EI (sh μ 38)) (hP : PI5 (sh μ 38)) (hz : μ 38 15 = 0) : Ev G mX5_total 3 [rf G 38, .int x] μ (PI (OutM (kTo x) (nI (Tot (sh μ 38) (μ 43) 0 x.toNatClampNeg)) μ)) := by
  refine Ev.of (own := RX5) (n := 0) (by decide) rfl rfl (catOK rfl) (fun X C E => ?_)
  show J G X 0 [some _, some _] [] _
  refine j_iload_n C dX5_total_0 rfl ?_
  refine j_iconst (v := nI 0) C dX5_total_1 (by decide) ?_
  refine j_bipush (v := nI 7) C dX5_total_2 (by decide) ?_
  refine cSe3 C dX5_total_4 lMX5_83 myX5_within (ev_X5_within) (by omega) (Nat.le_of_ble_eq_true rfl) ?_
  refine J.top (b2i_mo (q := isTo x) in_07) ?_
  first | refine j_if_neB (tgt := 17) C dX5_total_7 (by decide) (fun c_7 => ?_) (fun c_7 => ?_) | refine j_if_neN (tgt := 17) C dX5_total_7 (by decide) (by omega) (fun c_7 => ?_) (fun c_7 => ?_) | refine j_if_ne (tgt := 17) C dX5_total_7 (by decide) (fun c_7 => ?_) (fun c_7 => ?_)
  · obtain ⟨j9, hj, rfl⟩ := fl_of (n := 8) (by decide) c_7
    refine j_aload_n C dX5_total_17 rfl ?_
    refine cVv0 C dX5_total_18 lMX5_166 myX5_round (ev_X5_round hE hP.1 hz (Or.inl rfl)) (by omega) rc5 (Nat.le_of_ble_eq_true rfl) (fun μ_18 hv_18 => ?_)
    refine j_aload_n C dX5_total_21 rfl ?_
    refine g5_8 C dX5_total_22 lFX5_31 ?_
    refine j_iload_n C dX5_total_25 rfl ?_
    refine j_iald C dX5_total_26 iA_46 (by omega) ?_
    exact j_iret C E dX5_total_27 (outM_ok (if_pos c_7) (by rw [hv_18.2.2.1 j9 hj, cl (by omega)]) hv_18.KM)
  · refine j_aload_n C dX5_total_10 rfl ?_
    refine j_bipush (v := (-2)) C dX5_total_11 (by decide) ?_
    refine cVe1 C dX5_total_13 lMX5_75 myX5_no (ev_X5_no (k := 2) (by decide) (by decide)) (by omega) rc5 (Nat.le_of_ble_eq_true rfl) ?_
    exact j_iret C E dX5_total_16 (outM_no (j := 2) (if_neg c_7) (by decide) (by decide))
set_option maxRecDepth 100000 in
set_option maxHeartbeats 4000000 in
theorem ev_X5_at {G : GX} {x y : Int32} {μ : Mem} (hE : EI (sh μ 38)) (hP : PI5 (sh μ 38)) (hz : μ 38 15 = 0) : Ev G mX5_at 3 [rf G 38, .int x, .int y] μ (PI (OutM (if isFl (μ 38 0) x then (if 0 ≤ y ∧ y ≤ nI 3 then 0 else 2) else 1) (atW (sh μ 38) (μ 43) x.toNatClampNeg y) μ)) := by
  refine Ev.of (own := RX5) (n := 0) (by decide) rfl rfl (catOK rfl) (fun X C E => ?_)
  show J G X 0 [some _, some _, some _] [] _
  have hn : μ 38 0 ≤ 6 := hE.1
  refine j_aload_n C dX5_at_0 rfl ?_
  refine j_iload_n C dX5_at_1 rfl ?_
  refine cVe1 C dX5_at_2 lMX5_111 myX5_isFloor (ev_X5_isFloor (by omega)) (by omega) rc5 (Nat.le_of_ble_eq_true rfl) ?_
  first | refine j_if_neB (tgt := 14) C dX5_at_5 (by decide) (fun c_5 => ?_) (fun c_5 => ?_) | refine j_if_neN (tgt := 14) C dX5_at_5 (by decide) (by omega) (fun c_5 => ?_) (fun c_5 => ?_) | refine j_if_ne (tgt := 14) C dX5_at_5 (by decide) (fun c_5 => ?_) (fun c_5 => ?_)
  · obtain ⟨j9, hj, rfl⟩ := isM_E hE c_5
    refine j_iload_n C dX5_at_14 rfl ?_
    refine j_iconst (v := nI 0) C dX5_at_15 (by decide) ?_
    refine j_iconst (v := nI 3) C dX5_at_16 (by decide) ?_
    refine cSe3 C dX5_at_17 lMX5_83 myX5_within (ev_X5_within) (by omega) (Nat.le_of_ble_eq_true rfl) ?_
    refine J.top (b2i_mo (q := 0 ≤ y ∧ y ≤ nI 3) in_03) ?_
    first | refine j_if_neB (tgt := 30) C dX5_at_20 (by decide) (fun c_20 => ?_) (fun c_20 => ?_) | refine j_if_neN (tgt := 30) C dX5_at_20 (by decide) (by omega) (fun c_20 => ?_) (fun c_20 => ?_) | refine j_if_ne (tgt := 30) C dX5_at_20 (by decide) (fun c_20 => ?_) (fun c_20 => ?_)
    · obtain ⟨z9, hz9, rfl⟩ := nI_of2 (n := 3) (M := nI 3) (x := y) (by decide) (Int32.not_lt.mpr c_20.1) c_20.2
      refine j_aload_n C dX5_at_30 rfl ?_
      refine cVv0 C dX5_at_31 lMX5_166 myX5_round (ev_X5_round hE hP.1 hz (Or.inl rfl)) (by omega) rc5 (Nat.le_of_ble_eq_true rfl) (fun μ_31 hv_31 => ?_)
      rcases (show z9 = 0 ∨ z9 = 1 ∨ z9 = 2 ∨ z9 = 3 by omega) with rfl | rfl | rfl | rfl
      · refine j_iload_n C dX5_at_34 rfl ?_
        refine j_if_neN (tgt := 47) C dX5_at_35 (by decide) (by decide) (fun c_35 => ?_) (fun c_35 => ?_)
        · exact absurd rfl c_35
        · refine j_aload_n C dX5_at_38 rfl ?_
          refine g5_9 C dX5_at_39 lFX5_34 ?_
          refine j_iload_n C dX5_at_42 rfl ?_
          refine j_iald C dX5_at_43 iA_47 (by omega) ?_
          refine j_goto (tgt := 81) C dX5_at_44 (by decide) ?_
          exact j_iret C E dX5_at_81 (outM_ok (by rw [if_pos c_5, if_pos c_20]) (by rw [(hv_31.2.2.2.1 j9 hj).1, cl (by omega)]; rfl) hv_31.KM)
      · refine j_iload_n C dX5_at_34 rfl ?_
        refine j_if_neN (tgt := 47) C dX5_at_35 (by decide) (by decide) (fun c_35 => ?_) (fun c_35 => ?_)
        · refine j_iload_n C dX5_at_47 rfl ?_
          refine j_iconst (v := nI 1) C dX5_at_48 (by decide) ?_
          first | refine j_icmp_neN (tgt := 61) C dX5_at_49 (by decide) (by decide) (by decide) (fun c_49 => ?_) (fun c_49 => ?_) | refine j_icmp_ne (tgt := 61) C dX5_at_49 (by decide) (fun c_49 => ?_) (fun c_49 => ?_)
          · exact absurd rfl c_49
          · refine j_aload_n C dX5_at_52 rfl ?_
            refine g5_10 C dX5_at_53 lFX5_37 ?_
            refine j_iload_n C dX5_at_56 rfl ?_
            refine j_iald C dX5_at_57 iA_48 (by omega) ?_
            refine j_goto (tgt := 81) C dX5_at_58 (by decide) ?_
            exact j_iret C E dX5_at_81 (outM_ok (by rw [if_pos c_5, if_pos c_20]) (by rw [(hv_31.2.2.2.1 j9 hj).2.1, cl (by omega)]; rfl) hv_31.KM)
        · exact absurd c_35 (by decide)
      · refine j_iload_n C dX5_at_34 rfl ?_
        refine j_if_neN (tgt := 47) C dX5_at_35 (by decide) (by decide) (fun c_35 => ?_) (fun c_35 => ?_)
        · refine j_iload_n C dX5_at_47 rfl ?_
          refine j_iconst (v := nI 1) C dX5_at_48 (by decide) ?_
          first | refine j_icmp_neN (tgt := 61) C dX5_at_49 (by decide) (by decide) (by decide) (fun c_49 => ?_) (fun c_49 => ?_) | refine j_icmp_ne (tgt := 61) C dX5_at_49 (by decide) (fun c_49 => ?_) (fun c_49 => ?_)
          · refine j_iload_n C dX5_at_61 rfl ?_
            refine j_iconst (v := nI 2) C dX5_at_62 (by decide) ?_
            first | refine j_icmp_neN (tgt := 75) C dX5_at_63 (by decide) (by decide) (by decide) (fun c_63 => ?_) (fun c_63 => ?_) | refine j_icmp_ne (tgt := 75) C dX5_at_63 (by decide) (fun c_63 => ?_) (fun c_63 => ?_)
            · exact absurd rfl c_63
            · refine j_aload_n C dX5_at_66 rfl ?_
              refine g5_11 C dX5_at_67 lFX5_40 ?_
              refine j_iload_n C dX5_at_70 rfl ?_
              refine j_iald C dX5_at_71 iA_49 (by omega) ?_
              refine j_goto (tgt := 81) C dX5_at_72 (by decide) ?_
              exact j_iret C E dX5_at_81 (outM_ok (by rw [if_pos c_5, if_pos c_20]) (by rw [(hv_31.2.2.2.1 j9 hj).2.2.1, cl (by omega)]; rfl) hv_31.KM)
          · exact absurd c_49 (by decide)
        · exact absurd c_35 (by decide)
      · refine j_iload_n C dX5_at_34 rfl ?_
        refine j_if_neN (tgt := 47) C dX5_at_35 (by decide) (by decide) (fun c_35 => ?_) (fun c_35 => ?_)
        · refine j_iload_n C dX5_at_47 rfl ?_
          refine j_iconst (v := nI 1) C dX5_at_48 (by decide) ?_
          first | refine j_icmp_neN (tgt := 61) C dX5_at_49 (by decide) (by decide) (by decide) (fun c_49 => ?_) (fun c_49 => ?_) | refine j_icmp_ne (tgt := 61) C dX5_at_49 (by decide) (fun c_49 => ?_) (fun c_49 => ?_)
          · refine j_iload_n C dX5_at_61 rfl ?_
            refine j_iconst (v := nI 2) C dX5_at_62 (by decide) ?_
            first | refine j_icmp_neN (tgt := 75) C dX5_at_63 (by decide) (by decide) (by decide) (fun c_63 => ?_) (fun c_63 => ?_) | refine j_icmp_ne (tgt := 75) C dX5_at_63 (by decide) (fun c_63 => ?_) (fun c_63 => ?_)
            · refine j_aload_n C dX5_at_75 rfl ?_
              refine g5_12 C dX5_at_76 lFX5_43 ?_
              refine j_iload_n C dX5_at_79 rfl ?_
              refine j_iald C dX5_at_80 iA_50 (by omega) ?_
              exact j_iret C E dX5_at_81 (outM_ok (by rw [if_pos c_5, if_pos c_20]) (by rw [(hv_31.2.2.2.1 j9 hj).2.2.2.1, cl (by omega)]; rfl) hv_31.KM)
            · exact absurd c_63 (by decide)
          · exact absurd c_49 (by decide)
        · exact absurd c_35 (by decide)
    · refine j_aload_n C dX5_at_23 rfl ?_
      refine j_bipush (v := (-2)) C dX5_at_24 (by decide) ?_
      refine cVe1 C dX5_at_26 lMX5_75 myX5_no (ev_X5_no (k := 2) (by decide) (by decide)) (by omega) rc5 (Nat.le_of_ble_eq_true rfl) ?_
      exact j_iret C E dX5_at_29 (outM_no (j := 2) (by rw [if_pos c_5, if_neg c_20]) (by decide) (by decide))
  · refine j_aload_n C dX5_at_8 rfl ?_
    refine j_iconst (v := (-1)) C dX5_at_9 (by decide) ?_
    refine cVe1 C dX5_at_10 lMX5_75 myX5_no (ev_X5_no (k := 1) (by decide) (by decide)) (by omega) rc5 (Nat.le_of_ble_eq_true rfl) ?_
    exact j_iret C E dX5_at_13 (outM_no (j := 1) (if_neg c_5) (by decide) (by decide))
set_option maxRecDepth 100000 in
set_option maxHeartbeats 4000000 in
theorem ev_X5_when {G : GX} {x : Int32} {μ : Mem} (hE : EI (sh μ 38)) (hP : PI5 (sh μ 38)) (hz : μ 38 15 = 0) : Ev G mX5_when 3 [rf G 38, .int x] μ (PI (OutM (kFl (μ 38 0) x) (nI (oMin (sh μ 38) (μ 43) 0 (plc (μ 43) x.toNatClampNeg (μ 38 0)))) μ)) := by
  refine Ev.of (own := RX5) (n := 0) (by decide) rfl rfl (catOK rfl) (fun X C E => ?_)
  show J G X 0 [some _, some _] [] _
  have hn : μ 38 0 ≤ 6 := hE.1
  refine j_aload_n C dX5_when_0 rfl ?_
  refine j_iload_n C dX5_when_1 rfl ?_
  refine cVe1 C dX5_when_2 lMX5_111 myX5_isFloor (ev_X5_isFloor (by omega)) (by omega) rc5 (Nat.le_of_ble_eq_true rfl) ?_
  first | refine j_if_neB (tgt := 14) C dX5_when_5 (by decide) (fun c_5 => ?_) (fun c_5 => ?_) | refine j_if_neN (tgt := 14) C dX5_when_5 (by decide) (by omega) (fun c_5 => ?_) (fun c_5 => ?_) | refine j_if_ne (tgt := 14) C dX5_when_5 (by decide) (fun c_5 => ?_) (fun c_5 => ?_)
  · obtain ⟨j9, hj, rfl⟩ := isM_E hE c_5
    obtain ⟨q1, q2, q3⟩ := hP.plc (f := j9) hj
    have q1 : plc (μ 43) j9 (μ 38 0) < μ 38 0 := q1
    refine j_aload_n C dX5_when_14 rfl ?_
    refine cVv0 C dX5_when_15 lMX5_166 myX5_round (ev_X5_round hE hP.1 hz (Or.inl rfl)) (by omega) rc5 (Nat.le_of_ble_eq_true rfl) (fun μ_15 hv_15 => ?_)
    refine j_aload_n C dX5_when_18 rfl ?_
    refine g5_9 C dX5_when_19 lFX5_34 ?_
    refine j_aload_n C dX5_when_22 rfl ?_
    refine j_iload_n C dX5_when_23 rfl ?_
    refine cVe1 C dX5_when_24 lMX5_129 myX5_placeOf (ev_X5_plc (hv_15.eiE hE) (hv_15.piE hE hP) (by rw [hv_15.f (by decide)]; exact hj)) (by omega) rc5 (Nat.le_of_ble_eq_true rfl) ?_
    refine J.top (y := nI (plc (μ 43) j9 (μ 38 0))) (by rw [hv_15.f (by decide), hv_15.row (by omega)]) ?_
    refine j_iald C dX5_when_27 iA_47 (by omega) ?_
    exact j_iret C E dX5_when_28 (outM_ok (if_pos c_5) (by rw [(hv_15.2.2.2.1 _ q1).1, cl (by omega)]) hv_15.KM)
  · refine j_aload_n C dX5_when_8 rfl ?_
    refine j_iconst (v := (-1)) C dX5_when_9 (by decide) ?_
    refine cVe1 C dX5_when_10 lMX5_75 myX5_no (ev_X5_no (k := 1) (by decide) (by decide)) (by omega) rc5 (Nat.le_of_ble_eq_true rfl) ?_
    exact j_iret C E dX5_when_13 (outM_no (j := 1) (if_neg c_5) (by decide) (by decide))
set_option maxRecDepth 100000 in
set_option maxHeartbeats 4000000 in
theorem ev_X5_machine {G : GX} {μ : Mem} (hn : μ 38 0 ≤ 6) : Ev G mX5_machine 1 [rf G 38] μ (PIe (nI (machN (sh μ 38))) μ) := by
  refine Ev.of (own := RX5) (n := 2) (by decide) rfl rfl (catOK rfl) (fun X C E => ?_)
  show J G X 0 [some _, none, none] [] _
  have loop : ∀ k i9, i9 + k = μ 38 0 → J G X 4 [some (rf G 38), some (.int (nI (sumTo (machF (sh μ 38)) i9))), some (.int (nI i9))] [] μ := by
    intro k
    induction k with
    | zero =>
      intro i9 hi
      refine j_iload_n C dX5_machine_4 rfl ?_
      refine j_aload_n C dX5_machine_5 rfl ?_
      refine g5_0 C dX5_machine_6 lFX5_79 ?_
      first | refine j_icmp_geN (tgt := 38) C dX5_machine_9 (by decide) (by omega) (by omega) (fun c_9 => ?_) (fun c_9 => ?_) | refine j_icmp_ge (tgt := 38) C dX5_machine_9 (by decide) (fun c_9 => ?_) (fun c_9 => ?_)
      · refine j_iload_n C dX5_machine_38 rfl ?_
        exact j_iret C E dX5_machine_39 ⟨by rw [show i9 = μ 38 0 by omega]; rfl, rfl⟩
      · exact absurd c_9 (by omega)
    | succ k ih =>
      intro i9 hi
      refine j_iload_n C dX5_machine_4 rfl ?_
      refine j_aload_n C dX5_machine_5 rfl ?_
      refine g5_0 C dX5_machine_6 lFX5_79 ?_
      first | refine j_icmp_geN (tgt := 38) C dX5_machine_9 (by decide) (by omega) (by omega) (fun c_9 => ?_) (fun c_9 => ?_) | refine j_icmp_ge (tgt := 38) C dX5_machine_9 (by decide) (fun c_9 => ?_) (fun c_9 => ?_)
      · exact absurd c_9 (by omega)
      · refine j_iload_n C dX5_machine_12 rfl ?_
        refine j_aload_n C dX5_machine_13 rfl ?_
        refine g5_3 C dX5_machine_14 lFX5_16 ?_
        refine j_iload_n C dX5_machine_17 rfl ?_
        refine j_iald C dX5_machine_18 iA_41 (by omega) ?_
        refine j_iconst (v := nI 2) C dX5_machine_19 (by decide) ?_
        refine j_aload_n C dX5_machine_20 rfl ?_
        refine g5_2 C dX5_machine_21 lFX5_13 ?_
        refine j_iload_n C dX5_machine_24 rfl ?_
        refine j_iald C dX5_machine_25 iA_40 (by omega) ?_
        first | refine j_imulN C dX5_machine_26 ?_ | refine j_imul C dX5_machine_26 ?_
        refine j_iconst (v := nI 1) C dX5_machine_27 (by decide) ?_
        first | refine j_iaddN C dX5_machine_28 ?_ | refine j_iadd C dX5_machine_28 ?_
        first | refine j_imulN C dX5_machine_29 ?_ | refine j_imul C dX5_machine_29 ?_
        first | refine j_iaddN C dX5_machine_30 ?_ | refine j_iadd C dX5_machine_30 ?_
        refine sn1 C dX5_machine_31 rfl ?_
        first | refine in2 C dX5_machine_32 (nI_1 _) rfl ?_ | refine in2 C dX5_machine_32 rfl rfl ?_
        refine j_goto (tgt := 4) C dX5_machine_35 (by decide) ?_
        exact ih (i9 + 1) (by omega)
  refine j_iconst (v := nI 0) C dX5_machine_0 (by decide) ?_
  refine sn1 C dX5_machine_1 rfl ?_
  refine j_iconst (v := nI 0) C dX5_machine_2 (by decide) ?_
  refine sn2 C dX5_machine_3 rfl ?_
  exact loop (μ 38 0) 0 (by omega)
set_option maxRecDepth 100000 in
set_option maxHeartbeats 4000000 in
theorem ev_X5_saves {G : GX} {μ : Mem} (hE : EI (sh μ 38)) (hP : PI5 (sh μ 38)) (hz : μ 38 15 = 0) : Ev G mX5_saves 3 [rf G 38] μ (PI (OutM 0 (nI (machN (sh μ 38)) - nI (Tot (sh μ 38) (μ 43) 0 6)) μ)) := by
  refine Ev.of (own := RX5) (n := 0) (by decide) rfl rfl (catOK rfl) (fun X C E => ?_)
  show J G X 0 [some _] [] _
  have hn : μ 38 0 ≤ 6 := hE.1
  refine j_aload_n C dX5_saves_0 rfl ?_
  refine cVv0 C dX5_saves_1 lMX5_166 myX5_round (ev_X5_round hE hP.1 hz (Or.inl rfl)) (by omega) rc5 (Nat.le_of_ble_eq_true rfl) (fun μ_1 hv_1 => ?_)
  refine j_aload_n C dX5_saves_4 rfl ?_
  refine cVe0 C dX5_saves_5 lMX5_188 myX5_machine (ev_X5_machine (by rw [hv_1.f (by decide)]; exact hn)) (by omega) rc5 (Nat.le_of_ble_eq_true rfl) ?_
  refine j_aload_n C dX5_saves_8 rfl ?_
  refine g5_8 C dX5_saves_9 lFX5_31 ?_
  refine j_bipush (v := nI 6) C dX5_saves_12 (by decide) ?_
  refine j_iald C dX5_saves_14 iA_46 (by omega) ?_
  refine j_isub C dX5_saves_15 ?_
  exact j_iret C E dX5_saves_16 (outM_ok rfl (by rw [hv_1.2.2.1 6 (by omega), machN_eq hv_1.eqE (hv_1.eiE hE)]) hv_1.KM)
set_option maxRecDepth 100000 in
set_option maxHeartbeats 4000000 in
theorem ev_X5_oneEach {G : GX} {μ : Mem} (hE : EI (sh μ 38)) (hP : PI5 (sh μ 38)) (hz : μ 38 15 = 0) : Ev G mX5_oneEach 3 [rf G 38] μ (PI (OutM 0 (nI (Tot (sh μ 38) (μ 43) 0 5) - nI (Tot (sh μ 38) (μ 43) 1 5)) μ)) := by
  refine Ev.of (own := RX5) (n := 1) (by decide) rfl rfl (catOK rfl) (fun X C E => ?_)
  show J G X 0 [some _, none] [] _
  refine j_aload_n C dX5_oneEach_0 rfl ?_
  refine cVv0 C dX5_oneEach_1 lMX5_166 myX5_round (ev_X5_round hE hP.1 hz (Or.inl rfl)) (by omega) rc5 (Nat.le_of_ble_eq_true rfl) (fun μ_1 hv_1 => ?_)
  refine j_aload_n C dX5_oneEach_4 rfl ?_
  refine g5_8 C dX5_oneEach_5 lFX5_31 ?_
  refine j_iconst (v := nI 5) C dX5_oneEach_8 (by decide) ?_
  refine j_iald C dX5_oneEach_9 iA_46 (by omega) ?_
  refine J.top (y := nI (Tot (sh μ 38) (μ 43) 0 5)) (by rw [hv_1.2.2.1 5 (by omega)]) ?_
  refine sn1 C dX5_oneEach_10 rfl ?_
  refine j_aload_n C dX5_oneEach_11 rfl ?_
  refine j_iconst (v := nI 1) C dX5_oneEach_12 (by decide) ?_
  refine p5_15 C dX5_oneEach_13 lFX5_156 (Or.inr rfl) ?_
  refine j_aload_n C dX5_oneEach_16 rfl ?_
  have k1 := hv_1.eiE hE
  have u43 : up μ_1 38 15 1 43 = μ 43 := by rw [up_ne (by decide), hv_1.row (by omega)]
  have ue : EQ (sh (up μ_1 38 15 1) 38) (sh μ 38) := (up38_EQ (by decide)).trans hv_1.eqE
  have uE := EI.eq ue.symm hE
  have uO : OI (sh (up μ_1 38 15 1) 38) (up μ_1 38 15 1 43) := by rw [u43]; exact OI.eq ue.symm (eqTo.refl _) hP.1
  refine cVv0 C dX5_oneEach_17 lMX5_166 myX5_round (ev_X5_round uE uO up_at (Or.inr rfl)) (by omega) rc5 (Nat.le_of_ble_eq_true rfl) (fun μ_17 hv_17 => ?_)
  refine j_aload_n C dX5_oneEach_20 rfl ?_
  refine j_iconst (v := nI 0) C dX5_oneEach_21 (by decide) ?_
  refine p5_15 C dX5_oneEach_22 lFX5_156 (Or.inl rfl) ?_
  refine j_iload_n C dX5_oneEach_25 rfl ?_
  refine j_aload_n C dX5_oneEach_26 rfl ?_
  refine g5_8 C dX5_oneEach_27 lFX5_31 ?_
  refine j_iconst (v := nI 5) C dX5_oneEach_30 (by decide) ?_
  refine j_iald C dX5_oneEach_31 iA_46 (by omega) ?_
  refine J.top (y := nI (Tot (sh μ 38) (μ 43) 1 5)) (by
    rw [up_ne (by decide), hv_17.2.2.1 5 (by omega), u43]
    exact congrArg nI (Tot_eq ue uE (OI.eq ue.symm (eqTo.refl _) hP.1) (eqTo.refl _))) ?_
  refine j_isub C dX5_oneEach_32 ?_
  exact j_iret C E dX5_oneEach_33 (outM_ok rfl rfl (by
      have a9 := hv_1.KM
      have b9 := hv_17.KM
      obtain ⟨g1, g2, g3, g4, g5, g6, g7, g8, g9, g10⟩ := b9
      have h1 : ∀ q, q ≠ 38 → up μ_17 38 15 0 q = μ_17 q := fun q h => up_ne h
      have h2 : ∀ q, q ≠ 38 → up μ_1 38 15 1 q = μ_1 q := fun q h => up_ne h
      refine ⟨fun q hq => by rw [h1 q (by omega), g1 q hq, h2 q (by omega)]; exact a9.1 q hq, ?_, by rw [up_at]; exact hz.symm, ?_, ?_, ?_, ?_, ?_, ?_, ?_⟩
      · exact ((up38_EQ (by decide)).trans g2).trans ue
      · rw [up_off (Or.inr (by decide)), g4, up_off (Or.inr (by decide))]; exact a9.2.2.2.1
      · rw [up_off (Or.inr (by decide)), g5, up_off (Or.inr (by decide))]; exact a9.2.2.2.2.1
      · rw [up_off (Or.inr (by decide)), g6, up_off (Or.inr (by decide))]; exact a9.2.2.2.2.2.1
      · rw [h1 52 (by decide), g7, h2 52 (by decide)]; exact a9.2.2.2.2.2.2.1
      · rw [h1 54 (by decide), g8, h2 54 (by decide)]; exact a9.2.2.2.2.2.2.2.1
      · rw [h1 55 (by decide), g9, h2 55 (by decide)]; exact a9.2.2.2.2.2.2.2.2.1
      · rw [h1 56 (by decide), g10, h2 56 (by decide)]; exact a9.2.2.2.2.2.2.2.2.2))
set_option maxRecDepth 100000 in
set_option maxHeartbeats 4000000 in
theorem ev_X5_row {G : GX} {x9 : Int32} {μ : Mem} (hl : μ 38 20 ≤ 12) : Ev G mX5_row 1 [rf G 38, .int x9] μ (PI (OutG 55 (kRo (μ 38 20) x9) (nI (μ 38 20 + 1)) μ (fun μ' => μ' = up (up μ 38 20 (μ 38 20 + 1)) 54 (μ 38 20) x9.toNatClampNeg))) := by
  refine Ev.of (own := RX5) (n := 0) (by decide) rfl rfl (catOK rfl) (fun X C E => ?_)
  show J G X 0 [some _, some _] [] _
  refine j_iload_n C dX5_row_0 rfl ?_
  refine j_if_ge (tgt := 11) C dX5_row_1 (by decide) (fun c_1 => ?_) (fun c_1 => ?_)
  · refine j_iload_n C dX5_row_11 rfl ?_
    refine j_bipush (v := nI 99) C dX5_row_12 (by decide) ?_
    refine j_icmp_gt (tgt := 26) C dX5_row_14 (by decide) (fun c_14 => ?_) (fun c_14 => ?_)
    · refine j_aload_n C dX5_row_26 rfl ?_
      refine j_bipush (v := (-6)) C dX5_row_27 (by decide) ?_
      refine cVe1 C dX5_row_29 lMX5_75 myX5_no (ev_X5_no (k := 6) (by decide) (by decide)) (by omega) rc5 (Nat.le_of_ble_eq_true rfl) ?_
      exact j_iret C E dX5_row_32 (by first | exact outG_no (j := 6) (by rw [kRo, if_neg (Int32.not_lt.mpr c_1), if_pos (Or.inl c_14)]) (by decide) (by decide) | exact outG_no (j := 6) (by rw [kRo, if_neg (Int32.not_lt.mpr c_1), if_pos (Or.inr (by omega))]) (by decide) (by decide))
    · obtain ⟨a9, ha9, rfl⟩ := nI_of2 (n := 99) (M := nI 99) (x := x9) (by decide) (Int32.not_lt.mpr c_1) (Int32.not_lt.mp c_14)
      refine j_aload_n C dX5_row_17 rfl ?_
      refine g5_20 C dX5_row_18 lFX5_208 ?_
      refine j_bipush (v := nI 12) C dX5_row_21 (by decide) ?_
      first | refine j_icmp_neN (tgt := 33) C dX5_row_23 (by decide) (by omega) (by omega) (fun c_23 => ?_) (fun c_23 => ?_) | refine j_icmp_ne (tgt := 33) C dX5_row_23 (by decide) (fun c_23 => ?_) (fun c_23 => ?_)
      · refine j_aload_n C dX5_row_33 rfl ?_
        refine g5_21 C dX5_row_34 lFX5_55 ?_
        refine j_aload_n C dX5_row_37 rfl ?_
        refine j_dup C dX5_row_38 rfl ?_
        refine g5_20 C dX5_row_39 lFX5_208 ?_
        refine j_dup_x1 C dX5_row_42 rfl rfl ?_
        refine j_iconst (v := nI 1) C dX5_row_43 (by decide) ?_
        first | refine j_iaddN C dX5_row_44 ?_ | refine j_iadd C dX5_row_44 ?_
        refine p5_20 C dX5_row_45 lFX5_208 ?_
        refine j_iload_n C dX5_row_48 rfl ?_
        refine j_iast C dX5_row_49 iA_54 (by omega) ?_
        refine j_aload_n C dX5_row_50 rfl ?_
        refine g5_20 C dX5_row_51 lFX5_208 ?_
        refine J.top (y := nI (μ 38 20 + 1)) (by rw [up_ne (by decide), up_at]) ?_
        exact j_iret C E dX5_row_54 (outG_ok (by rw [kRo, if_neg (Int32.not_lt.mpr c_1), if_neg (fun q => q.elim c_14 (fun q => absurd q (by omega)))]) rfl (by rw [cl (by omega)]))
      · refine j_aload_n C dX5_row_26 rfl ?_
        refine j_bipush (v := (-6)) C dX5_row_27 (by decide) ?_
        refine cVe1 C dX5_row_29 lMX5_75 myX5_no (ev_X5_no (k := 6) (by decide) (by decide)) (by omega) rc5 (Nat.le_of_ble_eq_true rfl) ?_
        exact j_iret C E dX5_row_32 (by first | exact outG_no (j := 6) (by rw [kRo, if_neg (Int32.not_lt.mpr c_1), if_pos (Or.inl c_14)]) (by decide) (by decide) | exact outG_no (j := 6) (by rw [kRo, if_neg (Int32.not_lt.mpr c_1), if_pos (Or.inr (by omega))]) (by decide) (by decide))
  · refine j_aload_n C dX5_row_4 rfl ?_
    refine j_bipush (v := (-4)) C dX5_row_5 (by decide) ?_
    refine cVe1 C dX5_row_7 lMX5_75 myX5_no (ev_X5_no (k := 4) (by decide) (by decide)) (by omega) rc5 (Nat.le_of_ble_eq_true rfl) ?_
    exact j_iret C E dX5_row_10 (outG_no (j := 4) (if_pos (Int32.not_le.mp c_1)) (by decide) (by decide))
