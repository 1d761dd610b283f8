-- THE REFERENCE: fill and ramp
set_option maxRecDepth 100000 in
set_option maxHeartbeats 4000000 in
theorem ev_X5_cheapest {G : GX} {k9 : Nat} {μ : Mem} (hE : EI (sh μ 38)) (hP : PI5 (sh μ 38)) (hz : μ 38 15 = 0) (hk : k9 = 6 ∨ k9 = 8) : Ev G mX5_cheapest 3 [rf G 38, .int (nI k9)] μ (PI (OutM 0 (nI (bIdx (fun v => Tot (up (sh μ 38) 6 k9 v) (μ 43) 0 7) false (mostN k9))) μ)) := by
  refine Ev.of (own := RX5) (n := 4) (by decide) rfl rfl (catOK rfl) (fun X C E => ?_)
  show J G X 0 [some _, some _, none, none, none, none] [] _
  have hm9 := mostN_le k9
  refine j_aload_n C dX5_cheapest_0 rfl ?_
  refine g5_6 C dX5_cheapest_1 lFX5_25 ?_
  refine j_iload_n C dX5_cheapest_4 rfl ?_
  refine j_iald C dX5_cheapest_5 iA_44 (by omega) ?_
  refine sn2 C dX5_cheapest_6 rfl ?_
  refine j_iconst (v := nI 0) C dX5_cheapest_7 (by decide) ?_
  refine sn3 C dX5_cheapest_8 rfl ?_
  refine j_iconst (v := (-1)) C dX5_cheapest_9 (by decide) ?_
  refine sl4 C dX5_cheapest_10 rfl ?_
  refine j_iconst (v := nI 0) C dX5_cheapest_12 (by decide) ?_
  refine sl5 C dX5_cheapest_13 rfl ?_
  have hT : TM μ 6 k9 μ := TM_refl
  have loop : ∀ c v9 b9 l9 ν, v9 + c = mostN k9 + 1 → 0 < v9 → TM μ 6 k9 ν → b9 = bIdx (fun v => Tot (up (sh μ 38) 6 k9 v) (μ 43) 0 7) false (v9 - 1) → l9 = (fun v => Tot (up (sh μ 38) 6 k9 v) (μ 43) 0 7) b9 → J G X 15 [some (rf G 38), some (.int (nI k9)), some (.int (nI (μ 44 k9))), some (.int (nI b9)), some (.int (nI l9)), some (.int (nI v9))] [] ν := by
    intro c
    induction c with
    | zero =>
      intro v9 b9 l9 ν hvc hv0 hT hb hl
      refine j_iload C dX5_cheapest_15 rfl ?_
      refine j_iload_n C dX5_cheapest_17 rfl ?_
      refine cSe1 C dX5_cheapest_18 lMX5_132 myX5_mostOf (ev_X5_mostOf (by omega)) (by omega) (Nat.le_of_ble_eq_true rfl) ?_
      first | refine j_icmp_gtN (tgt := 74) C dX5_cheapest_21 (by decide) (by omega) (by omega) (fun c_21 => ?_) (fun c_21 => ?_) | refine j_icmp_gt (tgt := 74) C dX5_cheapest_21 (by decide) (fun c_21 => ?_) (fun c_21 => ?_)
      · refine j_aload_n C dX5_cheapest_74 rfl ?_
        refine g5_6 C dX5_cheapest_75 lFX5_25 ?_
        refine j_iload_n C dX5_cheapest_78 rfl ?_
        refine j_iload_n C dX5_cheapest_79 rfl ?_
        refine j_iast C dX5_cheapest_80 iA_44 (by omega) ?_
        refine j_iload_n C dX5_cheapest_81 rfl ?_
        exact j_iret C E dX5_cheapest_82 (outM_ok rfl (by rw [hb, show v9 - 1 = mostN k9 by omega]) (TM_back (a := 6) (by omega) hT))
      · exact absurd c_21 (by omega)
    | succ c ih =>
      intro v9 b9 l9 ν hvc hv0 hT hb hl
      refine j_iload C dX5_cheapest_15 rfl ?_
      refine j_iload_n C dX5_cheapest_17 rfl ?_
      refine cSe1 C dX5_cheapest_18 lMX5_132 myX5_mostOf (ev_X5_mostOf (by omega)) (by omega) (Nat.le_of_ble_eq_true rfl) ?_
      first | refine j_icmp_gtN (tgt := 74) C dX5_cheapest_21 (by decide) (by omega) (by omega) (fun c_21 => ?_) (fun c_21 => ?_) | refine j_icmp_gt (tgt := 74) C dX5_cheapest_21 (by decide) (fun c_21 => ?_) (fun c_21 => ?_)
      · exact absurd c_21 (by omega)
      · obtain ⟨w1, w2, w3, w4⟩ := tM (v := v9) hT (Or.inr rfl) (EI_up6 hE (by omega)) hP hz
        have hb7 : (fun v => Tot (up (sh μ 38) 6 k9 v) (μ 43) 0 7) v9 ≤ 100000 := Tot_b (EI_up6 hE (by omega)) (PI5_up hP (by omega) (by omega)).1
        have hbb := bIdx_f hv0 hb hl
        have hl100 : l9 ≤ 100000 := by rw [hl]; exact Tot_b (EI_up6 hE (by have := bIdx_le (fun v => Tot (up (sh μ 38) 6 k9 v) (μ 43) 0 7) false (v9 - 1); omega)) (PI5_up hP (by omega) (by omega)).1
        refine j_aload_n C dX5_cheapest_24 rfl ?_
        refine g5_6 C dX5_cheapest_25 lFX5_25 ?_
        refine j_iload_n C dX5_cheapest_28 rfl ?_
        refine j_iload C dX5_cheapest_29 rfl ?_
        refine j_iast C dX5_cheapest_31 iA_44 (by omega) ?_
        refine j_aload_n C dX5_cheapest_32 rfl ?_
        refine cVv0 C dX5_cheapest_33 lMX5_166 myX5_round (ev_X5_round w1 w2 w3 (Or.inl rfl)) (by omega) rc5 (Nat.le_of_ble_eq_true rfl) (fun μ_33 hv_33 => ?_)
        obtain ⟨r1, r2, r3⟩ := w4 _ hv_33
        refine j_iload C dX5_cheapest_36 rfl ?_
        refine j_if_ltN (tgt := 56) C dX5_cheapest_38 (by decide) (by omega) ?_
        refine j_aload_n C dX5_cheapest_41 rfl ?_
        refine g5_8 C dX5_cheapest_42 lFX5_31 ?_
        refine j_bipush (v := nI 7) C dX5_cheapest_45 (by decide) ?_
        refine j_iald C dX5_cheapest_47 iA_46 (by omega) ?_
        refine J.top (y := nI ((fun v => Tot (up (sh μ 38) 6 k9 v) (μ 43) 0 7) v9)) (by rw [r1 7 (by omega)]) ?_
        refine j_iload C dX5_cheapest_48 rfl ?_
        first | refine j_icmp_ltN (tgt := 56) C dX5_cheapest_50 (by decide) (by omega) (by omega) (fun c_50 => ?_) (fun c_50 => ?_) | refine j_icmp_lt (tgt := 56) C dX5_cheapest_50 (by decide) (fun c_50 => ?_) (fun c_50 => ?_)
        · refine j_aload_n C dX5_cheapest_56 rfl ?_
          refine g5_8 C dX5_cheapest_57 lFX5_31 ?_
          refine j_bipush (v := nI 7) C dX5_cheapest_60 (by decide) ?_
          refine j_iald C dX5_cheapest_62 iA_46 (by omega) ?_
          refine J.top (y := nI ((fun v => Tot (up (sh μ 38) 6 k9 v) (μ 43) 0 7) v9)) (by rw [r1 7 (by omega)]) ?_
          refine sl4 C dX5_cheapest_63 rfl ?_
          refine j_iload C dX5_cheapest_65 rfl ?_
          refine sn3 C dX5_cheapest_67 rfl ?_
          first | refine in5 C dX5_cheapest_68 (nI_1 _) rfl ?_ | refine in5 C dX5_cheapest_68 rfl rfl ?_
          refine j_goto (tgt := 15) C dX5_cheapest_71 (by decide) ?_
          exact ih (v9 + 1) v9 _ _ (by omega) (by omega) r3 (hbb.1 (by omega)).symm rfl
        · refine j_goto (tgt := 68) C dX5_cheapest_53 (by decide) ?_
          refine in5 C dX5_cheapest_68 (nI_1 _) rfl ?_
          refine j_goto (tgt := 15) C dX5_cheapest_71 (by decide) ?_
          exact ih (v9 + 1) b9 l9 _ (by omega) (by omega) r3 (hbb.2 (by omega)).symm hl
  refine j_iload C dX5_cheapest_15 rfl ?_
  refine j_iload_n C dX5_cheapest_17 rfl ?_
  refine cSe1 C dX5_cheapest_18 lMX5_132 myX5_mostOf (ev_X5_mostOf (by omega)) (by omega) (Nat.le_of_ble_eq_true rfl) ?_
  first | refine j_icmp_gtN (tgt := 74) C dX5_cheapest_21 (by decide) (by omega) (by omega) (fun c_21 => ?_) (fun c_21 => ?_) | refine j_icmp_gt (tgt := 74) C dX5_cheapest_21 (by decide) (fun c_21 => ?_) (fun c_21 => ?_)
  · exact absurd c_21 (by omega)
  · obtain ⟨w1, w2, w3, w4⟩ := tM (v := 0) hT (Or.inr rfl) (EI_up6 hE (by omega)) hP hz
    have hb7 : (fun v => Tot (up (sh μ 38) 6 k9 v) (μ 43) 0 7) 0 ≤ 100000 := Tot_b (EI_up6 hE (by omega)) (PI5_up hP (by omega) (by omega)).1
    refine j_aload_n C dX5_cheapest_24 rfl ?_
    refine g5_6 C dX5_cheapest_25 lFX5_25 ?_
    refine j_iload_n C dX5_cheapest_28 rfl ?_
    refine j_iload C dX5_cheapest_29 rfl ?_
    refine j_iast C dX5_cheapest_31 iA_44 (by omega) ?_
    refine j_aload_n C dX5_cheapest_32 rfl ?_
    refine cVv0 C dX5_cheapest_33 lMX5_166 myX5_round (ev_X5_round w1 w2 w3 (Or.inl rfl)) (by omega) rc5 (Nat.le_of_ble_eq_true rfl) (fun μ_33 hv_33 => ?_)
    obtain ⟨r1, r2, r3⟩ := w4 _ hv_33
    refine j_iload C dX5_cheapest_36 rfl ?_
    refine j_if_lt (tgt := 56) C dX5_cheapest_38 (by decide) (fun c_38 => ?_) (fun c_38 => absurd (by decide) c_38)
    · refine j_aload_n C dX5_cheapest_56 rfl ?_
      refine g5_8 C dX5_cheapest_57 lFX5_31 ?_
      refine j_bipush (v := nI 7) C dX5_cheapest_60 (by decide) ?_
      refine j_iald C dX5_cheapest_62 iA_46 (by omega) ?_
      refine J.top (y := nI ((fun v => Tot (up (sh μ 38) 6 k9 v) (μ 43) 0 7) 0)) (by rw [r1 7 (by omega)]) ?_
      refine sl4 C dX5_cheapest_63 rfl ?_
      refine j_iload C dX5_cheapest_65 rfl ?_
      refine sn3 C dX5_cheapest_67 rfl ?_
      first | refine in5 C dX5_cheapest_68 (nI_1 _) rfl ?_ | refine in5 C dX5_cheapest_68 rfl rfl ?_
      refine j_goto (tgt := 15) C dX5_cheapest_71 (by decide) ?_
      exact loop (mostN k9) 1 0 _ _ (by omega) (by omega) r3 rfl rfl
set_option maxRecDepth 100000 in
set_option maxHeartbeats 4000000 in
theorem ev_X5_fill {G : GX} {μ : Mem} (hE : EI (sh μ 38)) (hP : PI5 (sh μ 38)) (hz : μ 38 15 = 0) : Ev G mX5_fill 4 [rf G 38] μ (PI (OutM 0 (nI (bIdx (fun v => Tot (up (sh μ 38) 6 8 v) (μ 43) 0 7) false 2)) μ)) := by
  refine Ev.of (own := RX5) (n := 0) (by decide) rfl rfl (catOK rfl) (fun X C E => ?_)
  show J G X 0 [some _] [] _
  refine j_aload_n C dX5_fill_0 rfl ?_
  refine j_bipush (v := nI 8) C dX5_fill_1 (by decide) ?_
  refine cVi1 C dX5_fill_3 lMX5_185 myX5_cheapest (ev_X5_cheapest hE hP hz (by omega)) (by omega) rc5 (Nat.le_of_ble_eq_true rfl) (fun v_3 μ_3 hv_3 => ?_)
  exact j_iret C E dX5_fill_6 ⟨_, rfl, hv_3⟩
set_option maxRecDepth 100000 in
set_option maxHeartbeats 4000000 in
theorem ev_X5_ramp {G : GX} {μ : Mem} (hE : EI (sh μ 38)) (hP : PI5 (sh μ 38)) (hz : μ 38 15 = 0) : Ev G mX5_ramp 4 [rf G 38] μ (PI (OutM 0 (nI (bIdx (fun v => Tot (up (sh μ 38) 6 6 v) (μ 43) 0 7) false 1)) μ)) := by
  refine Ev.of (own := RX5) (n := 0) (by decide) rfl rfl (catOK rfl) (fun X C E => ?_)
  show J G X 0 [some _] [] _
  refine j_aload_n C dX5_ramp_0 rfl ?_
  refine j_bipush (v := nI 6) C dX5_ramp_1 (by decide) ?_
  refine cVi1 C dX5_ramp_3 lMX5_185 myX5_cheapest (ev_X5_cheapest hE hP hz (by omega)) (by omega) rc5 (Nat.le_of_ble_eq_true rfl) (fun v_3 μ_3 hv_3 => ?_)
  exact j_iret C E dX5_ramp_6 ⟨_, rfl, hv_3⟩
