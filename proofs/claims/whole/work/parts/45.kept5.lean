-- THE REFERENCE: keep
theorem in_01 {x : Int32} : (nI 0 ≤ x ∧ x ≤ nI 1) ↔ (0 ≤ x ∧ x ≤ nI 1) := Iff.rfl
set_option maxRecDepth 100000 in
set_option maxHeartbeats 4000000 in
theorem ev_X5_keep {G : GX} {x9 : Int32} {μ : Mem} (hE : EI (sh μ 38)) (hP : PI5 (sh μ 38)) (hz : μ 38 15 = 0) : Ev G mX5_keep 3 [rf G 38, .int x9] μ (PI (OutM (k2 x9 1) (kpW (fun v => if μ 38 0 = 0 then 0 else oIced (up (sh μ 38) 6 9 v) (μ 43) 0 (μ 38 0 - 1)) x9) μ)) := by
  refine Ev.of (own := RX5) (n := 4) (by decide) rfl rfl (catOK rfl) (fun X C E => ?_)
  show J G X 0 [some _, some _, none, none, none, none] [] _
  have hn : μ 38 0 ≤ 6 := hE.1
  refine j_iload_n C dX5_keep_0 rfl ?_
  refine j_iconst (v := nI 0) C dX5_keep_1 (by decide) ?_
  refine j_iconst (v := nI 1) C dX5_keep_2 (by decide) ?_
  refine cSe3 C dX5_keep_3 lMX5_83 myX5_within (ev_X5_within) (by omega) (Nat.le_of_ble_eq_true rfl) ?_
  refine J.top (b2i_mo (q := 0 ≤ x9 ∧ x9 ≤ nI 1) in_01) ?_
  first | refine j_if_neB (tgt := 16) C dX5_keep_6 (by decide) (fun c_6 => ?_) (fun c_6 => ?_) | refine j_if_neN (tgt := 16) C dX5_keep_6 (by decide) (by omega) (fun c_6 => ?_) (fun c_6 => ?_) | refine j_if_ne (tgt := 16) C dX5_keep_6 (by decide) (fun c_6 => ?_) (fun c_6 => ?_)
  · obtain ⟨z9, hz9, rfl⟩ := nI_of2 (n := 1) (M := nI 1) (x := x9) (by decide) (Int32.not_lt.mpr c_6.1) c_6.2
    have kq : k2 (nI z9) 1 = 0 := if_pos c_6
    refine j_aload_n C dX5_keep_16 rfl ?_
    refine g5_0 C dX5_keep_17 lFX5_79 ?_
    refine j_if_neN (tgt := 25) C dX5_keep_20 (by decide) (by omega) (fun h09 => ?_) (fun h09 => ?_)
    · refine j_aload_n C dX5_keep_25 rfl ?_
      refine g5_6 C dX5_keep_26 lFX5_25 ?_
      refine j_bipush (v := nI 9) C dX5_keep_29 (by decide) ?_
      refine j_iald C dX5_keep_31 iA_44 (by omega) ?_
      refine sn2 C dX5_keep_32 rfl ?_
      refine j_iconst (v := nI 0) C dX5_keep_33 (by decide) ?_
      refine sn3 C dX5_keep_34 rfl ?_
      refine j_iconst (v := (-1)) C dX5_keep_35 (by decide) ?_
      refine sl4 C dX5_keep_36 rfl ?_
      refine j_iconst (v := nI 0) C dX5_keep_38 (by decide) ?_
      refine sl5 C dX5_keep_39 rfl ?_
      have hT : TM μ 6 9 μ := TM_refl
      have hFb : ∀ v, v ≤ 20 → (fun v => if μ 38 0 = 0 then 0 else oIced (up (sh μ 38) 6 9 v) (μ 43) 0 (μ 38 0 - 1)) v ≤ 60 := fun v hv => by
        show (if μ 38 0 = 0 then 0 else oIced (up (sh μ 38) 6 9 v) (μ 43) 0 (μ 38 0 - 1)) ≤ 60
        rw [if_neg h09]
        exact (o_b (w := 0) (EI_up6 hE hv) (PI5_up (k := 9) (v := v) hP (a := 6) (by omega) (by omega)).1 (show μ 38 0 - 1 < up (sh μ 38) 6 9 v 0 0 by rw [up_ne (by decide)]; show μ 38 0 - 1 < μ 38 0; omega)).2.2.2.1
      have loop : ∀ c v9 b9 l9 ν, v9 + c = 21 → 0 < v9 → TM μ 6 9 ν → b9 = bIdx (fun v => if μ 38 0 = 0 then 0 else oIced (up (sh μ 38) 6 9 v) (μ 43) 0 (μ 38 0 - 1)) true (v9 - 1) → l9 = (fun v => if μ 38 0 = 0 then 0 else oIced (up (sh μ 38) 6 9 v) (μ 43) 0 (μ 38 0 - 1)) b9 → J G X 41 [some (rf G 38), some (.int (nI z9)), some (.int (nI (μ 44 9))), some (.int (nI b9)), some (.int (nI l9)), some (.int (nI v9))] [] ν := by
        intro c
        induction c with
        | zero =>
          intro v9 b9 l9 ν hvc hv0 hT hb hl
          refine j_iload C dX5_keep_41 rfl ?_
          refine j_bipush (v := nI 21) C dX5_keep_43 (by decide) ?_
          first | refine j_icmp_geN (tgt := 102) C dX5_keep_45 (by decide) (by omega) (by omega) (fun c_45 => ?_) (fun c_45 => ?_) | refine j_icmp_ge (tgt := 102) C dX5_keep_45 (by decide) (fun c_45 => ?_) (fun c_45 => ?_)
          · refine j_aload_n C dX5_keep_102 rfl ?_
            refine g5_6 C dX5_keep_103 lFX5_25 ?_
            refine j_bipush (v := nI 9) C dX5_keep_106 (by decide) ?_
            refine j_iload_n C dX5_keep_108 rfl ?_
            refine j_iast C dX5_keep_109 iA_44 (by omega) ?_
            refine j_iload_n C dX5_keep_110 rfl ?_
            refine j_if_neN (tgt := 118) C dX5_keep_111 (by decide) (by omega) (fun c_111 => ?_) (fun c_111 => ?_)
            · have hz0 : ¬ nI z9 = 0 := fun e => c_111 ((nI_eqI (b := 0) (by omega) (by decide)).mp e)
              refine j_iload C dX5_keep_118 rfl ?_
              exact j_iret C E dX5_keep_120 (by first | exact outM_ok kq (by rw [kpW, if_pos (show nI z9 = 0 by rw [c_111]; rfl), hb, show v9 - 1 = 20 by omega]) (TM_back (a := 6) (by omega) hT) | exact outM_ok kq (by rw [kpW, if_neg hz0, hl, hb, show v9 - 1 = 20 by omega]) (TM_back (a := 6) (by omega) hT))
            · refine j_iload_n C dX5_keep_114 rfl ?_
              refine j_goto (tgt := 120) C dX5_keep_115 (by decide) ?_
              exact j_iret C E dX5_keep_120 (by first | exact outM_ok kq (by rw [kpW, if_pos (show nI z9 = 0 by rw [c_111]; rfl), hb, show v9 - 1 = 20 by omega]) (TM_back (a := 6) (by omega) hT) | exact outM_ok kq (by rw [kpW, if_neg hz0, hl, hb, show v9 - 1 = 20 by omega]) (TM_back (a := 6) (by omega) hT))
          · exact absurd c_45 (by omega)
        | succ c ih =>
          intro v9 b9 l9 ν hvc hv0 hT hb hl
          refine j_iload C dX5_keep_41 rfl ?_
          refine j_bipush (v := nI 21) C dX5_keep_43 (by decide) ?_
          first | refine j_icmp_geN (tgt := 102) C dX5_keep_45 (by decide) (by omega) (by omega) (fun c_45 => ?_) (fun c_45 => ?_) | refine j_icmp_ge (tgt := 102) C dX5_keep_45 (by decide) (fun c_45 => ?_) (fun c_45 => ?_)
          · exact absurd c_45 (by omega)
          · obtain ⟨w1, w2, w3, w4⟩ := tM (v := v9) hT (Or.inr rfl) (EI_up6 hE (show v9 ≤ 20 by omega)) hP hz
            have hb7 : (fun v => if μ 38 0 = 0 then 0 else oIced (up (sh μ 38) 6 9 v) (μ 43) 0 (μ 38 0 - 1)) v9 ≤ 60 := hFb v9 (by omega)
            have hbb := bIdx_t hv0 hb hl
            have hl60 : l9 ≤ 60 := by rw [hl]; exact hFb b9 (by have := bIdx_le (fun v => if μ 38 0 = 0 then 0 else oIced (up (sh μ 38) 6 9 v) (μ 43) 0 (μ 38 0 - 1)) true (v9 - 1); omega)
            refine j_aload_n C dX5_keep_48 rfl ?_
            refine g5_6 C dX5_keep_49 lFX5_25 ?_
            refine j_bipush (v := nI 9) C dX5_keep_52 (by decide) ?_
            refine j_iload C dX5_keep_54 rfl ?_
            refine j_iast C dX5_keep_56 iA_44 (by omega) ?_
            refine j_aload_n C dX5_keep_57 rfl ?_
            refine cVv0 C dX5_keep_58 lMX5_166 myX5_round (ev_X5_round w1 w2 w3 (Or.inl rfl)) (by omega) rc5 (Nat.le_of_ble_eq_true rfl) (fun μ_58 hv_58 => ?_)
            obtain ⟨r1, r2, r3⟩ := w4 _ hv_58
            refine j_aload_n C dX5_keep_61 rfl ?_
            refine g5_12 C dX5_keep_62 lFX5_43 ?_
            refine j_aload_n C dX5_keep_65 rfl ?_
            refine g5_0 C dX5_keep_66 lFX5_79 ?_
            refine J.top (y := nI (μ 38 0)) (by rw [TM_fl (by omega) r3]) ?_
            refine j_iconst (v := nI 1) C dX5_keep_69 (by decide) ?_
            refine j_isubN C dX5_keep_70 (by omega) ?_
            refine j_iald C dX5_keep_71 iA_50 (by omega) ?_
            refine J.top (y := nI ((fun v => if μ 38 0 = 0 then 0 else oIced (up (sh μ 38) 6 9 v) (μ 43) 0 (μ 38 0 - 1)) v9)) (by rw [r2 (μ 38 0 - 1) (by omega)]; exact congrArg nI (if_neg h09).symm) ?_
            refine j_iload C dX5_keep_72 rfl ?_
            first | refine j_icmp_gtN (tgt := 80) C dX5_keep_74 (by decide) (by omega) (by omega) (fun c_74 => ?_) (fun c_74 => ?_) | refine j_icmp_gt (tgt := 80) C dX5_keep_74 (by decide) (fun c_74 => ?_) (fun c_74 => ?_)
            · refine j_aload_n C dX5_keep_80 rfl ?_
              refine g5_12 C dX5_keep_81 lFX5_43 ?_
              refine j_aload_n C dX5_keep_84 rfl ?_
              refine g5_0 C dX5_keep_85 lFX5_79 ?_
              refine J.top (y := nI (μ 38 0)) (by rw [TM_fl (by omega) r3]) ?_
              refine j_iconst (v := nI 1) C dX5_keep_88 (by decide) ?_
              refine j_isubN C dX5_keep_89 (by omega) ?_
              refine j_iald C dX5_keep_90 iA_50 (by omega) ?_
              refine J.top (y := nI ((fun v => if μ 38 0 = 0 then 0 else oIced (up (sh μ 38) 6 9 v) (μ 43) 0 (μ 38 0 - 1)) v9)) (by rw [r2 (μ 38 0 - 1) (by omega)]; exact congrArg nI (if_neg h09).symm) ?_
              refine sl4 C dX5_keep_91 rfl ?_
              refine j_iload C dX5_keep_93 rfl ?_
              refine sn3 C dX5_keep_95 rfl ?_
              first | refine in5 C dX5_keep_96 (nI_1 _) rfl ?_ | refine in5 C dX5_keep_96 rfl rfl ?_
              refine j_goto (tgt := 41) C dX5_keep_99 (by decide) ?_
              exact ih (v9 + 1) v9 _ _ (by omega) (by omega) r3 (hbb.1 (by omega)).symm rfl
            · refine j_goto (tgt := 96) C dX5_keep_77 (by decide) ?_
              refine in5 C dX5_keep_96 (nI_1 _) rfl ?_
              refine j_goto (tgt := 41) C dX5_keep_99 (by decide) ?_
              exact ih (v9 + 1) b9 l9 _ (by omega) (by omega) r3 (hbb.2 (by omega)).symm hl
      refine j_iload C dX5_keep_41 rfl ?_
      refine j_bipush (v := nI 21) C dX5_keep_43 (by decide) ?_
      first | refine j_icmp_geN (tgt := 102) C dX5_keep_45 (by decide) (by omega) (by omega) (fun c_45 => ?_) (fun c_45 => ?_) | refine j_icmp_ge (tgt := 102) C dX5_keep_45 (by decide) (fun c_45 => ?_) (fun c_45 => ?_)
      · exact absurd c_45 (by omega)
      · obtain ⟨w1, w2, w3, w4⟩ := tM (v := 0) hT (Or.inr rfl) (EI_up6 hE (show 0 ≤ 20 by omega)) hP hz
        have hb7 : (fun v => if μ 38 0 = 0 then 0 else oIced (up (sh μ 38) 6 9 v) (μ 43) 0 (μ 38 0 - 1)) 0 ≤ 60 := hFb 0 (by omega)
        refine j_aload_n C dX5_keep_48 rfl ?_
        refine g5_6 C dX5_keep_49 lFX5_25 ?_
        refine j_bipush (v := nI 9) C dX5_keep_52 (by decide) ?_
        refine j_iload C dX5_keep_54 rfl ?_
        refine j_iast C dX5_keep_56 iA_44 (by omega) ?_
        refine j_aload_n C dX5_keep_57 rfl ?_
        refine cVv0 C dX5_keep_58 lMX5_166 myX5_round (ev_X5_round w1 w2 w3 (Or.inl rfl)) (by omega) rc5 (Nat.le_of_ble_eq_true rfl) (fun μ_58 hv_58 => ?_)
        obtain ⟨r1, r2, r3⟩ := w4 _ hv_58
        refine j_aload_n C dX5_keep_61 rfl ?_
        refine g5_12 C dX5_keep_62 lFX5_43 ?_
        refine j_aload_n C dX5_keep_65 rfl ?_
        refine g5_0 C dX5_keep_66 lFX5_79 ?_
        refine J.top (y := nI (μ 38 0)) (by rw [TM_fl (by omega) r3]) ?_
        refine j_iconst (v := nI 1) C dX5_keep_69 (by decide) ?_
        refine j_isubN C dX5_keep_70 (by omega) ?_
        refine j_iald C dX5_keep_71 iA_50 (by omega) ?_
        refine J.top (y := nI ((fun v => if μ 38 0 = 0 then 0 else oIced (up (sh μ 38) 6 9 v) (μ 43) 0 (μ 38 0 - 1)) 0)) (by rw [r2 (μ 38 0 - 1) (by omega)]; exact congrArg nI (if_neg h09).symm) ?_
        refine j_iload C dX5_keep_72 rfl ?_
        refine j_icmp_gt (tgt := 80) C dX5_keep_74 (by decide) (fun c_74 => ?_) (fun c_74 => absurd (Int32.lt_of_lt_of_le (show (-1 : Int32) < 0 by decide) (nI_0le (by omega))) c_74)
        · refine j_aload_n C dX5_keep_80 rfl ?_
          refine g5_12 C dX5_keep_81 lFX5_43 ?_
          refine j_aload_n C dX5_keep_84 rfl ?_
          refine g5_0 C dX5_keep_85 lFX5_79 ?_
          refine J.top (y := nI (μ 38 0)) (by rw [TM_fl (by omega) r3]) ?_
          refine j_iconst (v := nI 1) C dX5_keep_88 (by decide) ?_
          refine j_isubN C dX5_keep_89 (by omega) ?_
          refine j_iald C dX5_keep_90 iA_50 (by omega) ?_
          refine J.top (y := nI ((fun v => if μ 38 0 = 0 then 0 else oIced (up (sh μ 38) 6 9 v) (μ 43) 0 (μ 38 0 - 1)) 0)) (by rw [r2 (μ 38 0 - 1) (by omega)]; exact congrArg nI (if_neg h09).symm) ?_
          refine sl4 C dX5_keep_91 rfl ?_
          refine j_iload C dX5_keep_93 rfl ?_
          refine sn3 C dX5_keep_95 rfl ?_
          first | refine in5 C dX5_keep_96 (nI_1 _) rfl ?_ | refine in5 C dX5_keep_96 rfl rfl ?_
          refine j_goto (tgt := 41) C dX5_keep_99 (by decide) ?_
          exact loop 20 1 0 _ _ (by omega) (by omega) r3 rfl rfl
    · refine j_iconst (v := nI 0) C dX5_keep_23 (by decide) ?_
      exact j_iret C E dX5_keep_24 (outM_ok kq (by
          have e9 : (fun v => if μ 38 0 = 0 then 0 else oIced (up (sh μ 38) 6 9 v) (μ 43) 0 (μ 38 0 - 1)) = fun _ => 0 := by funext v; exact if_pos h09
          rw [e9]
          rcases (show z9 = 0 ∨ z9 = 1 by omega) with rfl | rfl <;> decide) (KM.refl μ))
  · refine j_aload_n C dX5_keep_9 rfl ?_
    refine j_bipush (v := (-2)) C dX5_keep_10 (by decide) ?_
    refine cVe1 C dX5_keep_12 lMX5_75 myX5_no (ev_X5_no (k := 2) (by decide) (by decide)) (by omega) rc5 (Nat.le_of_ble_eq_true rfl) ?_
    exact j_iret C E dX5_keep_15 (outM_no (j := 2) (if_neg c_6) (by decide) (by decide))
