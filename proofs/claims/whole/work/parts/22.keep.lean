-- KEEP, MORE
def kpW (f : Nat → Nat) (y : Int32) : Int32 := if y = 0 then nI (bIdx f true 20) else nI (f (bIdx f true 20))
set_option maxRecDepth 100000 in
set_option maxHeartbeats 4000000 in
theorem ev_X4_keep {G : GX} {x9 : Int32} {μ : Mem} (hE : EI (sh μ 1)) (hP : PI5 (sh μ 1)) : Ev G mX4_keep 5 [rf G 0, .int x9] μ (PI (OutC (k2 x9 1) (kpW (fun v => if μ 1 0 = 0 then 0 else oIced (up (sh μ 1) 6 9 v) (μ 6) 0 (μ 1 0 - 1)) x9) μ)) := by
  refine Ev.of (own := RX4) (n := 4) (by decide) rfl rfl (catOK rfl) (fun X C E => ?_)
  show J G X 0 [some _, some _, none, none, none, none] [] _
  have hn : μ 1 0 ≤ 6 := hE.1
  have hbF : ∀ b9, b9 ≤ 20 → (fun v => if μ 1 0 = 0 then 0 else oIced (up (sh μ 1) 6 9 v) (μ 6) 0 (μ 1 0 - 1)) b9 ≤ 1000 := by
    intro b9 hb9
    have hEU : EI (up (sh μ 1) 6 9 b9) := EI_up6 hE (show b9 ≤ 20 by omega)
    have hOU : OI (up (sh μ 1) 6 9 b9) (μ 6) := (PI5_up (a := 6) (k := 9) (v := b9) hP (by omega) (by omega)).1
    show (if μ 1 0 = 0 then 0 else _) ≤ 1000
    by_cases q0 : μ 1 0 = 0
    · rw [if_pos q0]; omega
    · rw [if_neg q0]
      have := (o_b (w := 0) hEU hOU (i := μ 1 0 - 1) (by show μ 1 0 - 1 < up (sh μ 1) 6 9 b9 0 0; rw [up_ne (by decide)]; show μ 1 0 - 1 < μ 1 0; omega)).2.2.2.1
      omega
  refine j_iload_n C dX4_keep_0 rfl ?_
  refine j_if_lt (tgt := 9) C dX4_keep_1 (by decide) (fun c_1 => ?_) (fun c_1 => ?_)
  · refine j_aload_n C dX4_keep_9 rfl ?_
    refine j_bipush (v := (-2)) C dX4_keep_10 (by decide) ?_
    refine cVe1 C dX4_keep_12 lMX4_64 myX4_refuse (ev_X4_refuse (k := 2) (by decide) (by decide)) (by omega) rc4 (Nat.le_of_ble_eq_true rfl) ?_
    exact j_iret C E dX4_keep_15 (by first | exact outC_no (j := 2) (if_neg (fun q => absurd q.1 (Int32.not_le.mpr c_1))) (by decide) (by decide) | exact outC_no (j := 2) (if_neg (fun q => c_6 q.2)) (by decide) (by decide))
  · refine j_iload_n C dX4_keep_4 rfl ?_
    refine j_iconst (v := nI 1) C dX4_keep_5 (by decide) ?_
    refine j_icmp_le (tgt := 16) C dX4_keep_6 (by decide) (fun c_6 => ?_) (fun c_6 => ?_)
    · have kq : k2 x9 1 = 0 := if_pos (And.intro (Int32.not_lt.mp c_1) c_6)
      refine j_aload_n C dX4_keep_16 rfl ?_
      refine g4_1 C dX4_keep_17 lFX4_16 ?_
      refine j_aload_n C dX4_keep_20 rfl ?_
      refine g4_0 C dX4_keep_21 lFX4_10 ?_
      refine cVv1 C dX4_keep_24 lMX4_75 myX0_copyFrom (ev_X0_copyFrom isH_8 isH_1) (by omega) (rc0 isH_8) (Nat.le_of_ble_eq_true rfl) (fun μ_24 hv_24 => ?_)
      refine j_iconst (v := nI 0) C dX4_keep_27 (by decide) ?_
      refine sn2 C dX4_keep_28 rfl ?_
      refine j_iconst (v := (-1)) C dX4_keep_29 (by decide) ?_
      refine sn3 C dX4_keep_30 rfl ?_
      refine j_iconst (v := nI 0) C dX4_keep_31 (by decide) ?_
      refine sl4 C dX4_keep_32 rfl ?_
      have loop : ∀ c v9 b9 x3 x5 ν, v9 + c = 21 → b9 ≤ 20 → TX ν (sh μ 1) 6 9 → KC μ ν → ((v9 = 0 ∧ x3 = -1) ∨ (0 < v9 ∧ b9 = bIdx (fun v => if μ 1 0 = 0 then 0 else oIced (up (sh μ 1) 6 9 v) (μ 6) 0 (μ 1 0 - 1)) true (v9 - 1) ∧ x3 = nI ((fun v => if μ 1 0 = 0 then 0 else oIced (up (sh μ 1) 6 9 v) (μ 6) 0 (μ 1 0 - 1)) b9))) → J G X 34 [some (rf G 0), some (.int x9), some (.int (nI b9)), some (.int x3), some (.int (nI v9)), x5] [] ν := by
        intro c
        induction c with
        | zero =>
          intro v9 b9 x3 x5 ν hvc hb9 hT hK hf
          have e20 : 20 = v9 - 1 := by omega
          refine j_iload C dX4_keep_34 rfl ?_
          refine j_bipush (v := nI 20) C dX4_keep_36 (by decide) ?_
          first | refine j_icmp_gtN (tgt := 122) C dX4_keep_38 (by decide) (by omega) (by omega) (fun c_38 => ?_) (fun c_38 => ?_) | refine j_icmp_gt (tgt := 122) C dX4_keep_38 (by decide) (fun c_38 => ?_) (fun c_38 => ?_)
          · refine j_iload_n C dX4_keep_122 rfl ?_
            refine j_if_ne (tgt := 130) C dX4_keep_123 (by decide) (fun c_123 => ?_) (fun c_123 => ?_)
            · refine j_iload_n C dX4_keep_130 rfl ?_
              exact j_iret C E dX4_keep_131 (by first | exact outC_ok kq (by rw [kpW, if_neg c_123, e20, ← (hf.resolve_left (by omega)).2.1]; exact (hf.resolve_left (by omega)).2.2) hK | exact outC_ok kq (by rw [kpW, if_pos c_123, e20]; exact congrArg nI (hf.resolve_left (by omega)).2.1) hK)
            · refine j_iload_n C dX4_keep_126 rfl ?_
              refine j_goto (tgt := 131) C dX4_keep_127 (by decide) ?_
              exact j_iret C E dX4_keep_131 (by first | exact outC_ok kq (by rw [kpW, if_neg c_123, e20, ← (hf.resolve_left (by omega)).2.1]; exact (hf.resolve_left (by omega)).2.2) hK | exact outC_ok kq (by rw [kpW, if_pos c_123, e20]; exact congrArg nI (hf.resolve_left (by omega)).2.1) hK)
          · exact absurd c_38 (by omega)
        | succ c ih =>
          intro v9 b9 x3 x5 ν hvc hb9 hT hK hf
          refine j_iload C dX4_keep_34 rfl ?_
          refine j_bipush (v := nI 20) C dX4_keep_36 (by decide) ?_
          first | refine j_icmp_gtN (tgt := 122) C dX4_keep_38 (by decide) (by omega) (by omega) (fun c_38 => ?_) (fun c_38 => ?_) | refine j_icmp_gt (tgt := 122) C dX4_keep_38 (by decide) (fun c_38 => ?_) (fun c_38 => ?_)
          · exact absurd c_38 (by omega)
          · have hEU : EI (up (sh μ 1) 6 9 v9) := EI_up6 hE (show v9 ≤ 20 by omega)
            have hOU : OI (up (sh μ 1) 6 9 v9) (μ 6) := (PI5_up (a := 6) (k := 9) (v := v9) hP (by omega) (by omega)).1
            obtain ⟨w1, w2, w3⟩ := tw (v := v9) hT (by omega) hEU hP
            refine j_aload_n C dX4_keep_41 rfl ?_
            refine g4_1 C dX4_keep_42 lFX4_16 ?_
            refine g0_6 isH_8 C dX4_keep_45 lFX4_116 ?_
            refine j_bipush (v := nI 9) C dX4_keep_48 (by decide) ?_
            refine j_iload C dX4_keep_50 rfl ?_
            refine j_iast C dX4_keep_52 iA_14 (by omega) ?_
            refine j_aload_n C dX4_keep_53 rfl ?_
            refine g4_4 C dX4_keep_54 lFX4_29 ?_
            refine j_aload_n C dX4_keep_57 rfl ?_
            refine g4_1 C dX4_keep_58 lFX4_16 ?_
            refine j_aload_n C dX4_keep_61 rfl ?_
            refine g4_1 C dX4_keep_62 lFX4_16 ?_
            refine g0_5 isH_8 C dX4_keep_65 lFX4_102 ?_
            refine cVv2 C dX4_keep_68 lMX4_129 myX3_walk (ev_X3_walk isH_8 w1 w2 iA_13 (by omega)) (by omega) rc3 (Nat.le_of_ble_eq_true rfl) (fun μ_68 hv_68 => ?_)
            obtain ⟨r1, r2, r3, r4⟩ := w3 _ hv_68
            refine j_aload_n C dX4_keep_71 rfl ?_
            have hKK : KC μ μ_68 := hK.trans r4
            have hbI : (fun v => if μ 1 0 = 0 then 0 else oIced (up (sh μ 1) 6 9 v) (μ 6) 0 (μ 1 0 - 1)) v9 ≤ 1000 := by
              by_cases q0 : μ 1 0 = 0
              · show (if μ 1 0 = 0 then 0 else _) ≤ 1000
                rw [if_pos q0]; omega
              · show (if μ 1 0 = 0 then 0 else _) ≤ 1000
                rw [if_neg q0]
                have := (o_b (w := 0) hEU hOU (i := μ 1 0 - 1) (by show μ 1 0 - 1 < up (sh μ 1) 6 9 v9 0 0; rw [up_ne (by decide)]; show μ 1 0 - 1 < μ 1 0; omega)).2.2.2.1
                omega
            have j102 : J G X 102 [some (rf G 0), some (.int x9), some (.int (nI b9)), some (.int x3), some (.int (nI v9)), x5] [.int (nI ((fun v => if μ 1 0 = 0 then 0 else oIced (up (sh μ 1) 6 9 v) (μ 6) 0 (μ 1 0 - 1)) v9))] μ_68 := by
              rcases hf with ⟨h0, h3⟩ | ⟨h0, h1, h3⟩
              · refine sl5 C dX4_keep_102 rfl ?_
                refine j_iload C dX4_keep_104 rfl ?_
                refine j_iload_n C dX4_keep_106 rfl ?_
                rw [h3]
                refine j_icmp_le (tgt := 116) C dX4_keep_107 (by decide) (fun c_107 => ?_) (fun c_107 => ?_)
                · exact absurd c_107 (fun q9 => Int32.lt_irrefl (Int32.lt_of_lt_of_le (show (-1 : Int32) < nI 0 by decide) (Int32.le_trans (nI_le (Nat.zero_le _) (by omega)) q9)))
                · refine j_iload C dX4_keep_110 rfl ?_
                  refine sn3 C dX4_keep_112 rfl ?_
                  refine j_iload C dX4_keep_113 rfl ?_
                  refine sn2 C dX4_keep_115 rfl ?_
                  first | refine in4 C dX4_keep_116 (nI_1 _) rfl ?_ | refine in4 C dX4_keep_116 rfl rfl ?_
                  refine j_goto (tgt := 34) C dX4_keep_119 (by decide) ?_
                  exact ih (v9 + 1) _ _ _ _ (by omega) (by omega) r3 hKK (Or.inr ⟨by omega, by rw [Nat.add_sub_cancel]; exact by rw [h0]; rfl, rfl⟩)
              · refine sl5 C dX4_keep_102 rfl ?_
                have hbb := bIdx_t (f := (fun v => if μ 1 0 = 0 then 0 else oIced (up (sh μ 1) 6 9 v) (μ 6) 0 (μ 1 0 - 1))) (v9 := v9) h0 h1 rfl
                have hbI2 : (fun v => if μ 1 0 = 0 then 0 else oIced (up (sh μ 1) 6 9 v) (μ 6) 0 (μ 1 0 - 1)) b9 ≤ 1000 := hbF b9 hb9
                rw [h3]
                refine j_iload C dX4_keep_104 rfl ?_
                refine j_iload_n C dX4_keep_106 rfl ?_
                first | refine j_icmp_leN (tgt := 116) C dX4_keep_107 (by decide) (by omega) (by omega) (fun c_107 => ?_) (fun c_107 => ?_) | refine j_icmp_le (tgt := 116) C dX4_keep_107 (by decide) (fun c_107 => ?_) (fun c_107 => ?_)
                · have hn7 := hbb.2 c_107
                  first | refine in4 C dX4_keep_116 (nI_1 _) rfl ?_ | refine in4 C dX4_keep_116 rfl rfl ?_
                  refine j_goto (tgt := 34) C dX4_keep_119 (by decide) ?_
                  first
                  | exact ih (v9 + 1) _ _ _ _ (by omega) (by omega) r3 hKK (Or.inr ⟨by omega, by rw [Nat.add_sub_cancel]; exact hn7.symm, rfl⟩)
                · have hn7 := hbb.1 c_107
                  refine j_iload C dX4_keep_110 rfl ?_
                  refine sn3 C dX4_keep_112 rfl ?_
                  refine j_iload C dX4_keep_113 rfl ?_
                  refine sn2 C dX4_keep_115 rfl ?_
                  first | refine in4 C dX4_keep_116 (nI_1 _) rfl ?_ | refine in4 C dX4_keep_116 rfl rfl ?_
                  refine j_goto (tgt := 34) C dX4_keep_119 (by decide) ?_
                  first
                  | exact ih (v9 + 1) _ _ _ _ (by omega) (by omega) r3 hKK (Or.inr ⟨by omega, by rw [Nat.add_sub_cancel]; exact hn7.symm, rfl⟩)
            refine g4_0 C dX4_keep_72 lFX4_10 ?_
            refine g0_0 isH_1 C dX4_keep_75 lFX4_154 ?_
            refine J.top (y := nI (μ 1 0)) (by rw [hKK.row (by omega)]) ?_
            refine j_if_neN (tgt := 85) C dX4_keep_78 (by decide) (by omega) (fun c_78 => ?_) (fun c_78 => ?_)
            · refine j_aload_n C dX4_keep_85 rfl ?_
              refine g4_4 C dX4_keep_86 lFX4_29 ?_
              refine g3_4 C dX4_keep_89 lFX4_145 ?_
              refine j_aload_n C dX4_keep_92 rfl ?_
              refine g4_0 C dX4_keep_93 lFX4_10 ?_
              refine g0_0 isH_1 C dX4_keep_96 lFX4_154 ?_
              refine J.top (y := nI (μ 1 0)) (by rw [hKK.row (by omega)]) ?_
              refine j_iconst (v := nI 1) C dX4_keep_99 (by decide) ?_
              first | refine j_isubN C dX4_keep_100 (by omega) ?_ | refine j_isub C dX4_keep_100 ?_
              refine j_iald C dX4_keep_101 iA_27 (by omega) ?_
              refine J.top (y := nI ((fun v => if μ 1 0 = 0 then 0 else oIced (up (sh μ 1) 6 9 v) (μ 6) 0 (μ 1 0 - 1)) v9)) (by rw [r2 (μ 1 0 - 1) (by show μ 1 0 - 1 < μ 1 0; omega)]; show _ = nI (if μ 1 0 = 0 then 0 else _); rw [if_neg c_78]; rfl) ?_
              exact j102
            · refine j_iconst (v := nI 0) C dX4_keep_81 (by decide) ?_
              refine J.top (y := nI ((fun v => if μ 1 0 = 0 then 0 else oIced (up (sh μ 1) 6 9 v) (μ 6) 0 (μ 1 0 - 1)) v9)) (by show _ = nI (if μ 1 0 = 0 then 0 else _); rw [if_pos c_78]) ?_
              refine j_goto (tgt := 102) C dX4_keep_82 (by decide) ?_
              exact j102
      subst hv_24
      exact loop 21 0 0 (-1) _ _ (by omega) (by omega) cpH_TX cpH_KC (Or.inl ⟨rfl, rfl⟩)
    · refine j_aload_n C dX4_keep_9 rfl ?_
      refine j_bipush (v := (-2)) C dX4_keep_10 (by decide) ?_
      refine cVe1 C dX4_keep_12 lMX4_64 myX4_refuse (ev_X4_refuse (k := 2) (by decide) (by decide)) (by omega) rc4 (Nat.le_of_ble_eq_true rfl) ?_
      exact j_iret C E dX4_keep_15 (by first | exact outC_no (j := 2) (if_neg (fun q => absurd q.1 (Int32.not_le.mpr c_1))) (by decide) (by decide) | exact outC_no (j := 2) (if_neg (fun q => c_6 q.2)) (by decide) (by decide))
set_option maxRecDepth 100000 in
set_option maxHeartbeats 4000000 in
theorem ev_X4_more {G : GX} {x9 : Int32} {μ : Mem} (hE : EI (sh μ 1)) (hP : PI5 (sh μ 1)) : Ev G mX4_more 5 [rf G 0, .int x9] μ (PI (OutC (kFl (μ 1 0) x9) (nI (tdn (fun v => Tot (up (sh μ 1) 3 x9.toNatClampNeg v) (μ 6) 0 2) (Tot (sh μ 1) (μ 6) 0 2) (μ 4 x9.toNatClampNeg) 20)) μ)) := by
  refine Ev.of (own := RX4) (n := 2) (by decide) rfl rfl (catOK rfl) (fun X C E => ?_)
  show J G X 0 [some _, some _, none, none] [] _
  refine j_aload_n C dX4_more_0 rfl ?_
  refine g4_0 C dX4_more_1 lFX4_10 ?_
  refine j_iload_n C dX4_more_4 rfl ?_
  refine cVe1 C dX4_more_5 lMX4_83 myX0_hasFloor (ev_X0_hasFloor isH_1) (by omega) (rc0 isH_1) (Nat.le_of_ble_eq_true rfl) ?_
  first | refine j_if_neB (tgt := 17) C dX4_more_8 (by decide) (fun c_8 => ?_) (fun c_8 => ?_) | refine j_if_neN (tgt := 17) C dX4_more_8 (by decide) (by omega) (fun c_8 => ?_) (fun c_8 => ?_) | refine j_if_ne (tgt := 17) C dX4_more_8 (by decide) (fun c_8 => ?_) (fun c_8 => ?_)
  · have hn : μ 1 0 ≤ 6 := hE.1
    obtain ⟨j9, hj, rfl⟩ := isFl_E hE c_8
    have hpe := hE.2.1 j9 hj
    have hp1 : 1 ≤ μ 4 j9 := hpe.2.2.1
    have hp2 : μ 4 j9 ≤ 20 := hpe.2.2.2.1
    have hmb : (Tot (sh μ 1) (μ 6) 0 2) ≤ 100000 := Tot_b hE hP.1
    refine j_aload_n C dX4_more_17 rfl ?_
    refine g4_4 C dX4_more_18 lFX4_29 ?_
    refine j_aload_n C dX4_more_21 rfl ?_
    refine g4_0 C dX4_more_22 lFX4_10 ?_
    refine j_aload_n C dX4_more_25 rfl ?_
    refine g4_0 C dX4_more_26 lFX4_10 ?_
    refine g0_5 isH_1 C dX4_more_29 lFX4_102 ?_
    refine cVv2 C dX4_more_32 lMX4_129 myX3_walk (ev_X3_walk isH_1 hE hP.1 iA_6 (by omega)) (by omega) rc3 (Nat.le_of_ble_eq_true rfl) (fun μ_32 hv_32 => ?_)
    refine j_aload_n C dX4_more_35 rfl ?_
    refine g4_4 C dX4_more_36 lFX4_29 ?_
    refine g3_0 C dX4_more_39 lFX4_133 ?_
    refine j_iconst (v := nI 2) C dX4_more_42 (by decide) ?_
    refine j_iald C dX4_more_43 iA_23 (by omega) ?_
    refine J.top (y := nI (Tot (sh μ 1) (μ 6) 0 2)) (by rw [hv_32.2.1 2 (by omega)]) ?_
    refine sn2 C dX4_more_44 rfl ?_
    refine j_aload_n C dX4_more_45 rfl ?_
    refine g4_1 C dX4_more_46 lFX4_16 ?_
    refine j_aload_n C dX4_more_49 rfl ?_
    refine g4_0 C dX4_more_50 lFX4_10 ?_
    refine cVv1 C dX4_more_53 lMX4_75 myX0_copyFrom (ev_X0_copyFrom isH_8 isH_1) (by omega) (rc0 isH_8) (Nat.le_of_ble_eq_true rfl) (fun μ_53 hv_53 => ?_)
    refine j_bipush (v := nI 20) C dX4_more_56 (by decide) ?_
    refine sn3 C dX4_more_58 rfl ?_
    have loop : ∀ v9 ν, v9 ≤ 20 → TX ν (sh μ 1) 3 j9 → KC μ ν → tdn (fun v => Tot (up (sh μ 1) 3 j9 v) (μ 6) 0 2) (Tot (sh μ 1) (μ 6) 0 2) (μ 4 j9) 20 = tdn (fun v => Tot (up (sh μ 1) 3 j9 v) (μ 6) 0 2) (Tot (sh μ 1) (μ 6) 0 2) (μ 4 j9) v9 → J G X 59 [some (rf G 0), some (.int (nI j9)), some (.int (nI (Tot (sh μ 1) (μ 6) 0 2))), some (.int (nI v9))] [] ν := by
      intro v9
      induction v9 with
      | zero =>
        intro ν hv hT hK ht
        refine j_iload_n C dX4_more_59 rfl ?_
        refine j_aload_n C dX4_more_60 rfl ?_
        refine g4_0 C dX4_more_61 lFX4_10 ?_
        refine g0_3 isH_1 C dX4_more_64 lFX4_93 ?_
        refine j_iload_n C dX4_more_67 rfl ?_
        refine j_iald C dX4_more_68 iA_4 (by omega) ?_
        refine J.top (y := nI (μ 4 j9)) (by show nI (ν 4 j9) = _; rw [hK.row (by omega)]) ?_
        first | refine j_icmp_leN (tgt := 131) C dX4_more_69 (by decide) (by omega) (by omega) (fun c_69 => ?_) (fun c_69 => ?_) | refine j_icmp_le (tgt := 131) C dX4_more_69 (by decide) (fun c_69 => ?_) (fun c_69 => ?_)
        · refine j_iconst (v := nI 0) C dX4_more_131 (by decide) ?_
          exact j_iret C E dX4_more_132 (outC_ok (if_pos c_8) (by rw [cl (by omega), ht, tdn]) hK)
        · exact absurd c_69 (by omega)
      | succ v9 ih =>
        intro ν hv hT hK ht
        refine j_iload_n C dX4_more_59 rfl ?_
        refine j_aload_n C dX4_more_60 rfl ?_
        refine g4_0 C dX4_more_61 lFX4_10 ?_
        refine g0_3 isH_1 C dX4_more_64 lFX4_93 ?_
        refine j_iload_n C dX4_more_67 rfl ?_
        refine j_iald C dX4_more_68 iA_4 (by omega) ?_
        refine J.top (y := nI (μ 4 j9)) (by show nI (ν 4 j9) = _; rw [hK.row (by omega)]) ?_
        first | refine j_icmp_leN (tgt := 131) C dX4_more_69 (by decide) (by omega) (by omega) (fun c_69 => ?_) (fun c_69 => ?_) | refine j_icmp_le (tgt := 131) C dX4_more_69 (by decide) (fun c_69 => ?_) (fun c_69 => ?_)
        · refine j_iconst (v := nI 0) C dX4_more_131 (by decide) ?_
          exact j_iret C E dX4_more_132 (outC_ok (if_pos c_8) (by rw [cl (by omega), ht, tdn, if_neg (by omega)]) hK)
        · obtain ⟨w1, w2, w3⟩ := tw (v := v9 + 1) hT (by omega) (EI_up3 hE (by omega) (by omega)) hP
          have hb2 : (fun v => Tot (up (sh μ 1) 3 j9 v) (μ 6) 0 2) (v9 + 1) ≤ 100000 := Tot_b (EI_up3 hE (by omega) (by omega)) (PI5_up (a := 3) hP (by omega) (by omega)).1
          refine j_aload_n C dX4_more_72 rfl ?_
          refine g4_1 C dX4_more_73 lFX4_16 ?_
          refine g0_3 isH_8 C dX4_more_76 lFX4_93 ?_
          refine j_iload_n C dX4_more_79 rfl ?_
          refine j_iload_n C dX4_more_80 rfl ?_
          refine j_iast C dX4_more_81 iA_11 (by omega) ?_
          refine j_aload_n C dX4_more_82 rfl ?_
          refine g4_4 C dX4_more_83 lFX4_29 ?_
          refine j_aload_n C dX4_more_86 rfl ?_
          refine g4_1 C dX4_more_87 lFX4_16 ?_
          refine j_aload_n C dX4_more_90 rfl ?_
          refine g4_1 C dX4_more_91 lFX4_16 ?_
          refine g0_5 isH_8 C dX4_more_94 lFX4_102 ?_
          refine cVv2 C dX4_more_97 lMX4_129 myX3_walk (ev_X3_walk isH_8 w1 w2 iA_13 (by omega)) (by omega) rc3 (Nat.le_of_ble_eq_true rfl) (fun μ_97 hv_97 => ?_)
          obtain ⟨r1, r2, r3, r4⟩ := w3 _ hv_97
          refine j_aload_n C dX4_more_100 rfl ?_
          refine g4_4 C dX4_more_101 lFX4_29 ?_
          refine g3_0 C dX4_more_104 lFX4_133 ?_
          refine j_iconst (v := nI 2) C dX4_more_107 (by decide) ?_
          refine j_iald C dX4_more_108 iA_23 (by omega) ?_
          refine J.top (y := nI ((fun v => Tot (up (sh μ 1) 3 j9 v) (μ 6) 0 2) (v9 + 1))) (by rw [r1 2 (by omega)]; rfl) ?_
          refine j_iload_n C dX4_more_109 rfl ?_
          first | refine j_icmp_gtN (tgt := 125) C dX4_more_110 (by decide) (by omega) (by omega) (fun c_110 => ?_) (fun c_110 => ?_) | refine j_icmp_gt (tgt := 125) C dX4_more_110 (by decide) (fun c_110 => ?_) (fun c_110 => ?_)
          · refine in3 C dX4_more_125 (im1s _) rfl ?_
            refine j_goto (tgt := 59) C dX4_more_128 (by decide) ?_
            exact ih _ (by omega) r3 (hK.trans r4) (by rw [ht, tdn, if_pos c_69, if_neg (Nat.not_le.mpr c_110)])
          · refine j_iload_n C dX4_more_113 rfl ?_
            refine j_aload_n C dX4_more_114 rfl ?_
            refine g4_0 C dX4_more_115 lFX4_10 ?_
            refine g0_3 isH_1 C dX4_more_118 lFX4_93 ?_
            refine j_iload_n C dX4_more_121 rfl ?_
            refine j_iald C dX4_more_122 iA_4 (by omega) ?_
            refine J.top (y := nI (μ 4 j9)) (by show nI (μ_97 4 j9) = _; rw [(hK.trans r4).row (by omega)]) ?_
            first | refine j_isubN C dX4_more_123 (by omega) ?_ | refine j_isub C dX4_more_123 ?_
            exact j_iret C E dX4_more_124 (outC_ok (if_pos c_8) (by rw [cl (by omega), ht, tdn, if_pos c_69, if_pos c_110]) (hK.trans r4))
    subst hv_53
    exact loop 20 _ (by omega) (TX_of ((cpH_eq isH_8 isH_1 (by decide)).trans (KCeq hv_32.KC))) (hv_32.KC.trans cpH_KC) rfl
  · refine j_aload_n C dX4_more_11 rfl ?_
    refine j_iconst (v := (-1)) C dX4_more_12 (by decide) ?_
    refine cVe1 C dX4_more_13 lMX4_64 myX4_refuse (ev_X4_refuse (k := 1) (by decide) (by decide)) (by omega) rc4 (Nat.le_of_ble_eq_true rfl) ?_
    exact j_iret C E dX4_more_16 (outC_no (j := 1) (if_neg c_8) (by decide) (by decide))
