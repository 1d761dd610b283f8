-- THE REFERENCE: squeak, count, judge
set_option maxRecDepth 100000 in
set_option maxHeartbeats 4000000 in
theorem ev_X5_squeak {G : GX} {x : Int32} {μ : Mem} (hE : EI (sh μ 38)) (hP : PI5 (sh μ 38)) (hz : μ 38 15 = 0) : Ev G mX5_squeak 3 [rf G 38, .int x] μ (PI (OutM (kSq x) (nI (sqN (sh μ 38) (μ 43) x.toNatClampNeg)) μ)) := by
  refine Ev.of (own := RX5) (n := 2) (by decide) rfl rfl (catOK rfl) (fun X C E => ?_)
  show J G X 0 [some _, some _, none, none] [] _
  refine j_iload_n C dX5_squeak_0 rfl ?_
  refine j_if_ge (tgt := 11) C dX5_squeak_1 (by decide) (fun c_1 => ?_) (fun c_1 => ?_)
  · refine j_iload_n C dX5_squeak_11 rfl ?_
    refine j_bipush (v := nI 9) C dX5_squeak_12 (by decide) ?_
    refine j_icmp_le (tgt := 24) C dX5_squeak_14 (by decide) (fun c_14 => ?_) (fun c_14 => ?_)
    · obtain ⟨z9, hz9, rfl⟩ := nI_of2 (n := 9) (M := nI 9) (by decide) (Int32.not_lt.mpr c_1) c_14
      have kq : kSq (nI z9) = 0 := by rw [kSq, if_neg (Int32.not_lt.mpr c_1), if_neg (Int32.not_lt.mpr c_14)]
      have hn : μ 38 0 ≤ 6 := hE.1
      refine j_aload_n C dX5_squeak_24 rfl ?_
      refine cVv0 C dX5_squeak_25 lMX5_166 myX5_round (ev_X5_round hE hP.1 hz (Or.inl rfl)) (by omega) rc5 (Nat.le_of_ble_eq_true rfl) (fun μ_25 hv_25 => ?_)
      refine j_iconst (v := nI 0) C dX5_squeak_28 (by decide) ?_
      refine sn2 C dX5_squeak_29 rfl ?_
      refine j_iconst (v := nI 0) C dX5_squeak_30 (by decide) ?_
      refine sn3 C dX5_squeak_31 rfl ?_
      have k1 := hv_25
      have loop : ∀ k i9, i9 + k = μ 38 0 → J G X 32 [some (rf G 38), some (.int (nI z9)), some (.int (nI (sumTo (sqF (sh μ 38) (μ 43) z9) i9))), some (.int (nI i9))] [] μ_25 := by
        intro k
        induction k with
        | zero =>
          intro i9 hi
          refine j_iload_n C dX5_squeak_32 rfl ?_
          refine j_aload_n C dX5_squeak_33 rfl ?_
          refine g5_0 C dX5_squeak_34 lFX5_79 ?_
          refine J.top (y := nI (μ 38 0)) (by rw [k1.f (by decide)]) ?_
          first | refine j_icmp_geN (tgt := 70) C dX5_squeak_37 (by decide) (by omega) (by omega) (fun c_37 => ?_) (fun c_37 => ?_) | refine j_icmp_ge (tgt := 70) C dX5_squeak_37 (by decide) (fun c_37 => ?_) (fun c_37 => ?_)
          · refine j_iload_n C dX5_squeak_70 rfl ?_
            exact j_iret C E dX5_squeak_71 (outM_ok kq (by rw [cl (by omega), show i9 = μ 38 0 by omega]; rfl) k1.KM)
          · exact absurd c_37 (by omega)
        | succ k ih =>
          intro i9 hi
          refine j_iload_n C dX5_squeak_32 rfl ?_
          refine j_aload_n C dX5_squeak_33 rfl ?_
          refine g5_0 C dX5_squeak_34 lFX5_79 ?_
          refine J.top (y := nI (μ 38 0)) (by rw [k1.f (by decide)]) ?_
          first | refine j_icmp_geN (tgt := 70) C dX5_squeak_37 (by decide) (by omega) (by omega) (fun c_37 => ?_) (fun c_37 => ?_) | refine j_icmp_ge (tgt := 70) C dX5_squeak_37 (by decide) (fun c_37 => ?_) (fun c_37 => ?_)
          · exact absurd c_37 (by omega)
          · have oi : μ 43 i9 < μ 38 0 := hP.1 i9 (by show i9 < μ 38 0; omega)
            have li := (hE.2.1 (μ 43 i9) oi).2.1
            refine j_aload_n C dX5_squeak_40 rfl ?_
            refine g5_2 C dX5_squeak_41 lFX5_13 ?_
            refine j_aload_n C dX5_squeak_44 rfl ?_
            refine g5_5 C dX5_squeak_45 lFX5_22 ?_
            refine j_iload_n C dX5_squeak_48 rfl ?_
            refine j_iald C dX5_squeak_49 iA_43 (by omega) ?_
            refine J.top (y := nI (μ 43 i9)) (by show nI (μ_25 43 i9) = _; rw [k1.row (by omega)]) ?_
            refine j_iald C dX5_squeak_50 iA_40 (by omega) ?_
            refine J.top (y := nI ((sh μ 38) 2 (μ 43 i9))) (by show nI (μ_25 40 (μ 43 i9)) = _; rw [k1.row (by omega)]; rfl) ?_
            refine j_iload_n C dX5_squeak_51 rfl ?_
            first | refine j_icmp_gtN (tgt := 64) C dX5_squeak_52 (by decide) (by omega) (by omega) (fun c_52 => ?_) (fun c_52 => ?_) | refine j_icmp_gt (tgt := 64) C dX5_squeak_52 (by decide) (fun c_52 => ?_) (fun c_52 => ?_)
            · have e5 : sumTo (sqF (sh μ 38) (μ 43) z9) (i9 + 1) = sumTo (sqF (sh μ 38) (μ 43) z9) i9 := by rw [sumTo, sqF, if_neg (by omega), Nat.add_zero]
              rw [← e5]
              first | refine in3 C dX5_squeak_64 (nI_1 _) rfl ?_ | refine in3 C dX5_squeak_64 rfl rfl ?_
              refine j_goto (tgt := 32) C dX5_squeak_67 (by decide) ?_
              exact ih (i9 + 1) (by omega)
            · refine j_iload_n C dX5_squeak_55 rfl ?_
              refine j_aload_n C dX5_squeak_56 rfl ?_
              refine g5_13 C dX5_squeak_57 lFX5_46 ?_
              refine j_iload_n C dX5_squeak_60 rfl ?_
              refine j_iald C dX5_squeak_61 iA_51 (by omega) ?_
              refine J.top (y := nI (oStand (sh μ 38) (μ 43) 0 i9)) (by rw [(hv_25.2.2.2.1 i9 (by show i9 < μ 38 0; omega)).2.2.2.2]) ?_
              first | refine j_iaddN C dX5_squeak_62 ?_ | refine j_iadd C dX5_squeak_62 ?_
              refine J.top (y := nI (sumTo (sqF (sh μ 38) (μ 43) z9) (i9 + 1))) (by rw [sumTo, sqF, if_pos (by omega)]) ?_
              refine sn2 C dX5_squeak_63 rfl ?_
              first | refine in3 C dX5_squeak_64 (nI_1 _) rfl ?_ | refine in3 C dX5_squeak_64 rfl rfl ?_
              refine j_goto (tgt := 32) C dX5_squeak_67 (by decide) ?_
              exact ih (i9 + 1) (by omega)
      exact loop (μ 38 0) 0 (by omega)
    · refine j_aload_n C dX5_squeak_17 rfl ?_
      refine j_bipush (v := (-6)) C dX5_squeak_18 (by decide) ?_
      refine cVe1 C dX5_squeak_20 lMX5_75 myX5_no (ev_X5_no (k := 6) (by decide) (by decide)) (by omega) rc5 (Nat.le_of_ble_eq_true rfl) ?_
      exact j_iret C E dX5_squeak_23 (outM_no (j := 6) (by rw [kSq, if_neg (Int32.not_lt.mpr c_1), if_pos (Int32.not_le.mp c_14)]) (by decide) (by decide))
  · refine j_aload_n C dX5_squeak_4 rfl ?_
    refine j_bipush (v := (-4)) C dX5_squeak_5 (by decide) ?_
    refine cVe1 C dX5_squeak_7 lMX5_75 myX5_no (ev_X5_no (k := 4) (by decide) (by decide)) (by omega) rc5 (Nat.le_of_ble_eq_true rfl) ?_
    exact j_iret C E dX5_squeak_10 (outM_no (j := 4) (if_pos (Int32.not_le.mp c_1)) (by decide) (by decide))
set_option maxRecDepth 100000 in
set_option maxHeartbeats 4000000 in
theorem ev_X5_count {G : GX} {x : Int32} {μ : Mem} (hE : EI (sh μ 38)) (hP : PI5 (sh μ 38)) : Ev G mX5_count 1 [rf G 38, .int x] μ (PI (OutM 0 (ctW (sh μ 38) (μ 55) (μ 38 20) (μ 38 16) x) μ)) := by
  refine Ev.of (own := RX5) (n := 2) (by decide) rfl rfl (catOK rfl) (fun X C E => ?_)
  show J G X 0 [some _, some _, none, none] [] _
  have hn : μ 38 0 ≤ 6 := hE.1
  refine j_iconst (v := nI 0) C dX5_count_0 (by decide) ?_
  refine sn2 C dX5_count_1 rfl ?_
  refine j_iload_n C dX5_count_2 rfl ?_
  rcases in09 x with (rfl | rfl | rfl | rfl | rfl | rfl | rfl | rfl | rfl | rfl) | ⟨xn, xo⟩
  · refine j_tabIn (tgt := 56) C dX5_count_3 (by decide) (by decide) (off := 53) (by decide) (by decide) ?_
    refine j_aload_n C dX5_count_56 rfl ?_
    refine g5_0 C dX5_count_57 lFX5_79 ?_
    exact j_iret C E dX5_count_60 (outM_ok rfl (by first | rfl | (rw [ctW, if_neg (by decide)]; rfl)) (KM.refl μ))
  · refine j_tabIn (tgt := 61) C dX5_count_3 (by decide) (by decide) (off := 58) (by decide) (by decide) ?_
    refine j_iconst (v := nI 0) C dX5_count_61 (by decide) ?_
    refine sn3 C dX5_count_62 rfl ?_
    have loop : ∀ k i9, i9 + k = μ 38 0 → J G X 63 [some (rf G 38), some (.int (nI 1)), some (.int (nI (sumTo ((sh μ 38) 3) i9))), some (.int (nI i9))] [] μ := by
      intro k
      induction k with
      | zero =>
        intro i9 hi
        refine j_iload_n C dX5_count_63 rfl ?_
        refine j_aload_n C dX5_count_64 rfl ?_
        refine g5_0 C dX5_count_65 lFX5_79 ?_
        first | refine j_icmp_geN (tgt := 86) C dX5_count_68 (by decide) (by omega) (by omega) (fun c_68 => ?_) (fun c_68 => ?_) | refine j_icmp_ge (tgt := 86) C dX5_count_68 (by decide) (fun c_68 => ?_) (fun c_68 => ?_)
        · refine j_iload_n C dX5_count_86 rfl ?_
          exact j_iret C E dX5_count_87 (outM_ok rfl (by rw [show i9 = μ 38 0 by omega, ctW, if_neg (by decide)]; rfl) (KM.refl μ))
        · exact absurd c_68 (by omega)
      | succ k ih =>
        intro i9 hi
        refine j_iload_n C dX5_count_63 rfl ?_
        refine j_aload_n C dX5_count_64 rfl ?_
        refine g5_0 C dX5_count_65 lFX5_79 ?_
        first | refine j_icmp_geN (tgt := 86) C dX5_count_68 (by decide) (by omega) (by omega) (fun c_68 => ?_) (fun c_68 => ?_) | refine j_icmp_ge (tgt := 86) C dX5_count_68 (by decide) (fun c_68 => ?_) (fun c_68 => ?_)
        · exact absurd c_68 (by omega)
        · refine j_iload_n C dX5_count_71 rfl ?_
          refine j_aload_n C dX5_count_72 rfl ?_
          refine g5_3 C dX5_count_73 lFX5_16 ?_
          refine j_iload_n C dX5_count_76 rfl ?_
          refine j_iald C dX5_count_77 iA_41 (by omega) ?_
          first | refine j_iaddN C dX5_count_78 ?_ | refine j_iadd C dX5_count_78 ?_
          refine sn2 C dX5_count_79 rfl ?_
          first | refine in3 C dX5_count_80 (nI_1 _) rfl ?_ | refine in3 C dX5_count_80 rfl rfl ?_
          refine j_goto (tgt := 63) C dX5_count_83 (by decide) ?_
          exact ih (i9 + 1) (by omega)
    exact loop (μ 38 0) 0 (by omega)
  · refine j_tabIn (tgt := 88) C dX5_count_3 (by decide) (by decide) (off := 85) (by decide) (by decide) ?_
    refine j_aload_n C dX5_count_88 rfl ?_
    refine g5_6 C dX5_count_89 lFX5_25 ?_
    refine j_iconst (v := nI 2) C dX5_count_92 (by decide) ?_
    refine j_iald C dX5_count_93 iA_44 (by omega) ?_
    refine j_aload_n C dX5_count_94 rfl ?_
    refine g5_6 C dX5_count_95 lFX5_25 ?_
    refine j_iconst (v := nI 3) C dX5_count_98 (by decide) ?_
    refine j_iald C dX5_count_99 iA_44 (by omega) ?_
    first | refine j_iaddN C dX5_count_100 ?_ | refine j_iadd C dX5_count_100 ?_
    refine j_aload_n C dX5_count_101 rfl ?_
    refine g5_6 C dX5_count_102 lFX5_25 ?_
    refine j_iconst (v := nI 4) C dX5_count_105 (by decide) ?_
    refine j_iald C dX5_count_106 iA_44 (by omega) ?_
    first | refine j_iaddN C dX5_count_107 ?_ | refine j_iadd C dX5_count_107 ?_
    exact j_iret C E dX5_count_108 (outM_ok rfl (by first | rfl | (rw [ctW, if_neg (by decide)]; rfl)) (KM.refl μ))
  · refine j_tabIn (tgt := 109) C dX5_count_3 (by decide) (by decide) (off := 106) (by decide) (by decide) ?_
    refine j_aload_n C dX5_count_109 rfl ?_
    refine g5_6 C dX5_count_110 lFX5_25 ?_
    refine j_iconst (v := nI 0) C dX5_count_113 (by decide) ?_
    refine j_iald C dX5_count_114 iA_44 (by omega) ?_
    exact j_iret C E dX5_count_115 (outM_ok rfl (by first | rfl | (rw [ctW, if_neg (by decide)]; rfl)) (KM.refl μ))
  · refine j_tabIn (tgt := 116) C dX5_count_3 (by decide) (by decide) (off := 113) (by decide) (by decide) ?_
    refine j_aload_n C dX5_count_116 rfl ?_
    refine g5_6 C dX5_count_117 lFX5_25 ?_
    refine j_iconst (v := nI 1) C dX5_count_120 (by decide) ?_
    refine j_iald C dX5_count_121 iA_44 (by omega) ?_
    exact j_iret C E dX5_count_122 (outM_ok rfl (by first | rfl | (rw [ctW, if_neg (by decide)]; rfl)) (KM.refl μ))
  · refine j_tabIn (tgt := 123) C dX5_count_3 (by decide) (by decide) (off := 120) (by decide) (by decide) ?_
    refine j_aload_n C dX5_count_123 rfl ?_
    refine g5_6 C dX5_count_124 lFX5_25 ?_
    refine j_iconst (v := nI 5) C dX5_count_127 (by decide) ?_
    refine j_iald C dX5_count_128 iA_44 (by omega) ?_
    exact j_iret C E dX5_count_129 (outM_ok rfl (by first | rfl | (rw [ctW, if_neg (by decide)]; rfl)) (KM.refl μ))
  · refine j_tabIn (tgt := 130) C dX5_count_3 (by decide) (by decide) (off := 127) (by decide) (by decide) ?_
    refine j_aload_n C dX5_count_130 rfl ?_
    refine g5_6 C dX5_count_131 lFX5_25 ?_
    refine j_bipush (v := nI 6) C dX5_count_134 (by decide) ?_
    refine j_iald C dX5_count_136 iA_44 (by omega) ?_
    exact j_iret C E dX5_count_137 (outM_ok rfl (by first | rfl | (rw [ctW, if_neg (by decide)]; rfl)) (KM.refl μ))
  · refine j_tabIn (tgt := 138) C dX5_count_3 (by decide) (by decide) (off := 135) (by decide) (by decide) ?_
    refine j_aload_n C dX5_count_138 rfl ?_
    refine g5_6 C dX5_count_139 lFX5_25 ?_
    refine j_bipush (v := nI 8) C dX5_count_142 (by decide) ?_
    refine j_iald C dX5_count_144 iA_44 (by omega) ?_
    exact j_iret C E dX5_count_145 (outM_ok rfl (by first | rfl | (rw [ctW, if_neg (by decide)]; rfl)) (KM.refl μ))
  · refine j_tabIn (tgt := 146) C dX5_count_3 (by decide) (by decide) (off := 143) (by decide) (by decide) ?_
    refine j_aload_n C dX5_count_146 rfl ?_
    refine g5_20 C dX5_count_147 lFX5_208 ?_
    exact j_iret C E dX5_count_150 (outM_ok rfl (by first | rfl | (rw [ctW, if_neg (by decide)]; rfl)) (KM.refl μ))
  · refine j_tabIn (tgt := 151) C dX5_count_3 (by decide) (by decide) (off := 148) (by decide) (by decide) ?_
    refine j_aload_n C dX5_count_151 rfl ?_
    refine g5_16 C dX5_count_152 lFX5_87 ?_
    exact j_iret C E dX5_count_155 (outM_ok rfl (by first | rfl | (rw [ctW, if_neg (by decide)]; rfl)) (KM.refl μ))
  · refine j_tabOut (tgt := 156) C dX5_count_3 xo (by decide) ?_
    refine j_iload_n C dX5_count_156 rfl ?_
    refine j_bipush (v := nI 11) C dX5_count_157 (by decide) ?_
    refine j_bipush (v := nI 16) C dX5_count_159 (by decide) ?_
    refine cSe3 C dX5_count_161 lMX5_83 myX5_within (ev_X5_within) (by omega) (Nat.le_of_ble_eq_true rfl) ?_
    first | refine j_if_eqB (tgt := 179) C dX5_count_164 (by decide) (fun c_164 => ?_) (fun c_164 => ?_) | refine j_if_eqN (tgt := 179) C dX5_count_164 (by decide) (by omega) (fun c_164 => ?_) (fun c_164 => ?_) | refine j_if_eq (tgt := 179) C dX5_count_164 (by decide) (fun c_164 => ?_) (fun c_164 => ?_)
    · refine j_bipush (v := (-9)) C dX5_count_179 (by decide) ?_
      exact j_iret C E dX5_count_181 (by first | exact outM_ok rfl (by rw [ctW, if_pos inr, cl (by omega)]) (KM.refl μ) | exact outM_ok rfl (by rw [ctW, if_neg c_164, if_neg xn.1, if_neg xn.2.1, if_neg xn.2.2.1, if_neg xn.2.2.2.1, if_neg xn.2.2.2.2.1, if_neg xn.2.2.2.2.2.1, if_neg xn.2.2.2.2.2.2.1, if_neg xn.2.2.2.2.2.2.2.1, if_neg xn.2.2.2.2.2.2.2.2.1, if_neg xn.2.2.2.2.2.2.2.2.2]) (KM.refl μ))
    · have inr := c_164
      obtain ⟨z9, hz9, rfl⟩ := nI_of2 (n := 16) (M := nI 16) (x := x) (by decide) (fun q => absurd inr.1 (Int32.not_le.mpr (Int32.lt_trans q (by decide)))) inr.2
      have hz11 := (nI_leI (by decide) (by omega)).mp inr.1
      refine j_aload_n C dX5_count_167 rfl ?_
      refine g5_22 C dX5_count_168 lFX5_58 ?_
      refine j_iload_n C dX5_count_171 rfl ?_
      refine j_bipush (v := nI 10) C dX5_count_172 (by decide) ?_
      refine j_isubN C dX5_count_174 (by omega) ?_
      refine j_iald C dX5_count_175 iA_55 (by omega) ?_
      refine j_goto (tgt := 181) C dX5_count_176 (by decide) ?_
      exact j_iret C E dX5_count_181 (by first | exact outM_ok rfl (by rw [ctW, if_pos inr, cl (by omega)]) (KM.refl μ) | exact outM_ok rfl (by rw [ctW, if_neg c_164, if_neg xn.1, if_neg xn.2.1, if_neg xn.2.2.1, if_neg xn.2.2.2.1, if_neg xn.2.2.2.2.1, if_neg xn.2.2.2.2.2.1, if_neg xn.2.2.2.2.2.2.1, if_neg xn.2.2.2.2.2.2.2.1, if_neg xn.2.2.2.2.2.2.2.2.1, if_neg xn.2.2.2.2.2.2.2.2.2]) (KM.refl μ))
set_option maxRecDepth 100000 in
set_option maxHeartbeats 4000000 in
theorem ev_X5_wrong {G : GX} {μ : Mem} (hE : EI (sh μ 38)) (hP : PI5 (sh μ 38)) (hz : μ 38 15 = 0) (hc : μ 38 20 ≤ 12) (hN : ∀ i, i < μ 38 20 → μ 54 i ≤ 99) : Ev G mX5_wrong 3 [rf G 38] μ (PI (fun v μ' => v = fns (μ 54) (oServed (sh μ 38) (μ 43) 0) (μ 38 0) (μ 38 20) 0 ∧ RPM μ (sh μ 38) (μ 43) 0 μ')) := by
  refine Ev.of (own := RX5) (n := 1) (by decide) rfl rfl (catOK rfl) (fun X C E => ?_)
  show J G X 0 [some _, none] [] _
  have hn : μ 38 0 ≤ 6 := hE.1
  refine j_aload_n C dX5_wrong_0 rfl ?_
  refine cVv0 C dX5_wrong_1 lMX5_166 myX5_round (ev_X5_round hE hP.1 hz (Or.inl rfl)) (by omega) rc5 (Nat.le_of_ble_eq_true rfl) (fun μ_1 hv_1 => ?_)
  refine j_iconst (v := nI 0) C dX5_wrong_4 (by decide) ?_
  refine sn1 C dX5_wrong_5 rfl ?_
  have loop : ∀ k i9, i9 + k = μ 38 20 → fns (μ 54) (oServed (sh μ 38) (μ 43) 0) (μ 38 0) k i9 = fns (μ 54) (oServed (sh μ 38) (μ 43) 0) (μ 38 0) (μ 38 20) 0 → J G X 6 [some (rf G 38), some (.int (nI i9))] [] μ_1 := by
    intro k
    induction k with
    | zero =>
      intro i9 hi hfn
      refine j_iload_n C dX5_wrong_6 rfl ?_
      refine j_aload_n C dX5_wrong_7 rfl ?_
      refine g5_20 C dX5_wrong_8 lFX5_208 ?_
      refine J.top (y := nI (μ 38 20)) (by rw [hv_1.f (by decide)]) ?_
      first | refine j_icmp_geN (tgt := 45) C dX5_wrong_11 (by decide) (by omega) (by omega) (fun c_11 => ?_) (fun c_11 => ?_) | refine j_icmp_ge (tgt := 45) C dX5_wrong_11 (by decide) (fun c_11 => ?_) (fun c_11 => ?_)
      · refine j_bipush (v := (-9)) C dX5_wrong_45 (by decide) ?_
        exact j_iret C E dX5_wrong_47 ⟨_, rfl, by rw [← hfn, fns], hv_1⟩
      · exact absurd c_11 (by omega)
    | succ k ih =>
      intro i9 hi hfn
      refine j_iload_n C dX5_wrong_6 rfl ?_
      refine j_aload_n C dX5_wrong_7 rfl ?_
      refine g5_20 C dX5_wrong_8 lFX5_208 ?_
      refine J.top (y := nI (μ 38 20)) (by rw [hv_1.f (by decide)]) ?_
      first | refine j_icmp_geN (tgt := 45) C dX5_wrong_11 (by decide) (by omega) (by omega) (fun c_11 => ?_) (fun c_11 => ?_) | refine j_icmp_ge (tgt := 45) C dX5_wrong_11 (by decide) (fun c_11 => ?_) (fun c_11 => ?_)
      · exact absurd c_11 (by omega)
      · refine j_iload_n C dX5_wrong_14 rfl ?_
        refine j_aload_n C dX5_wrong_15 rfl ?_
        refine g5_0 C dX5_wrong_16 lFX5_79 ?_
        refine J.top (y := nI (μ 38 0)) (by rw [hv_1.f (by decide)]) ?_
        first | refine j_icmp_geN (tgt := 37) C dX5_wrong_19 (by decide) (by omega) (by omega) (fun c_19 => ?_) (fun c_19 => ?_) | refine j_icmp_ge (tgt := 37) C dX5_wrong_19 (by decide) (fun c_19 => ?_) (fun c_19 => ?_)
        · have hni : μ 38 0 ≤ i9 := by omega
          refine j_iload_n C dX5_wrong_37 rfl ?_
          exact j_iret C E dX5_wrong_38 (by first | exact ⟨_, rfl, by rw [← hfn, fns, if_pos hni], hv_1⟩ | exact ⟨_, rfl, by rw [← hfn, fns, if_neg (by omega), if_neg c_34], hv_1⟩)
        · have hsb : oServed (sh μ 38) (μ 43) 0 i9 ≤ 20 := (o_b (w := 0) hE hP.1 (show i9 < (sh μ 38) 0 0 by show i9 < μ 38 0; omega)).2.2.1
          have hrb := hN i9 (by omega)
          refine j_aload_n C dX5_wrong_22 rfl ?_
          refine g5_21 C dX5_wrong_23 lFX5_55 ?_
          refine j_iload_n C dX5_wrong_26 rfl ?_
          refine j_iald C dX5_wrong_27 iA_54 (by omega) ?_
          refine J.top (y := nI (μ 54 i9)) (by rw [hv_1.1 54 (by omega)]) ?_
          refine j_aload_n C dX5_wrong_28 rfl ?_
          refine g5_11 C dX5_wrong_29 lFX5_40 ?_
          refine j_iload_n C dX5_wrong_32 rfl ?_
          refine j_iald C dX5_wrong_33 iA_49 (by omega) ?_
          refine J.top (y := nI (oServed (sh μ 38) (μ 43) 0 i9)) (by rw [(hv_1.2.2.2.1 i9 (by show i9 < μ 38 0; omega)).2.2.1]) ?_
          first | refine j_icmp_eqN (tgt := 39) C dX5_wrong_34 (by decide) (by omega) (by omega) (fun c_34 => ?_) (fun c_34 => ?_) | refine j_icmp_eq (tgt := 39) C dX5_wrong_34 (by decide) (fun c_34 => ?_) (fun c_34 => ?_)
          · first | refine in1 C dX5_wrong_39 (nI_1 _) rfl ?_ | refine in1 C dX5_wrong_39 rfl rfl ?_
            refine j_goto (tgt := 6) C dX5_wrong_42 (by decide) ?_
            exact ih (i9 + 1) (by omega) (by rw [← hfn, fns, if_neg (by omega), if_pos c_34])
          · refine j_iload_n C dX5_wrong_37 rfl ?_
            exact j_iret C E dX5_wrong_38 (by first | exact ⟨_, rfl, by rw [← hfn, fns, if_pos hni], hv_1⟩ | exact ⟨_, rfl, by rw [← hfn, fns, if_neg (by omega), if_neg c_34], hv_1⟩)
  exact loop (μ 38 20) 0 (by omega) rfl
theorem KM_up20 {μ ν : Mem} {v : Nat} (h : KM μ ν) : KM (up μ 38 20 v) (up ν 38 20 v) := by
  obtain ⟨h1, h2, h3, h4, h5, h6, h7, h8, h9, h10⟩ := h
  have u : ∀ (κ : Mem) q, q ≠ 38 → up κ 38 20 v q = κ q := fun κ q h => up_ne h
  refine ⟨fun q hq => by rw [u ν q (by omega), u μ q (by omega)]; exact h1 q hq, ((up38_EQ (by decide)).trans h2).trans (up38_EQ (by decide)).symm, ?_, ?_, by rw [up_at, up_at], ?_, ?_, ?_, ?_, ?_⟩
  · rw [up_off (Or.inr (by decide)), up_off (Or.inr (by decide))]; exact h3
  · rw [up_off (Or.inr (by decide)), up_off (Or.inr (by decide))]; exact h4
  · rw [up_off (Or.inr (by decide)), up_off (Or.inr (by decide))]; exact h6
  · rw [u ν 52 (by decide), u μ 52 (by decide)]; exact h7
  · rw [u ν 54 (by decide), u μ 54 (by decide)]; exact h8
  · rw [u ν 55 (by decide), u μ 55 (by decide)]; exact h9
  · rw [u ν 56 (by decide), u μ 56 (by decide)]; exact h10
set_option maxRecDepth 100000 in
set_option maxHeartbeats 4000000 in
theorem ev_X5_judge {G : GX} {μ : Mem} (hE : EI (sh μ 38)) (hP : PI5 (sh μ 38)) (hz : μ 38 15 = 0) (hc : μ 38 20 ≤ 12) (hN : ∀ i, i < μ 38 20 → μ 54 i ≤ 99) : Ev G mX5_judge 4 [rf G 38] μ (PI (fun v μ' => v = fns (μ 54) (oServed (sh μ 38) (μ 43) 0) (μ 38 0) (μ 38 20) 0 ∧ KM (up μ 38 20 0) μ')) := by
  refine Ev.of (own := RX5) (n := 1) (by decide) rfl rfl (catOK rfl) (fun X C E => ?_)
  show J G X 0 [some _, none] [] _
  refine j_aload_n C dX5_judge_0 rfl ?_
  refine cVi0 C dX5_judge_1 lMX5_211 myX5_wrong (ev_X5_wrong hE hP hz hc hN) (by omega) rc5 (Nat.le_of_ble_eq_true rfl) (fun v_1 μ_1 hv_1 => ?_)
  refine sn1 C dX5_judge_4 rfl ?_
  refine j_aload_n C dX5_judge_5 rfl ?_
  refine j_iconst (v := nI 0) C dX5_judge_6 (by decide) ?_
  refine p5_20 C dX5_judge_7 lFX5_208 ?_
  refine j_iload_n C dX5_judge_10 rfl ?_
  exact j_iret C E dX5_judge_11 ⟨_, rfl, hv_1.1, KM_up20 hv_1.2.KM⟩
