-- THE TROLLEY: what it is asked
set_option maxRecDepth 100000 in
set_option maxHeartbeats 4000000 in
theorem ev_X4_refuse {G : GX} {x : Int32} {k : Nat} {μ : Mem} (hx : -x = nI k) (hk : k < 7) : Ev G mX4_refuse 0 [rf G 0, .int x] μ (PIe x (up μ 37 k (μ 37 k + 1))) := by
  refine Ev.of (own := RX4) (n := 0) (by decide) rfl rfl (catOK rfl) (fun X C E => ?_)
  show J G X 0 [some _, some _] [] _
  refine j_aload_n C dX4_refuse_0 rfl ?_
  refine g4_11 C dX4_refuse_1 lFX4_61 ?_
  refine j_iload_n C dX4_refuse_4 rfl ?_
  refine j_ineg C dX4_refuse_5 ?_
  refine J.top hx ?_
  refine j_dup2 C dX4_refuse_6 rfl rfl ?_
  refine j_iald C dX4_refuse_7 iA_37 (by omega) ?_
  refine j_iconst (v := nI 1) C dX4_refuse_8 (by decide) ?_
  first | refine j_iaddN C dX4_refuse_9 ?_ | refine j_iadd C dX4_refuse_9 ?_
  refine j_iast C dX4_refuse_10 iA_37 (by omega) ?_
  refine j_iload_n C dX4_refuse_11 rfl ?_
  exact j_iret C E dX4_refuse_12 ⟨rfl, rfl⟩
set_option maxRecDepth 100000 in
set_option maxHeartbeats 4000000 in
theorem ev_X4_isTotal {G : GX} {x : Int32} {μ : Mem} : Ev G mX4_isTotal 0 [.int x] μ (PIe (b2i (isTo x)) μ) := by
  refine Ev.of (own := RX4) (n := 0) (by decide) rfl rfl (catOK rfl) (fun X C E => ?_)
  show J G X 0 [some _] [] _
  refine j_iload_n C dX4_isTotal_0 rfl ?_
  first | refine j_if_lt (tgt := 14) C dX4_isTotal_1 (by decide) (fun c_1 => ?_) (fun c_1 => ?_)
  · refine j_iconst (v := nI 0) C dX4_isTotal_14 (by decide) ?_
    exact j_zret C E dX4_isTotal_15 rfl (by first | exact ret_t (And.intro (Int32.not_lt.mp c_1) (Int32.not_le.mp c_7)) | exact ret_f (fun q => absurd q.1 (Int32.not_le.mpr c_1)) | exact ret_f (fun q => absurd q.2 (Int32.not_lt.mpr c_7)))
  · refine j_iload_n C dX4_isTotal_4 rfl ?_
    refine j_bipush (v := nI 8) C dX4_isTotal_5 (by decide) ?_
    refine j_icmp_ge (tgt := 14) C dX4_isTotal_7 (by decide) (fun c_7 => ?_) (fun c_7 => ?_)
    · refine j_iconst (v := nI 0) C dX4_isTotal_14 (by decide) ?_
      exact j_zret C E dX4_isTotal_15 rfl (by first | exact ret_t (And.intro (Int32.not_lt.mp c_1) (Int32.not_le.mp c_7)) | exact ret_f (fun q => absurd q.1 (Int32.not_le.mpr c_1)) | exact ret_f (fun q => absurd q.2 (Int32.not_lt.mpr c_7)))
    · refine j_iconst (v := nI 1) C dX4_isTotal_10 (by decide) ?_
      refine j_goto (tgt := 15) C dX4_isTotal_11 (by decide) ?_
      exact j_zret C E dX4_isTotal_15 rfl (by first | exact ret_t (And.intro (Int32.not_lt.mp c_1) (Int32.not_le.mp c_7)) | exact ret_f (fun q => absurd q.1 (Int32.not_le.mpr c_1)) | exact ret_f (fun q => absurd q.2 (Int32.not_lt.mpr c_7)))
theorem isFl_E {μ : Mem} {x : Int32} (hE : EI (sh μ 1)) (h : 0 ≤ x ∧ x < nI (μ 1 0)) : ∃ j, j < μ 1 0 ∧ x = nI j := fl_of (by have : μ 1 0 ≤ 6 := hE.1; omega) h
theorem cl {j : Nat} (h : j < 2 ^ 31) : (nI j).toNatClampNeg = j := nI_clamp h
abbrev kTo (x : Int32) : Nat := if isTo x then 0 else 2
abbrev kFl (n : Nat) (x : Int32) : Nat := if isFl n x then 0 else 1
set_option maxRecDepth 100000 in
set_option maxHeartbeats 4000000 in
theorem ev_X4_total {G : GX} {x : Int32} {μ : Mem} (hE : EI (sh μ 1)) (hP : PI5 (sh μ 1)) : Ev G mX4_total 5 [rf G 0, .int x] μ (PI (OutC (kTo x) (nI (Tot (sh μ 1) (μ 6) 0 x.toNatClampNeg)) μ)) := by
  refine Ev.of (own := RX4) (n := 0) (by decide) rfl rfl (catOK rfl) (fun X C E => ?_)
  show J G X 0 [some _, some _] [] _
  refine j_iload_n C dX4_total_0 rfl ?_
  refine cSe1 C dX4_total_1 lMX4_126 myX4_isTotal (ev_X4_isTotal) (by omega) (Nat.le_of_ble_eq_true rfl) ?_
  first | refine j_if_neB (tgt := 14) C dX4_total_4 (by decide) (fun c_4 => ?_) (fun c_4 => ?_) | refine j_if_neN (tgt := 14) C dX4_total_4 (by decide) (by omega) (fun c_4 => ?_) (fun c_4 => ?_) | refine j_if_ne (tgt := 14) C dX4_total_4 (by decide) (fun c_4 => ?_) (fun c_4 => ?_)
  · obtain ⟨j, hj, rfl⟩ := fl_of (n := 8) (by decide) c_4
    refine j_aload_n C dX4_total_14 rfl ?_
    refine g4_4 C dX4_total_15 lFX4_29 ?_
    refine j_aload_n C dX4_total_18 rfl ?_
    refine g4_0 C dX4_total_19 lFX4_10 ?_
    refine j_aload_n C dX4_total_22 rfl ?_
    refine g4_0 C dX4_total_23 lFX4_10 ?_
    refine g0_5 isH_1 C dX4_total_26 lFX4_102 ?_
    refine cVv2 C dX4_total_29 lMX4_129 myX3_walk (ev_X3_walk isH_1 hE hP.1 iA_6 (by omega)) (by omega) rc3 (Nat.le_of_ble_eq_true rfl) (fun μ_29 hv_29 => ?_)
    refine j_aload_n C dX4_total_32 rfl ?_
    refine g4_4 C dX4_total_33 lFX4_29 ?_
    refine g3_0 C dX4_total_36 lFX4_133 ?_
    refine j_iload_n C dX4_total_39 rfl ?_
    refine j_iald C dX4_total_40 iA_23 (by omega) ?_
    exact j_iret C E dX4_total_41 (outC_ok (if_pos c_4) (by rw [hv_29.2.1 j hj, cl (by omega)]) hv_29.KC)
  · refine j_aload_n C dX4_total_7 rfl ?_
    refine j_bipush (v := (-2)) C dX4_total_8 (by decide) ?_
    refine cVe1 C dX4_total_10 lMX4_64 myX4_refuse (ev_X4_refuse (k := 2) (by decide) (by decide)) (by omega) rc4 (Nat.le_of_ble_eq_true rfl) ?_
    exact j_iret C E dX4_total_13 (outC_no (j := 2) (if_neg c_4) (by decide) (by decide))
def atW (E : Mem) (ρ : Nat → Nat) (i : Nat) (y : Int32) : Int32 := if y = nI 0 then nI (oMin E ρ 0 i) else if y = nI 1 then nI (oWarm E ρ 0 i) else if y = nI 2 then nI (oServed E ρ 0 i) else nI (oIced E ρ 0 i)
set_option maxRecDepth 100000 in
set_option maxHeartbeats 4000000 in
theorem ev_X4_at {G : GX} {x y : Int32} {μ : Mem} (hE : EI (sh μ 1)) (hP : PI5 (sh μ 1)) : Ev G mX4_at 5 [rf G 0, .int x, .int y] μ (PI (OutC (if isFl (μ 1 0) x then (if 0 ≤ y ∧ y ≤ nI 3 then 0 else 2) else 1) (atW (sh μ 1) (μ 6) x.toNatClampNeg y) μ)) := by
  refine Ev.of (own := RX4) (n := 0) (by decide) rfl rfl (catOK rfl) (fun X C E => ?_)
  show J G X 0 [some _, some _, some _] [] _
  refine j_aload_n C dX4_at_0 rfl ?_
  refine g4_0 C dX4_at_1 lFX4_10 ?_
  refine j_iload_n C dX4_at_4 rfl ?_
  refine cVe1 C dX4_at_5 lMX4_83 myX0_hasFloor (ev_X0_hasFloor isH_1) (by omega) (rc0 isH_1) (Nat.le_of_ble_eq_true rfl) ?_
  first | refine j_if_neB (tgt := 17) C dX4_at_8 (by decide) (fun c_8 => ?_) (fun c_8 => ?_) | refine j_if_neN (tgt := 17) C dX4_at_8 (by decide) (by omega) (fun c_8 => ?_) (fun c_8 => ?_) | refine j_if_ne (tgt := 17) C dX4_at_8 (by decide) (fun c_8 => ?_) (fun c_8 => ?_)
  · have hn : μ 1 0 ≤ 6 := hE.1
    obtain ⟨j, hj, rfl⟩ := isFl_E hE c_8
    refine j_iload_n C dX4_at_17 rfl ?_
    refine j_if_lt (tgt := 26) C dX4_at_18 (by decide) (fun c_18 => ?_) (fun c_18 => ?_)
    · refine j_aload_n C dX4_at_26 rfl ?_
      refine j_bipush (v := (-2)) C dX4_at_27 (by decide) ?_
      refine cVe1 C dX4_at_29 lMX4_64 myX4_refuse (ev_X4_refuse (k := 2) (by decide) (by decide)) (by omega) rc4 (Nat.le_of_ble_eq_true rfl) ?_
      exact j_iret C E dX4_at_32 (by first | exact outC_no (j := 2) (by rw [if_pos c_8, if_neg (fun q => c_23 q.2)]) (by decide) (by decide) | exact outC_no (j := 2) (by rw [if_pos c_8, if_neg (fun q => absurd q.1 (Int32.not_le.mpr c_18))]) (by decide) (by decide))
    · refine j_iload_n C dX4_at_21 rfl ?_
      refine j_iconst (v := nI 3) C dX4_at_22 (by decide) ?_
      refine j_icmp_le (tgt := 33) C dX4_at_23 (by decide) (fun c_23 => ?_) (fun c_23 => ?_)
      · have c_23 := Int32.not_lt.mpr c_23
        refine j_aload_n C dX4_at_33 rfl ?_
        refine g4_4 C dX4_at_34 lFX4_29 ?_
        refine j_aload_n C dX4_at_37 rfl ?_
        refine g4_0 C dX4_at_38 lFX4_10 ?_
        refine j_aload_n C dX4_at_41 rfl ?_
        refine g4_0 C dX4_at_42 lFX4_10 ?_
        refine g0_5 isH_1 C dX4_at_45 lFX4_102 ?_
        refine cVv2 C dX4_at_48 lMX4_129 myX3_walk (ev_X3_walk isH_1 hE hP.1 iA_6 (by omega)) (by omega) rc3 (Nat.le_of_ble_eq_true rfl) (fun μ_48 hv_48 => ?_)
        refine j_iload_n C dX4_at_51 rfl ?_
        obtain ⟨z, hz, rfl⟩ := nI_of2 (n := 3) (M := nI 3) (by decide) c_18 (Int32.not_lt.mp c_23)
        have hz4 : z = 0 ∨ z = 1 ∨ z = 2 ∨ z = 3 := by omega
        rcases hz4 with rfl | rfl | rfl | rfl
        · refine j_tabIn (tgt := 80) C dX4_at_52 (by decide) (by decide) (off := 28) (by decide) (by decide) ?_
          refine j_aload_n C dX4_at_80 rfl ?_
          refine g4_4 C dX4_at_81 lFX4_29 ?_
          refine g3_1 C dX4_at_84 lFX4_136 ?_
          refine j_iload_n C dX4_at_87 rfl ?_
          refine j_iald C dX4_at_88 iA_24 (by omega) ?_
          exact j_iret C E dX4_at_89 (outC_ok (by rw [if_pos c_8, if_pos (And.intro (Int32.not_lt.mp c_18) (Int32.not_lt.mp c_23))]) (by rw [(hv_48.2.2 j hj).1, cl (by omega)]; rfl) hv_48.KC)
        · refine j_tabIn (tgt := 90) C dX4_at_52 (by decide) (by decide) (off := 38) (by decide) (by decide) ?_
          refine j_aload_n C dX4_at_90 rfl ?_
          refine g4_4 C dX4_at_91 lFX4_29 ?_
          refine g3_2 C dX4_at_94 lFX4_139 ?_
          refine j_iload_n C dX4_at_97 rfl ?_
          refine j_iald C dX4_at_98 iA_25 (by omega) ?_
          exact j_iret C E dX4_at_99 (outC_ok (by rw [if_pos c_8, if_pos (And.intro (Int32.not_lt.mp c_18) (Int32.not_lt.mp c_23))]) (by rw [(hv_48.2.2 j hj).2.1, cl (by omega)]; rfl) hv_48.KC)
        · refine j_tabIn (tgt := 100) C dX4_at_52 (by decide) (by decide) (off := 48) (by decide) (by decide) ?_
          refine j_aload_n C dX4_at_100 rfl ?_
          refine g4_4 C dX4_at_101 lFX4_29 ?_
          refine g3_3 C dX4_at_104 lFX4_142 ?_
          refine j_iload_n C dX4_at_107 rfl ?_
          refine j_iald C dX4_at_108 iA_26 (by omega) ?_
          exact j_iret C E dX4_at_109 (outC_ok (by rw [if_pos c_8, if_pos (And.intro (Int32.not_lt.mp c_18) (Int32.not_lt.mp c_23))]) (by rw [(hv_48.2.2 j hj).2.2.1, cl (by omega)]; rfl) hv_48.KC)
        · refine j_tabOut (tgt := 110) C dX4_at_52 (by decide) (by decide) ?_
          refine j_aload_n C dX4_at_110 rfl ?_
          refine g4_4 C dX4_at_111 lFX4_29 ?_
          refine g3_4 C dX4_at_114 lFX4_145 ?_
          refine j_iload_n C dX4_at_117 rfl ?_
          refine j_iald C dX4_at_118 iA_27 (by omega) ?_
          exact j_iret C E dX4_at_119 (outC_ok (by rw [if_pos c_8, if_pos (And.intro (Int32.not_lt.mp c_18) (Int32.not_lt.mp c_23))]) (by rw [(hv_48.2.2 j hj).2.2.2.1, cl (by omega)]; rfl) hv_48.KC)
      · refine j_aload_n C dX4_at_26 rfl ?_
        refine j_bipush (v := (-2)) C dX4_at_27 (by decide) ?_
        refine cVe1 C dX4_at_29 lMX4_64 myX4_refuse (ev_X4_refuse (k := 2) (by decide) (by decide)) (by omega) rc4 (Nat.le_of_ble_eq_true rfl) ?_
        exact j_iret C E dX4_at_32 (by first | exact outC_no (j := 2) (by rw [if_pos c_8, if_neg (fun q => c_23 q.2)]) (by decide) (by decide) | exact outC_no (j := 2) (by rw [if_pos c_8, if_neg (fun q => absurd q.1 (Int32.not_le.mpr c_18))]) (by decide) (by decide))
  · refine j_aload_n C dX4_at_11 rfl ?_
    refine j_iconst (v := (-1)) C dX4_at_12 (by decide) ?_
    refine cVe1 C dX4_at_13 lMX4_64 myX4_refuse (ev_X4_refuse (k := 1) (by decide) (by decide)) (by omega) rc4 (Nat.le_of_ble_eq_true rfl) ?_
    exact j_iret C E dX4_at_16 (outC_no (j := 1) (if_neg c_8) (by decide) (by decide))
set_option maxRecDepth 100000 in
set_option maxHeartbeats 4000000 in
theorem ev_X4_when {G : GX} {x : Int32} {μ : Mem} (hE : EI (sh μ 1)) (hP : PI5 (sh μ 1)) : Ev G mX4_when 5 [rf G 0, .int x] μ (PI (OutC (kFl (μ 1 0) x) (nI (oMin (sh μ 1) (μ 6) 0 (plc (μ 6) x.toNatClampNeg (μ 1 0)))) μ)) := by
  refine Ev.of (own := RX4) (n := 0) (by decide) rfl rfl (catOK rfl) (fun X C E => ?_)
  show J G X 0 [some _, some _] [] _
  refine j_aload_n C dX4_when_0 rfl ?_
  refine g4_0 C dX4_when_1 lFX4_10 ?_
  refine j_iload_n C dX4_when_4 rfl ?_
  refine cVe1 C dX4_when_5 lMX4_83 myX0_hasFloor (ev_X0_hasFloor isH_1) (by omega) (rc0 isH_1) (Nat.le_of_ble_eq_true rfl) ?_
  first | refine j_if_neB (tgt := 17) C dX4_when_8 (by decide) (fun c_8 => ?_) (fun c_8 => ?_) | refine j_if_neN (tgt := 17) C dX4_when_8 (by decide) (by omega) (fun c_8 => ?_) (fun c_8 => ?_) | refine j_if_ne (tgt := 17) C dX4_when_8 (by decide) (fun c_8 => ?_) (fun c_8 => ?_)
  · have hn : μ 1 0 ≤ 6 := hE.1
    obtain ⟨j, hj, rfl⟩ := isFl_E hE c_8
    obtain ⟨q1, q2, q3⟩ := hP.plc (f := j) hj
    have q1 : plc (μ 6) j (μ 1 0) < μ 1 0 := q1
    refine j_aload_n C dX4_when_17 rfl ?_
    refine g4_4 C dX4_when_18 lFX4_29 ?_
    refine j_aload_n C dX4_when_21 rfl ?_
    refine g4_0 C dX4_when_22 lFX4_10 ?_
    refine j_aload_n C dX4_when_25 rfl ?_
    refine g4_0 C dX4_when_26 lFX4_10 ?_
    refine g0_5 isH_1 C dX4_when_29 lFX4_102 ?_
    refine cVv2 C dX4_when_32 lMX4_129 myX3_walk (ev_X3_walk isH_1 hE hP.1 iA_6 (by omega)) (by omega) rc3 (Nat.le_of_ble_eq_true rfl) (fun μ_32 hv_32 => ?_)
    refine j_aload_n C dX4_when_35 rfl ?_
    refine g4_4 C dX4_when_36 lFX4_29 ?_
    refine g3_1 C dX4_when_39 lFX4_136 ?_
    refine j_aload_n C dX4_when_42 rfl ?_
    refine g4_0 C dX4_when_43 lFX4_10 ?_
    refine j_iload_n C dX4_when_46 rfl ?_
    have e1 := hv_32.1 1 (by omega)
    have e6 := hv_32.1 6 (by omega)
    refine cVe1 C dX4_when_47 lMX4_99 myX0_placeOf (ev_X0_placeOf (p := plc (μ 6) j (μ 1 0)) isH_1 (by rw [e1]; exact hn) (by intro i hi; rw [e1] at hi; show μ_32 6 i < μ_32 1 0; rw [e6, e1]; exact hP.1 i hi) (by omega) (by rw [e1]; exact q1) (by show μ_32 6 _ = _; rw [e6]; exact q2) (by intro i hi; show ¬ μ_32 6 i = j; rw [e6]; exact q3 i hi)) (by omega) (rc0 isH_1) (Nat.le_of_ble_eq_true rfl) ?_
    refine j_iald C dX4_when_50 iA_24 (by omega) ?_
    exact j_iret C E dX4_when_51 (outC_ok (if_pos c_8) (by rw [(hv_32.2.2 _ q1).1, cl (by omega)]) hv_32.KC)
  · refine j_aload_n C dX4_when_11 rfl ?_
    refine j_iconst (v := (-1)) C dX4_when_12 (by decide) ?_
    refine cVe1 C dX4_when_13 lMX4_64 myX4_refuse (ev_X4_refuse (k := 1) (by decide) (by decide)) (by omega) rc4 (Nat.le_of_ble_eq_true rfl) ?_
    exact j_iret C E dX4_when_16 (outC_no (j := 1) (if_neg c_8) (by decide) (by decide))
set_option maxRecDepth 100000 in
set_option maxHeartbeats 4000000 in
theorem ev_X4_place {G : GX} {x : Int32} {μ : Mem} (hE : EI (sh μ 1)) (hP : PI5 (sh μ 1)) : Ev G mX4_place 1 [rf G 0, .int x] μ (PI (OutC (kFl (μ 1 0) x) (nI (μ 6 x.toNatClampNeg)) μ)) := by
  refine Ev.of (own := RX4) (n := 0) (by decide) rfl rfl (catOK rfl) (fun X C E => ?_)
  show J G X 0 [some _, some _] [] _
  refine j_aload_n C dX4_place_0 rfl ?_
  refine g4_0 C dX4_place_1 lFX4_10 ?_
  refine j_iload_n C dX4_place_4 rfl ?_
  refine cVe1 C dX4_place_5 lMX4_83 myX0_hasFloor (ev_X0_hasFloor isH_1) (by omega) (rc0 isH_1) (Nat.le_of_ble_eq_true rfl) ?_
  first | refine j_if_neB (tgt := 17) C dX4_place_8 (by decide) (fun c_8 => ?_) (fun c_8 => ?_) | refine j_if_neN (tgt := 17) C dX4_place_8 (by decide) (by omega) (fun c_8 => ?_) (fun c_8 => ?_) | refine j_if_ne (tgt := 17) C dX4_place_8 (by decide) (fun c_8 => ?_) (fun c_8 => ?_)
  · have hn : μ 1 0 ≤ 6 := hE.1
    obtain ⟨j, hj, rfl⟩ := isFl_E hE c_8
    refine j_aload_n C dX4_place_17 rfl ?_
    refine g4_0 C dX4_place_18 lFX4_10 ?_
    refine g0_5 isH_1 C dX4_place_21 lFX4_102 ?_
    refine j_iload_n C dX4_place_24 rfl ?_
    refine j_iald C dX4_place_25 iA_6 (by omega) ?_
    exact j_iret C E dX4_place_26 (outC_ok (if_pos c_8) (by rw [cl (by omega)]) (KC.refl μ))
  · refine j_aload_n C dX4_place_11 rfl ?_
    refine j_iconst (v := (-1)) C dX4_place_12 (by decide) ?_
    refine cVe1 C dX4_place_13 lMX4_64 myX4_refuse (ev_X4_refuse (k := 1) (by decide) (by decide)) (by omega) rc4 (Nat.le_of_ble_eq_true rfl) ?_
    exact j_iret C E dX4_place_16 (outC_no (j := 1) (if_neg c_8) (by decide) (by decide))
def stW (E : Mem) (j : Nat) (y : Int32) : Int32 := if y = nI 0 then nI (E 1 j) else if y = nI 1 then nI (E 2 j) else if y = nI 2 then nI (E 3 j) else if y = nI 3 then nI (E 4 j) else nI (plc (E 5) j (E 0 0))
abbrev kSt (n : Nat) (x y : Int32) : Nat := if isFl n x then (if 0 ≤ y ∧ y ≤ nI 4 then 0 else 2) else 1
theorem in04 (y : Int32) : (0 ≤ y ∧ y ≤ nI 4 ∧ (y = nI 0 ∨ y = nI 1 ∨ y = nI 2 ∨ y = nI 3 ∨ y = nI 4)) ∨ (¬ (0 ≤ y ∧ y ≤ nI 4) ∧ (y.toInt < 0 ∨ 4 < y.toInt)) := by
  by_cases h : 0 ≤ y ∧ y ≤ nI 4
  · obtain ⟨z, hz, rfl⟩ := nI_of2 (n := 4) (M := nI 4) (by decide) (Int32.not_lt.mpr h.1) h.2
    refine Or.inl ⟨h.1, h.2, ?_⟩
    have : z = 0 ∨ z = 1 ∨ z = 2 ∨ z = 3 ∨ z = 4 := by omega
    rcases this with rfl | rfl | rfl | rfl | rfl <;> simp
  · refine Or.inr ⟨h, ?_⟩
    have h0 : (0 : Int32).toInt = 0 := by decide
    have h4 : (nI 4).toInt = 4 := by decide
    rcases Int.lt_or_le y.toInt 0 with q | q
    · exact Or.inl q
    · rcases Int.lt_or_le 4 y.toInt with q2 | q2
      · exact Or.inr q2
      · exact absurd ⟨Int32.le_iff_toInt_le.mpr (by rw [h0]; exact q), Int32.le_iff_toInt_le.mpr (by rw [h4]; exact q2)⟩ h
set_option maxRecDepth 100000 in
set_option maxHeartbeats 4000000 in
theorem ev_X4_story {G : GX} {x y : Int32} {μ : Mem} (hE : EI (sh μ 1)) (hP : PI5 (sh μ 1)) : Ev G mX4_story 1 [rf G 0, .int x, .int y] μ (PI (OutC (kSt (μ 1 0) x y) (stW (sh μ 1) x.toNatClampNeg y) μ)) := by
  refine Ev.of (own := RX4) (n := 0) (by decide) rfl rfl (catOK rfl) (fun X C E => ?_)
  show J G X 0 [some _, some _, some _] [] _
  refine j_aload_n C dX4_story_0 rfl ?_
  refine g4_0 C dX4_story_1 lFX4_10 ?_
  refine j_iload_n C dX4_story_4 rfl ?_
  refine cVe1 C dX4_story_5 lMX4_83 myX0_hasFloor (ev_X0_hasFloor isH_1) (by omega) (rc0 isH_1) (Nat.le_of_ble_eq_true rfl) ?_
  first | refine j_if_neB (tgt := 17) C dX4_story_8 (by decide) (fun c_8 => ?_) (fun c_8 => ?_) | refine j_if_neN (tgt := 17) C dX4_story_8 (by decide) (by omega) (fun c_8 => ?_) (fun c_8 => ?_) | refine j_if_ne (tgt := 17) C dX4_story_8 (by decide) (fun c_8 => ?_) (fun c_8 => ?_)
  · have hn : μ 1 0 ≤ 6 := hE.1
    obtain ⟨j, hj, rfl⟩ := isFl_E hE c_8
    refine j_iload_n C dX4_story_17 rfl ?_
    rcases in04 y with ⟨y0, y4, rfl | rfl | rfl | rfl | rfl⟩ | ⟨yn, yo⟩
    · refine j_tabIn (tgt := 52) C dX4_story_18 (by decide) (by decide) (off := 34) (by decide) (by decide) ?_
      refine j_aload_n C dX4_story_52 rfl ?_
      refine g4_0 C dX4_story_53 lFX4_10 ?_
      refine g0_1 isH_1 C dX4_story_56 lFX4_87 ?_
      refine j_iload_n C dX4_story_59 rfl ?_
      refine j_iald C dX4_story_60 iA_2 (by omega) ?_
      exact j_iret C E dX4_story_61 (outC_ok (by rw [kSt, if_pos c_8, if_pos (by decide)]) (by rw [cl (by omega)]; rfl) (KC.refl μ))
    · refine j_tabIn (tgt := 62) C dX4_story_18 (by decide) (by decide) (off := 44) (by decide) (by decide) ?_
      refine j_aload_n C dX4_story_62 rfl ?_
      refine g4_0 C dX4_story_63 lFX4_10 ?_
      refine g0_2 isH_1 C dX4_story_66 lFX4_90 ?_
      refine j_iload_n C dX4_story_69 rfl ?_
      refine j_iald C dX4_story_70 iA_3 (by omega) ?_
      exact j_iret C E dX4_story_71 (outC_ok (by rw [kSt, if_pos c_8, if_pos (by decide)]) (by rw [cl (by omega)]; rfl) (KC.refl μ))
    · refine j_tabIn (tgt := 72) C dX4_story_18 (by decide) (by decide) (off := 54) (by decide) (by decide) ?_
      refine j_aload_n C dX4_story_72 rfl ?_
      refine g4_0 C dX4_story_73 lFX4_10 ?_
      refine g0_3 isH_1 C dX4_story_76 lFX4_93 ?_
      refine j_iload_n C dX4_story_79 rfl ?_
      refine j_iald C dX4_story_80 iA_4 (by omega) ?_
      exact j_iret C E dX4_story_81 (outC_ok (by rw [kSt, if_pos c_8, if_pos (by decide)]) (by rw [cl (by omega)]; rfl) (KC.refl μ))
    · refine j_tabIn (tgt := 82) C dX4_story_18 (by decide) (by decide) (off := 64) (by decide) (by decide) ?_
      refine j_aload_n C dX4_story_82 rfl ?_
      refine g4_0 C dX4_story_83 lFX4_10 ?_
      refine g0_4 isH_1 C dX4_story_86 lFX4_96 ?_
      refine j_iload_n C dX4_story_89 rfl ?_
      refine j_iald C dX4_story_90 iA_5 (by omega) ?_
      exact j_iret C E dX4_story_91 (outC_ok (by rw [kSt, if_pos c_8, if_pos (by decide)]) (by rw [cl (by omega)]; rfl) (KC.refl μ))
    · refine j_tabIn (tgt := 92) C dX4_story_18 (by decide) (by decide) (off := 74) (by decide) (by decide) ?_
      refine j_aload_n C dX4_story_92 rfl ?_
      refine g4_0 C dX4_story_93 lFX4_10 ?_
      refine j_iload_n C dX4_story_96 rfl ?_
      obtain ⟨q1, q2, q3⟩ := hP.plc (f := j) hj
      have q1 : plc (μ 6) j (μ 1 0) < μ 1 0 := q1
      refine cVe1 C dX4_story_97 lMX4_99 myX0_placeOf (ev_X0_placeOf (p := plc (μ 6) j (μ 1 0)) isH_1 hn hP.1 (by omega) q1 q2 q3) (by omega) (rc0 isH_1) (Nat.le_of_ble_eq_true rfl) ?_
      exact j_iret C E dX4_story_100 (outC_ok (by rw [kSt, if_pos c_8, if_pos (by decide)]) (by rw [cl (by omega)]; rfl) (KC.refl μ))
    · refine j_tabOut (tgt := 101) C dX4_story_18 yo (by decide) ?_
      refine j_aload_n C dX4_story_101 rfl ?_
      refine j_bipush (v := (-2)) C dX4_story_102 (by decide) ?_
      refine cVe1 C dX4_story_104 lMX4_64 myX4_refuse (ev_X4_refuse (k := 2) (by decide) (by decide)) (by omega) rc4 (Nat.le_of_ble_eq_true rfl) ?_
      exact j_iret C E dX4_story_107 (outC_no (j := 2) (by rw [kSt, if_pos c_8, if_neg yn]) (by decide) (by decide))
  · refine j_aload_n C dX4_story_11 rfl ?_
    refine j_iconst (v := (-1)) C dX4_story_12 (by decide) ?_
    refine cVe1 C dX4_story_13 lMX4_64 myX4_refuse (ev_X4_refuse (k := 1) (by decide) (by decide)) (by omega) rc4 (Nat.le_of_ble_eq_true rfl) ?_
    exact j_iret C E dX4_story_16 (outC_no (j := 1) (if_neg c_8) (by decide) (by decide))
abbrev kCo (n : Nat) (x y : Int32) : Nat := if isFl n x then (if y < 0 then 4 else if nI 999 < y then 6 else 0) else 1
set_option maxRecDepth 100000 in
set_option maxHeartbeats 4000000 in
theorem ev_X4_come {G : GX} {x y : Int32} {μ : Mem} (hE : EI (sh μ 1)) (hP : PI5 (sh μ 1)) : Ev G mX4_come 2 [rf G 0, .int x, .int y] μ (PI (OutC (kCo (μ 1 0) x y) (nI (tComes ((sh μ 1) 1 x.toNatClampNeg) ((sh μ 1) 3 x.toNatClampNeg) y.toNatClampNeg)) μ)) := by
  refine Ev.of (own := RX4) (n := 0) (by decide) rfl rfl (catOK rfl) (fun X C E => ?_)
  show J G X 0 [some _, some _, some _] [] _
  refine j_aload_n C dX4_come_0 rfl ?_
  refine g4_0 C dX4_come_1 lFX4_10 ?_
  refine j_iload_n C dX4_come_4 rfl ?_
  refine cVe1 C dX4_come_5 lMX4_83 myX0_hasFloor (ev_X0_hasFloor isH_1) (by omega) (rc0 isH_1) (Nat.le_of_ble_eq_true rfl) ?_
  first | refine j_if_neB (tgt := 17) C dX4_come_8 (by decide) (fun c_8 => ?_) (fun c_8 => ?_) | refine j_if_neN (tgt := 17) C dX4_come_8 (by decide) (by omega) (fun c_8 => ?_) (fun c_8 => ?_) | refine j_if_ne (tgt := 17) C dX4_come_8 (by decide) (fun c_8 => ?_) (fun c_8 => ?_)
  · have hn : μ 1 0 ≤ 6 := hE.1
    obtain ⟨j, hj, rfl⟩ := isFl_E hE c_8
    refine j_iload_n C dX4_come_17 rfl ?_
    refine j_if_ge (tgt := 28) C dX4_come_18 (by decide) (fun c_18 => ?_) (fun c_18 => ?_)
    · refine j_iload_n C dX4_come_28 rfl ?_
      refine j_sipush (v := nI 999) C dX4_come_29 (by decide) ?_
      refine j_icmp_le (tgt := 42) C dX4_come_32 (by decide) (fun c_32 => ?_) (fun c_32 => ?_)
      · obtain ⟨z, hz, rfl⟩ := nI_of2 (n := 999) (M := nI 999) (by decide) (Int32.not_lt.mpr c_18) c_32
        refine j_aload_n C dX4_come_42 rfl ?_
        refine g4_0 C dX4_come_43 lFX4_10 ?_
        refine j_iload_n C dX4_come_46 rfl ?_
        refine j_iload_n C dX4_come_47 rfl ?_
        have hb := hE.2.1 j hj
        refine cVe2 C dX4_come_48 lMX4_119 myX0_comingAt (ev_X0_comingAt isH_1 (by omega) hb.1 hb.2.2.2.1 (by omega)) (by omega) (rc0 isH_1) (Nat.le_of_ble_eq_true rfl) ?_
        exact j_iret C E dX4_come_51 (outC_ok (by rw [kCo, if_pos c_8, if_neg (nI_pos (by omega)), if_neg (Int32.not_lt.mpr c_32)]) (by rw [cl (by omega), cl (by omega)]; rfl) (KC.refl μ))
      · refine j_aload_n C dX4_come_35 rfl ?_
        refine j_bipush (v := (-6)) C dX4_come_36 (by decide) ?_
        refine cVe1 C dX4_come_38 lMX4_64 myX4_refuse (ev_X4_refuse (k := 6) (by decide) (by decide)) (by omega) rc4 (Nat.le_of_ble_eq_true rfl) ?_
        exact j_iret C E dX4_come_41 (outC_no (j := 6) (by rw [kCo, if_pos c_8, if_neg (Int32.not_lt.mpr c_18), if_pos (Int32.not_le.mp c_32)]) (by decide) (by decide))
    · refine j_aload_n C dX4_come_21 rfl ?_
      refine j_bipush (v := (-4)) C dX4_come_22 (by decide) ?_
      refine cVe1 C dX4_come_24 lMX4_64 myX4_refuse (ev_X4_refuse (k := 4) (by decide) (by decide)) (by omega) rc4 (Nat.le_of_ble_eq_true rfl) ?_
      exact j_iret C E dX4_come_27 (outC_no (j := 4) (by rw [kCo, if_pos c_8, if_pos (Int32.not_le.mp c_18)]) (by decide) (by decide))
  · refine j_aload_n C dX4_come_11 rfl ?_
    refine j_iconst (v := (-1)) C dX4_come_12 (by decide) ?_
    refine cVe1 C dX4_come_13 lMX4_64 myX4_refuse (ev_X4_refuse (k := 1) (by decide) (by decide)) (by omega) rc4 (Nat.le_of_ble_eq_true rfl) ?_
    exact j_iret C E dX4_come_16 (outC_no (j := 1) (if_neg c_8) (by decide) (by decide))
abbrev kGo (x y : Int32) : Nat := if x < 0 ∨ y < 0 then 4 else if nI 9 < x ∨ nI 9 < y then 6 else 0
set_option maxRecDepth 100000 in
set_option maxHeartbeats 4000000 in
theorem ev_X4_going {G : GX} {x y : Int32} {μ : Mem} (hE : EI (sh μ 1)) (hP : PI5 (sh μ 1)) : Ev G mX4_going 3 [rf G 0, .int x, .int y] μ (PI (OutC (kGo x y) (nI (tGoes ((sh μ 1) 6 6) ((sh μ 1) 6 7) x.toNatClampNeg y.toNatClampNeg)) μ)) := by
  refine Ev.of (own := RX4) (n := 0) (by decide) rfl rfl (catOK rfl) (fun X C E => ?_)
  show J G X 0 [some _, some _, some _] [] _
  refine j_iload_n C dX4_going_0 rfl ?_
  refine j_if_lt (tgt := 8) C dX4_going_1 (by decide) (fun c_1 => ?_) (fun c_1 => ?_)
  · refine j_aload_n C dX4_going_8 rfl ?_
    refine j_bipush (v := (-4)) C dX4_going_9 (by decide) ?_
    refine cVe1 C dX4_going_11 lMX4_64 myX4_refuse (ev_X4_refuse (k := 4) (by decide) (by decide)) (by omega) rc4 (Nat.le_of_ble_eq_true rfl) ?_
    exact j_iret C E dX4_going_14 (by first | exact outC_no (j := 4) (if_pos (Or.inl c_1)) (by decide) (by decide) | exact outC_no (j := 4) (if_pos (Or.inr (Int32.not_le.mp c_5))) (by decide) (by decide))
  · refine j_iload_n C dX4_going_4 rfl ?_
    refine j_if_ge (tgt := 15) C dX4_going_5 (by decide) (fun c_5 => ?_) (fun c_5 => ?_)
    · refine j_iload_n C dX4_going_15 rfl ?_
      refine j_bipush (v := nI 9) C dX4_going_16 (by decide) ?_
      have n1 : ¬ (x < 0 ∨ y < 0) := fun q => q.elim c_1 (fun q => absurd q (Int32.not_lt.mpr c_5))
      refine j_icmp_gt (tgt := 27) C dX4_going_18 (by decide) (fun c_18 => ?_) (fun c_18 => ?_)
      · refine j_aload_n C dX4_going_27 rfl ?_
        refine j_bipush (v := (-6)) C dX4_going_28 (by decide) ?_
        refine cVe1 C dX4_going_30 lMX4_64 myX4_refuse (ev_X4_refuse (k := 6) (by decide) (by decide)) (by omega) rc4 (Nat.le_of_ble_eq_true rfl) ?_
        exact j_iret C E dX4_going_33 (by first | exact outC_no (j := 6) (by rw [kGo, if_neg n1, if_pos (Or.inl c_18)]) (by decide) (by decide) | exact outC_no (j := 6) (by rw [kGo, if_neg n1, if_pos (Or.inr (Int32.not_le.mp c_24))]) (by decide) (by decide))
      · refine j_iload_n C dX4_going_21 rfl ?_
        refine j_bipush (v := nI 9) C dX4_going_22 (by decide) ?_
        refine j_icmp_le (tgt := 34) C dX4_going_24 (by decide) (fun c_24 => ?_) (fun c_24 => ?_)
        · obtain ⟨a, ha, rfl⟩ := nI_of2 (n := 9) (M := nI 9) (by decide) c_1 (Int32.not_lt.mp c_18)
          obtain ⟨b, hb, rfl⟩ := nI_of2 (n := 9) (M := nI 9) (by decide) (Int32.not_lt.mpr c_5) c_24
          refine j_aload_n C dX4_going_34 rfl ?_
          refine g4_0 C dX4_going_35 lFX4_10 ?_
          refine j_iload_n C dX4_going_38 rfl ?_
          refine j_iload_n C dX4_going_39 rfl ?_
          refine cVe2 C dX4_going_40 lMX4_123 myX0_minutesBetween (ev_X0_minutesBetween isH_1 hE.set.2.2.2.2.2.2.1 (by omega) (by omega)) (by omega) (rc0 isH_1) (Nat.le_of_ble_eq_true rfl) ?_
          exact j_iret C E dX4_going_43 (outC_ok (by rw [kGo, if_neg n1, if_neg (fun q => q.elim c_18 (fun q => absurd q (Int32.not_lt.mpr c_24)))]) (by rw [cl (by omega), cl (by omega)]; rfl) (KC.refl μ))
        · refine j_aload_n C dX4_going_27 rfl ?_
          refine j_bipush (v := (-6)) C dX4_going_28 (by decide) ?_
          refine cVe1 C dX4_going_30 lMX4_64 myX4_refuse (ev_X4_refuse (k := 6) (by decide) (by decide)) (by omega) rc4 (Nat.le_of_ble_eq_true rfl) ?_
          exact j_iret C E dX4_going_33 (by first | exact outC_no (j := 6) (by rw [kGo, if_neg n1, if_pos (Or.inl c_18)]) (by decide) (by decide) | exact outC_no (j := 6) (by rw [kGo, if_neg n1, if_pos (Or.inr (Int32.not_le.mp c_24))]) (by decide) (by decide))
    · refine j_aload_n C dX4_going_8 rfl ?_
      refine j_bipush (v := (-4)) C dX4_going_9 (by decide) ?_
      refine cVe1 C dX4_going_11 lMX4_64 myX4_refuse (ev_X4_refuse (k := 4) (by decide) (by decide)) (by omega) rc4 (Nat.le_of_ble_eq_true rfl) ?_
      exact j_iret C E dX4_going_14 (by first | exact outC_no (j := 4) (if_pos (Or.inl c_1)) (by decide) (by decide) | exact outC_no (j := 4) (if_pos (Or.inr (Int32.not_le.mp c_5))) (by decide) (by decide))
