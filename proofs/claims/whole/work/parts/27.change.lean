-- WHAT CHANGES SOMETHING
def OutG (r k : Nat) (w : Int32) (μ : Mem) (P : Mem → Prop) (v : Int32) (μ' : Mem) : Prop := (k = 0 ∧ v = w ∧ P μ') ∨ (0 < k ∧ v = -nI k ∧ μ' = up μ r k (μ r k + 1))
theorem outG_ok {r k : Nat} {w v : Int32} {μ μ' : Mem} {P : Mem → Prop} (hk : k = 0) (hv : v = w) (h : P μ') : PI (OutG r k w μ P) (some (.int v)) μ' := ⟨v, rfl, Or.inl ⟨hk, hv, h⟩⟩
theorem outG_no {r k j : Nat} {w v : Int32} {μ : Mem} {P : Mem → Prop} (hk : k = j) (hj : 0 < j) (hv : v = -nI j) : PI (OutG r k w μ P) (some (.int v)) (up μ r j (μ r j + 1)) := ⟨v, rfl, Or.inr ⟨by omega, by rw [hk]; exact hv, by rw [hk]⟩⟩
set_option maxRecDepth 100000 in
set_option maxHeartbeats 4000000 in
theorem ev_X2_add {G : GX} {c9 : Nat} {μ : Mem} (hl : μ 34 1 < 96) : Ev G mX2_add 0 [rf G 34, .int (nI c9)] μ (PVe (up (up μ 35 (μ 34 1) c9) 34 1 (μ 34 1 + 1))) := by
  refine Ev.of (own := RX2) (n := 0) (by decide) rfl rfl (catOK rfl) (fun X C E => ?_)
  show J G X 0 [some _, some _] [] _
  refine j_aload_n C dX2_add_0 rfl ?_
  refine g2_0 C dX2_add_1 lFX2_9 ?_
  refine j_aload_n C dX2_add_4 rfl ?_
  refine g2_1 C dX2_add_5 lFX2_15 ?_
  refine j_iload_n C dX2_add_8 rfl ?_
  refine j_iast C dX2_add_9 iA_35 (by omega) ?_
  refine j_aload_n C dX2_add_10 rfl ?_
  refine j_dup C dX2_add_11 rfl ?_
  refine g2_1 C dX2_add_12 lFX2_15 ?_
  refine J.top (y := nI (μ 34 1)) (by rw [up_ne (by decide)]) ?_
  refine j_iconst (v := nI 1) C dX2_add_15 (by decide) ?_
  first | refine j_iaddN C dX2_add_16 ?_ | refine j_iadd C dX2_add_16 ?_
  refine p2_1 C dX2_add_17 lFX2_15 ?_
  exact j_vret C E dX2_add_20 ⟨rfl, rfl⟩
abbrev kLe (n : Nat) (x9 : Int32) : Nat := if x9 < 0 then 4 else if nI 255 < x9 ∨ 96 ≤ n then 6 else 0
set_option maxRecDepth 100000 in
set_option maxHeartbeats 4000000 in
theorem ev_X4_letter {G : GX} {x9 : Int32} {μ : Mem} (hl : μ 34 1 ≤ 96) : Ev G mX4_letter 1 [rf G 0, .int x9] μ (PI (OutG 37 (kLe (μ 34 1) x9) (nI (μ 34 1 + 1)) μ (fun μ' => μ' = up (up μ 35 (μ 34 1) x9.toNatClampNeg) 34 1 (μ 34 1 + 1)))) := by
  refine Ev.of (own := RX4) (n := 0) (by decide) rfl rfl (catOK rfl) (fun X C E => ?_)
  show J G X 0 [some _, some _] [] _
  refine j_iload_n C dX4_letter_0 rfl ?_
  refine j_if_ge (tgt := 11) C dX4_letter_1 (by decide) (fun c_1 => ?_) (fun c_1 => ?_)
  · refine j_iload_n C dX4_letter_11 rfl ?_
    refine j_sipush (v := nI 255) C dX4_letter_12 (by decide) ?_
    refine j_icmp_gt (tgt := 30) C dX4_letter_15 (by decide) (fun c_15 => ?_) (fun c_15 => ?_)
    · refine j_aload_n C dX4_letter_30 rfl ?_
      refine j_bipush (v := (-6)) C dX4_letter_31 (by decide) ?_
      refine cVe1 C dX4_letter_33 lMX4_64 myX4_refuse (ev_X4_refuse (k := 6) (by decide) (by decide)) (by omega) rc4 (Nat.le_of_ble_eq_true rfl) ?_
      exact j_iret C E dX4_letter_36 (by first | exact outG_no (j := 6) (by rw [kLe, if_neg (Int32.not_lt.mpr c_1), if_pos (Or.inl c_15)]) (by decide) (by decide) | exact outG_no (j := 6) (by rw [kLe, if_neg (Int32.not_lt.mpr c_1), if_pos (Or.inr c_27)]) (by decide) (by decide))
    · obtain ⟨a9, ha9, rfl⟩ := nI_of2 (n := 255) (M := nI 255) (x := x9) (by decide) (Int32.not_lt.mpr c_1) (Int32.not_lt.mp c_15)
      refine j_aload_n C dX4_letter_18 rfl ?_
      refine g4_8 C dX4_letter_19 lFX4_50 ?_
      refine g2_1 C dX4_letter_22 lFX4_68 ?_
      refine j_bipush (v := nI 96) C dX4_letter_25 (by decide) ?_
      first | refine j_icmp_ltN (tgt := 37) C dX4_letter_27 (by decide) (by omega) (by omega) (fun c_27 => ?_) (fun c_27 => ?_) | refine j_icmp_lt (tgt := 37) C dX4_letter_27 (by decide) (fun c_27 => ?_) (fun c_27 => ?_)
      · refine j_aload_n C dX4_letter_37 rfl ?_
        refine g4_8 C dX4_letter_38 lFX4_50 ?_
        refine j_iload_n C dX4_letter_41 rfl ?_
        refine cVw1 C dX4_letter_42 lMX4_71 myX2_add (ev_X2_add c_27) (by omega) rc2 (Nat.le_of_ble_eq_true rfl) ?_
        refine j_aload_n C dX4_letter_45 rfl ?_
        refine g4_8 C dX4_letter_46 lFX4_50 ?_
        refine g2_1 C dX4_letter_49 lFX4_68 ?_
        refine J.top (y := nI (μ 34 1 + 1)) (by rw [up_at]) ?_
        exact j_iret C E dX4_letter_52 (outG_ok (by rw [kLe, if_neg (Int32.not_lt.mpr c_1), if_neg (fun q => q.elim c_15 (fun q => absurd q (by omega)))]) rfl (by rw [cl (by omega)]))
      · refine j_aload_n C dX4_letter_30 rfl ?_
        refine j_bipush (v := (-6)) C dX4_letter_31 (by decide) ?_
        refine cVe1 C dX4_letter_33 lMX4_64 myX4_refuse (ev_X4_refuse (k := 6) (by decide) (by decide)) (by omega) rc4 (Nat.le_of_ble_eq_true rfl) ?_
        exact j_iret C E dX4_letter_36 (by first | exact outG_no (j := 6) (by rw [kLe, if_neg (Int32.not_lt.mpr c_1), if_pos (Or.inl c_15)]) (by decide) (by decide) | exact outG_no (j := 6) (by rw [kLe, if_neg (Int32.not_lt.mpr c_1), if_pos (Or.inr c_27)]) (by decide) (by decide))
  · refine j_aload_n C dX4_letter_4 rfl ?_
    refine j_bipush (v := (-4)) C dX4_letter_5 (by decide) ?_
    refine cVe1 C dX4_letter_7 lMX4_64 myX4_refuse (ev_X4_refuse (k := 4) (by decide) (by decide)) (by omega) rc4 (Nat.le_of_ble_eq_true rfl) ?_
    exact j_iret C E dX4_letter_10 (outG_no (j := 4) (if_pos (Int32.not_le.mp c_1)) (by decide) (by decide))
set_option maxRecDepth 100000 in
set_option maxHeartbeats 4000000 in
theorem ev_X4_people {G : GX} {x9 y9 : Int32} {μ : Mem} (hE : EI (sh μ 1)) (hP : PI5 (sh μ 1)) : Ev G mX4_people 1 [rf G 0, .int x9, .int y9] μ (PI (OutG 37 (if isFl (μ 1 0) x9 then (if y9 < nI 1 then 4 else if nI 20 < y9 then 6 else 0) else 1) (nI (μ 4 x9.toNatClampNeg)) μ (fun μ' => μ' = up μ 4 x9.toNatClampNeg y9.toNatClampNeg))) := by
  refine Ev.of (own := RX4) (n := 1) (by decide) rfl rfl (catOK rfl) (fun X C E => ?_)
  show J G X 0 [some _, some _, some _, none] [] _
  refine j_aload_n C dX4_people_0 rfl ?_
  refine g4_0 C dX4_people_1 lFX4_10 ?_
  refine j_iload_n C dX4_people_4 rfl ?_
  refine cVe1 C dX4_people_5 lMX4_83 myX0_hasFloor (ev_X0_hasFloor isH_1) (by omega) (rc0 isH_1) (Nat.le_of_ble_eq_true rfl) ?_
  first | refine j_if_neB (tgt := 17) C dX4_people_8 (by decide) (fun c_8 => ?_) (fun c_8 => ?_) | refine j_if_neN (tgt := 17) C dX4_people_8 (by decide) (by omega) (fun c_8 => ?_) (fun c_8 => ?_) | refine j_if_ne (tgt := 17) C dX4_people_8 (by decide) (fun c_8 => ?_) (fun c_8 => ?_)
  · have hn : μ 1 0 ≤ 6 := hE.1
    obtain ⟨j9, hj, rfl⟩ := isFl_E hE c_8
    refine j_iload_n C dX4_people_17 rfl ?_
    refine j_iconst (v := nI 1) C dX4_people_18 (by decide) ?_
    refine j_icmp_ge (tgt := 29) C dX4_people_19 (by decide) (fun c_19 => ?_) (fun c_19 => ?_)
    · refine j_iload_n C dX4_people_29 rfl ?_
      refine j_bipush (v := nI 20) C dX4_people_30 (by decide) ?_
      refine j_icmp_le (tgt := 42) C dX4_people_32 (by decide) (fun c_32 => ?_) (fun c_32 => ?_)
      · obtain ⟨b9, hb9, rfl⟩ := nI_of2 (n := 20) (M := nI 20) (x := y9) (by decide) (Int32.not_lt.mpr (Int32.le_trans (show (0 : Int32) ≤ nI 1 by decide) c_19)) c_32
        refine j_aload_n C dX4_people_42 rfl ?_
        refine g4_0 C dX4_people_43 lFX4_10 ?_
        refine g0_3 isH_1 C dX4_people_46 lFX4_93 ?_
        refine j_iload_n C dX4_people_49 rfl ?_
        refine j_iald C dX4_people_50 iA_4 (by omega) ?_
        refine sn3 C dX4_people_51 rfl ?_
        refine j_aload_n C dX4_people_52 rfl ?_
        refine g4_0 C dX4_people_53 lFX4_10 ?_
        refine g0_3 isH_1 C dX4_people_56 lFX4_93 ?_
        refine j_iload_n C dX4_people_59 rfl ?_
        refine j_iload_n C dX4_people_60 rfl ?_
        refine j_iast C dX4_people_61 iA_4 (by omega) ?_
        refine j_iload_n C dX4_people_62 rfl ?_
        exact j_iret C E dX4_people_63 (outG_ok (by rw [if_pos c_8, if_neg (Int32.not_lt.mpr c_19), if_neg (Int32.not_lt.mpr c_32)]) (by rw [cl (by omega)]) (by rw [cl (by omega), cl (by omega)]))
      · refine j_aload_n C dX4_people_35 rfl ?_
        refine j_bipush (v := (-6)) C dX4_people_36 (by decide) ?_
        refine cVe1 C dX4_people_38 lMX4_64 myX4_refuse (ev_X4_refuse (k := 6) (by decide) (by decide)) (by omega) rc4 (Nat.le_of_ble_eq_true rfl) ?_
        exact j_iret C E dX4_people_41 (outG_no (j := 6) (by rw [if_pos c_8, if_neg (Int32.not_lt.mpr c_19), if_pos (Int32.not_le.mp c_32)]) (by decide) (by decide))
    · refine j_aload_n C dX4_people_22 rfl ?_
      refine j_bipush (v := (-4)) C dX4_people_23 (by decide) ?_
      refine cVe1 C dX4_people_25 lMX4_64 myX4_refuse (ev_X4_refuse (k := 4) (by decide) (by decide)) (by omega) rc4 (Nat.le_of_ble_eq_true rfl) ?_
      exact j_iret C E dX4_people_28 (outG_no (j := 4) (by rw [if_pos c_8, if_pos (Int32.not_le.mp c_19)]) (by decide) (by decide))
  · refine j_aload_n C dX4_people_11 rfl ?_
    refine j_iconst (v := (-1)) C dX4_people_12 (by decide) ?_
    refine cVe1 C dX4_people_13 lMX4_64 myX4_refuse (ev_X4_refuse (k := 1) (by decide) (by decide)) (by omega) rc4 (Nat.le_of_ble_eq_true rfl) ?_
    exact j_iret C E dX4_people_16 (outG_no (j := 1) (if_neg c_8) (by decide) (by decide))
abbrev kSe (x9 y9 : Int32) : Nat := if 0 ≤ x9 ∧ x9 < nI 10 then (if y9 < 0 then 4 else if nI (mostN x9.toNatClampNeg) < y9 then 6 else 0) else 2
theorem mostN_le (k : Nat) : mostN k ≤ 99 := by unfold mostN; (repeat' split) <;> omega
set_option maxRecDepth 100000 in
set_option maxHeartbeats 4000000 in
theorem ev_X4_set {G : GX} {x9 y9 : Int32} {μ : Mem} (hE : EI (sh μ 1)) (hP : PI5 (sh μ 1)) : Ev G mX4_set 1 [rf G 0, .int x9, .int y9] μ (PI (OutG 37 (kSe x9 y9) (nI (μ 7 x9.toNatClampNeg)) μ (fun μ' => μ' = up μ 7 x9.toNatClampNeg y9.toNatClampNeg))) := by
  refine Ev.of (own := RX4) (n := 1) (by decide) rfl rfl (catOK rfl) (fun X C E => ?_)
  show J G X 0 [some _, some _, some _, none] [] _
  refine j_iload_n C dX4_set_0 rfl ?_
  refine j_if_lt (tgt := 12) C dX4_set_1 (by decide) (fun c_1 => ?_) (fun c_1 => ?_)
  · refine j_aload_n C dX4_set_12 rfl ?_
    refine j_bipush (v := (-2)) C dX4_set_13 (by decide) ?_
    refine cVe1 C dX4_set_15 lMX4_64 myX4_refuse (ev_X4_refuse (k := 2) (by decide) (by decide)) (by omega) rc4 (Nat.le_of_ble_eq_true rfl) ?_
    exact j_iret C E dX4_set_18 (by first | exact outG_no (j := 2) (if_neg (fun q => absurd q.1 (Int32.not_le.mpr c_1))) (by decide) (by decide) | exact outG_no (j := 2) (if_neg (fun q => c_9 q.2)) (by decide) (by decide))
  · refine j_iload_n C dX4_set_4 rfl ?_
    refine j_getMost C dX4_set_5 lFX4_113 ?_
    refine j_mostLen C dX4_set_8 ?_
    refine j_icmp_lt (tgt := 19) C dX4_set_9 (by decide) (fun c_9 => ?_) (fun c_9 => ?_)
    · obtain ⟨a9, ha9, rfl⟩ := fl_of (n := 10) (x := x9) (by decide) ⟨Int32.not_lt.mp c_1, c_9⟩
      have h10 : 0 ≤ nI a9 ∧ nI a9 < nI 10 := ⟨Int32.not_lt.mp c_1, c_9⟩
      have hm := mostN_le a9
      refine j_iload_n C dX4_set_19 rfl ?_
      refine j_if_ge (tgt := 30) C dX4_set_20 (by decide) (fun c_20 => ?_) (fun c_20 => ?_)
      · refine j_iload_n C dX4_set_30 rfl ?_
        refine j_getMost C dX4_set_31 lFX4_113 ?_
        refine j_iload_n C dX4_set_34 rfl ?_
        refine j_mostAt C dX4_set_35 (by omega) ?_
        refine j_icmp_le (tgt := 46) C dX4_set_36 (by decide) (fun c_36 => ?_) (fun c_36 => ?_)
        · obtain ⟨b9, hb9, rfl⟩ := nI_of2 (n := mostN a9) (M := nI (mostN a9)) (x := y9) (nI_toInt (by omega)) (Int32.not_lt.mpr c_20) c_36
          refine j_aload_n C dX4_set_46 rfl ?_
          refine g4_0 C dX4_set_47 lFX4_10 ?_
          refine g0_6 isH_1 C dX4_set_50 lFX4_116 ?_
          refine j_iload_n C dX4_set_53 rfl ?_
          refine j_iald C dX4_set_54 iA_7 (by omega) ?_
          refine sn3 C dX4_set_55 rfl ?_
          refine j_aload_n C dX4_set_56 rfl ?_
          refine g4_0 C dX4_set_57 lFX4_10 ?_
          refine g0_6 isH_1 C dX4_set_60 lFX4_116 ?_
          refine j_iload_n C dX4_set_63 rfl ?_
          refine j_iload_n C dX4_set_64 rfl ?_
          refine j_iast C dX4_set_65 iA_7 (by omega) ?_
          refine j_iload_n C dX4_set_66 rfl ?_
          exact j_iret C E dX4_set_67 (outG_ok (by rw [kSe, if_pos h10, if_neg (Int32.not_lt.mpr c_20), cl (by omega), if_neg (Int32.not_lt.mpr c_36)]) (by rw [cl (by omega)]) (by rw [cl (by omega), cl (by omega)]))
        · refine j_aload_n C dX4_set_39 rfl ?_
          refine j_bipush (v := (-6)) C dX4_set_40 (by decide) ?_
          refine cVe1 C dX4_set_42 lMX4_64 myX4_refuse (ev_X4_refuse (k := 6) (by decide) (by decide)) (by omega) rc4 (Nat.le_of_ble_eq_true rfl) ?_
          exact j_iret C E dX4_set_45 (outG_no (j := 6) (by rw [kSe, if_pos h10, if_neg (Int32.not_lt.mpr c_20), cl (by omega), if_pos (Int32.not_le.mp c_36)]) (by decide) (by decide))
      · refine j_aload_n C dX4_set_23 rfl ?_
        refine j_bipush (v := (-4)) C dX4_set_24 (by decide) ?_
        refine cVe1 C dX4_set_26 lMX4_64 myX4_refuse (ev_X4_refuse (k := 4) (by decide) (by decide)) (by omega) rc4 (Nat.le_of_ble_eq_true rfl) ?_
        exact j_iret C E dX4_set_29 (outG_no (j := 4) (by rw [kSe, if_pos h10, if_pos (Int32.not_le.mp c_20)]) (by decide) (by decide))
    · refine j_aload_n C dX4_set_12 rfl ?_
      refine j_bipush (v := (-2)) C dX4_set_13 (by decide) ?_
      refine cVe1 C dX4_set_15 lMX4_64 myX4_refuse (ev_X4_refuse (k := 2) (by decide) (by decide)) (by omega) rc4 (Nat.le_of_ble_eq_true rfl) ?_
      exact j_iret C E dX4_set_18 (by first | exact outG_no (j := 2) (if_neg (fun q => absurd q.1 (Int32.not_le.mpr c_1))) (by decide) (by decide) | exact outG_no (j := 2) (if_neg (fun q => c_9 q.2)) (by decide) (by decide))
abbrev kRo (n : Nat) (x9 : Int32) : Nat := if x9 < 0 then 4 else if nI 99 < x9 ∨ 12 ≤ n then 6 else 0
set_option maxRecDepth 100000 in
set_option maxHeartbeats 4000000 in
theorem ev_X4_row {G : GX} {x9 : Int32} {μ : Mem} (hl : μ 0 10 ≤ 12) : Ev G mX4_row 1 [rf G 0, .int x9] μ (PI (OutG 37 (kRo (μ 0 10) x9) (nI (μ 0 10 + 1)) μ (fun μ' => μ' = up (up μ 36 (μ 0 10) x9.toNatClampNeg) 0 10 (μ 0 10 + 1)))) := by
  refine Ev.of (own := RX4) (n := 0) (by decide) rfl rfl (catOK rfl) (fun X C E => ?_)
  show J G X 0 [some _, some _] [] _
  refine j_iload_n C dX4_row_0 rfl ?_
  refine j_if_ge (tgt := 11) C dX4_row_1 (by decide) (fun c_1 => ?_) (fun c_1 => ?_)
  · refine j_iload_n C dX4_row_11 rfl ?_
    refine j_bipush (v := nI 99) C dX4_row_12 (by decide) ?_
    refine j_icmp_gt (tgt := 26) C dX4_row_14 (by decide) (fun c_14 => ?_) (fun c_14 => ?_)
    · refine j_aload_n C dX4_row_26 rfl ?_
      refine j_bipush (v := (-6)) C dX4_row_27 (by decide) ?_
      refine cVe1 C dX4_row_29 lMX4_64 myX4_refuse (ev_X4_refuse (k := 6) (by decide) (by decide)) (by omega) rc4 (Nat.le_of_ble_eq_true rfl) ?_
      exact j_iret C E dX4_row_32 (by first | exact outG_no (j := 6) (by rw [kRo, if_neg (Int32.not_lt.mpr c_1), if_pos (Or.inl c_14)]) (by decide) (by decide) | exact outG_no (j := 6) (by rw [kRo, if_neg (Int32.not_lt.mpr c_1), if_pos (Or.inr c_23)]) (by decide) (by decide))
    · obtain ⟨a9, ha9, rfl⟩ := nI_of2 (n := 99) (M := nI 99) (x := x9) (by decide) (Int32.not_lt.mpr c_1) (Int32.not_lt.mp c_14)
      refine j_aload_n C dX4_row_17 rfl ?_
      refine g4_10 C dX4_row_18 lFX4_57 ?_
      refine j_bipush (v := nI 12) C dX4_row_21 (by decide) ?_
      first | refine j_icmp_ltN (tgt := 33) C dX4_row_23 (by decide) (by omega) (by omega) (fun c_23 => ?_) (fun c_23 => ?_) | refine j_icmp_lt (tgt := 33) C dX4_row_23 (by decide) (fun c_23 => ?_) (fun c_23 => ?_)
      · refine j_aload_n C dX4_row_33 rfl ?_
        refine g4_9 C dX4_row_34 lFX4_54 ?_
        refine j_aload_n C dX4_row_37 rfl ?_
        refine g4_10 C dX4_row_38 lFX4_57 ?_
        refine j_iload_n C dX4_row_41 rfl ?_
        refine j_iast C dX4_row_42 iA_36 (by omega) ?_
        refine j_aload_n C dX4_row_43 rfl ?_
        refine j_dup C dX4_row_44 rfl ?_
        refine g4_10 C dX4_row_45 lFX4_57 ?_
        refine J.top (y := nI (μ 0 10)) (by rw [up_ne (by decide)]) ?_
        refine j_iconst (v := nI 1) C dX4_row_48 (by decide) ?_
        first | refine j_iaddN C dX4_row_49 ?_ | refine j_iadd C dX4_row_49 ?_
        refine p4_10 C dX4_row_50 lFX4_57 ?_
        refine j_aload_n C dX4_row_53 rfl ?_
        refine g4_10 C dX4_row_54 lFX4_57 ?_
        refine J.top (y := nI (μ 0 10 + 1)) (by rw [up_at]) ?_
        exact j_iret C E dX4_row_57 (outG_ok (by rw [kRo, if_neg (Int32.not_lt.mpr c_1), if_neg (fun q => q.elim c_14 (fun q => absurd q (by omega)))]) rfl (by rw [cl (by omega)]))
      · refine j_aload_n C dX4_row_26 rfl ?_
        refine j_bipush (v := (-6)) C dX4_row_27 (by decide) ?_
        refine cVe1 C dX4_row_29 lMX4_64 myX4_refuse (ev_X4_refuse (k := 6) (by decide) (by decide)) (by omega) rc4 (Nat.le_of_ble_eq_true rfl) ?_
        exact j_iret C E dX4_row_32 (by first | exact outG_no (j := 6) (by rw [kRo, if_neg (Int32.not_lt.mpr c_1), if_pos (Or.inl c_14)]) (by decide) (by decide) | exact outG_no (j := 6) (by rw [kRo, if_neg (Int32.not_lt.mpr c_1), if_pos (Or.inr c_23)]) (by decide) (by decide))
  · refine j_aload_n C dX4_row_4 rfl ?_
    refine j_bipush (v := (-4)) C dX4_row_5 (by decide) ?_
    refine cVe1 C dX4_row_7 lMX4_64 myX4_refuse (ev_X4_refuse (k := 4) (by decide) (by decide)) (by omega) rc4 (Nat.le_of_ble_eq_true rfl) ?_
    exact j_iret C E dX4_row_10 (outG_no (j := 4) (if_pos (Int32.not_le.mp c_1)) (by decide) (by decide))
set_option maxRecDepth 100000 in
set_option maxHeartbeats 4000000 in
theorem ev_X4_image {G : GX} {μ : Mem} : Ev G mX4_image 2 [rf G 0] μ (PI (fun v μ' => v = nI (μ 1 0) ∧ μ' = up (cpH μ 15 1) 0 3 1)) := by
  refine Ev.of (own := RX4) (n := 0) (by decide) rfl rfl (catOK rfl) (fun X C E => ?_)
  show J G X 0 [some _] [] _
  refine j_aload_n C dX4_image_0 rfl ?_
  refine g4_2 C dX4_image_1 lFX4_19 ?_
  refine j_aload_n C dX4_image_4 rfl ?_
  refine g4_0 C dX4_image_5 lFX4_10 ?_
  refine cVv1 C dX4_image_8 lMX4_75 myX0_copyFrom (ev_X0_copyFrom isH_15 isH_1) (by omega) (rc0 isH_15) (Nat.le_of_ble_eq_true rfl) (fun μ_8 hv_8 => ?_)
  subst hv_8
  refine j_aload_n C dX4_image_11 rfl ?_
  refine j_iconst (v := nI 1) C dX4_image_12 (by decide) ?_
  refine p4_3 C dX4_image_13 lFX4_22 (by omega) ?_
  refine j_aload_n C dX4_image_16 rfl ?_
  refine g4_0 C dX4_image_17 lFX4_10 ?_
  refine g0_0 isH_1 C dX4_image_20 lFX4_154 ?_
  refine J.top (y := nI (μ 1 0)) (by rw [up_ne (by decide), cpH_off (by omega)]) ?_
  exact j_iret C E dX4_image_23 ⟨_, rfl, rfl, rfl⟩
set_option maxRecDepth 100000 in
set_option maxHeartbeats 4000000 in
theorem ev_X4_on {G : GX} {μ : Mem} (ht : μ 0 3 ≤ 1) : Ev G mX4_on 2 [rf G 0] μ (PI (OutG 37 (if μ 0 3 = 0 then 3 else 0) (nI (μ 15 0)) μ (fun μ' => μ' = cpH μ 1 15))) := by
  refine Ev.of (own := RX4) (n := 0) (by decide) rfl rfl (catOK rfl) (fun X C E => ?_)
  show J G X 0 [some _] [] _
  refine j_aload_n C dX4_on_0 rfl ?_
  refine g4_3 C dX4_on_1 lFX4_22 ?_
  refine j_if_neN (tgt := 14) C dX4_on_4 (by decide) (by omega) (fun c_4 => ?_) (fun c_4 => ?_)
  · refine j_aload_n C dX4_on_14 rfl ?_
    refine g4_0 C dX4_on_15 lFX4_10 ?_
    refine j_aload_n C dX4_on_18 rfl ?_
    refine g4_2 C dX4_on_19 lFX4_19 ?_
    refine cVv1 C dX4_on_22 lMX4_75 myX0_copyFrom (ev_X0_copyFrom isH_1 isH_15) (by omega) (rc0 isH_1) (Nat.le_of_ble_eq_true rfl) (fun μ_22 hv_22 => ?_)
    subst hv_22
    refine j_aload_n C dX4_on_25 rfl ?_
    refine g4_0 C dX4_on_26 lFX4_10 ?_
    refine g0_0 isH_1 C dX4_on_29 lFX4_154 ?_
    refine J.top (y := nI (μ 15 0)) (by have := (cpH_eq (μ := μ) isH_1 isH_15 (by decide)).1; exact congrArg nI this) ?_
    exact j_iret C E dX4_on_32 (outG_ok (if_neg c_4) rfl rfl)
  · refine j_aload_n C dX4_on_7 rfl ?_
    refine j_bipush (v := (-3)) C dX4_on_8 (by decide) ?_
    refine cVe1 C dX4_on_10 lMX4_64 myX4_refuse (ev_X4_refuse (k := 3) (by decide) (by decide)) (by omega) rc4 (Nat.le_of_ble_eq_true rfl) ?_
    exact j_iret C E dX4_on_13 (outG_no (j := 3) (if_pos c_4) (by decide) (by decide))
theorem fl_lt {a n : Nat} (ha : a < 2 ^ 31) (hn : n < 2 ^ 31) (h : 0 ≤ nI a ∧ nI a < nI n) : a < n := (nI_ltI ha hn).mp h.2
/-- the order with two floors changed about -/
def swR (ρ : Nat → Nat) (n a b : Nat) : Nat → Nat := u1 (u1 ρ (plc ρ b n) a) (plc ρ a n) b
theorem up2_row {μ : Mem} {q p1 p2 a b : Nat} : up (up μ q p1 a) q p2 b = rowM μ q (u1 (u1 (μ q) p1 a) p2 b) := by
  have e : μ = rowM μ q (μ q) := rowM_self.symm
  conv => lhs; rw [e, up_row, up_row]
abbrev kCh (n : Nat) (x9 y9 : Int32) : Nat := if isFl n x9 ∧ isFl n y9 ∧ ¬ x9 = y9 then 0 else 1
set_option maxRecDepth 100000 in
set_option maxHeartbeats 4000000 in
theorem ev_X4_change {G : GX} {x9 y9 : Int32} {μ : Mem} (hE : EI (sh μ 1)) (hP : PI5 (sh μ 1)) : Ev G mX4_change 2 [rf G 0, .int x9, .int y9] μ (PI (OutG 37 (kCh (μ 1 0) x9 y9) (nI (plc (μ 6) y9.toNatClampNeg (μ 1 0))) μ (fun μ' => μ' = rowM μ 6 (swR (μ 6) (μ 1 0) x9.toNatClampNeg y9.toNatClampNeg)))) := by
  refine Ev.of (own := RX4) (n := 0) (by decide) rfl rfl (catOK rfl) (fun X C E => ?_)
  show J G X 0 [some _, some _, some _] [] _
  refine j_aload_n C dX4_change_0 rfl ?_
  refine g4_0 C dX4_change_1 lFX4_10 ?_
  refine j_iload_n C dX4_change_4 rfl ?_
  refine j_iload_n C dX4_change_5 rfl ?_
  refine cVe2 C dX4_change_6 lMX4_105 myX0_canSwap (ev_X0_canSwap isH_1) (by omega) (rc0 isH_1) (Nat.le_of_ble_eq_true rfl) ?_
  first | refine j_if_neB (tgt := 18) C dX4_change_9 (by decide) (fun c_9 => ?_) (fun c_9 => ?_) | refine j_if_neN (tgt := 18) C dX4_change_9 (by decide) (by omega) (fun c_9 => ?_) (fun c_9 => ?_) | refine j_if_ne (tgt := 18) C dX4_change_9 (by decide) (fun c_9 => ?_) (fun c_9 => ?_)
  · have hn : μ 1 0 ≤ 6 := hE.1
    obtain ⟨a9, ha9, rfl⟩ := isFl_E hE c_9.1
    obtain ⟨b9, hb9, rfl⟩ := isFl_E hE c_9.2.1
    have hab : a9 ≠ b9 := fun e => c_9.2.2 (by rw [e])
    obtain ⟨q1, q2, q3⟩ := hP.plc (f := a9) ha9
    obtain ⟨r1, r2, r3⟩ := hP.plc (f := b9) hb9
    have q1 : plc (μ 6) a9 (μ 1 0) < μ 1 0 := q1
    have r1 : plc (μ 6) b9 (μ 1 0) < μ 1 0 := r1
    have q2 : μ 6 (plc (μ 6) a9 (μ 1 0)) = a9 := q2
    have r2 : μ 6 (plc (μ 6) b9 (μ 1 0)) = b9 := r2
    have hpq : plc (μ 6) b9 (μ 1 0) ≠ plc (μ 6) a9 (μ 1 0) := fun e => hab (by rw [← q2, ← r2, e])
    have hsw : ∀ i, swR (μ 6) (μ 1 0) a9 b9 i = if i = plc (μ 6) a9 (μ 1 0) then b9 else if i = plc (μ 6) b9 (μ 1 0) then a9 else μ 6 i := fun i => rfl
    refine j_aload_n C dX4_change_18 rfl ?_
    refine g4_0 C dX4_change_19 lFX4_10 ?_
    refine j_iload_n C dX4_change_22 rfl ?_
    refine j_iload_n C dX4_change_23 rfl ?_
    refine cVv2 C dX4_change_24 lMX4_109 myX0_swap (ev_X0_swap isH_1 hn hP.1 q1 r1 q2 r2 (by omega) (by omega) q3 r3) (by omega) (rc0 isH_1) (Nat.le_of_ble_eq_true rfl) (fun μ_24 hv_24 => ?_)
    have e24 : μ_24 = rowM μ 6 (swR (μ 6) (μ 1 0) a9 b9) := by rw [hv_24, show (1 + 5 : Nat) = 6 from rfl, up2_row]; rfl
    have m1 : μ_24 1 0 = μ 1 0 := by rw [e24, rowM_ne (by decide)]
    have m6 : μ_24 6 = swR (μ 6) (μ 1 0) a9 b9 := by rw [e24, rowM_at]
    refine j_aload_n C dX4_change_27 rfl ?_
    refine g4_0 C dX4_change_28 lFX4_10 ?_
    refine j_iload_n C dX4_change_31 rfl ?_
    refine cVe1 C dX4_change_32 lMX4_99 myX0_placeOf (ev_X0_placeOf (p := plc (μ 6) b9 (μ 1 0)) isH_1 (by rw [m1]; exact hn) (by
        intro i hi
        rw [m1] at hi ⊢
        show μ_24 6 i < μ 1 0
        rw [m6, hsw]
        have : μ 6 i < μ 1 0 := hP.1 i hi
        (repeat' split) <;> omega) (by omega) (by rw [m1]; exact r1) (by
        show μ_24 6 _ = _
        rw [m6, hsw, if_neg hpq, if_pos rfl]) (by
        intro j hj
        show ¬ μ_24 6 j = a9
        rw [m6, hsw]
        by_cases e1 : j = plc (μ 6) a9 (μ 1 0)
        · rw [if_pos e1]; omega
        · rw [if_neg e1, if_neg (by omega)]
          intro e2
          exact e1 (hP.2.1 j _ (show j < μ 1 0 by omega) q1 (e2.trans q2.symm)))) (by omega) (rc0 isH_1) (Nat.le_of_ble_eq_true rfl) ?_
    exact j_iret C E dX4_change_35 (outG_ok (if_pos c_9) (by rw [cl (by omega)]) (by rw [cl (by omega), cl (by omega)]; exact e24))
  · refine j_aload_n C dX4_change_12 rfl ?_
    refine j_iconst (v := (-1)) C dX4_change_13 (by decide) ?_
    refine cVe1 C dX4_change_14 lMX4_64 myX4_refuse (ev_X4_refuse (k := 1) (by decide) (by decide)) (by omega) rc4 (Nat.le_of_ble_eq_true rfl) ?_
    exact j_iret C E dX4_change_17 (outG_no (j := 1) (if_neg c_9) (by decide) (by decide))
