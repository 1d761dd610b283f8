-- THE REFERENCE: what it is asked, one by one
theorem isFl_w10 {x : Int32} : (nI 0 ≤ x ∧ x ≤ nI 9) ↔ (0 ≤ x ∧ x < nI 10) := by
  have h0 : (nI 0).toInt = 0 := rfl
  have h00 : (0 : Int32).toInt = 0 := rfl
  have h9 : (nI 9).toInt = 9 := rfl
  have h10 : (nI 10).toInt = 10 := rfl
  rw [Int32.le_iff_toInt_le, Int32.le_iff_toInt_le, Int32.le_iff_toInt_le, Int32.lt_iff_toInt_lt, h0, h9, h10, h00]
  omega
theorem nz_b {p : Prop} [Decidable p] : narrow .boolean (.int (b2i p)) = .int (b2i p) := by unfold b2i; by_cases c : p; (rw [if_pos c]; rfl); rw [if_neg c]; rfl
theorem isM_E {μ : Mem} {x : Int32} (hE : EI (sh μ 38)) (h : 0 ≤ x ∧ x < nI (μ 38 0)) : ∃ j, j < μ 38 0 ∧ x = nI j := fl_of (by have : μ 38 0 ≤ 6 := hE.1; omega) h
theorem isFl_w {n : Nat} {x : Int32} (hn : n ≤ 6) : (nI 0 ≤ x ∧ x ≤ nI n - nI 1) ↔ isFl n x := by
  have h0 : (nI 0).toInt = 0 := rfl
  have h00 : (0 : Int32).toInt = 0 := rfl
  have h1 : (nI n - nI 1).toInt = (n : Int) - 1 := by
    rw [Int32.toInt_sub, nI_toInt (by omega), nI_toInt (by decide)]
    exact Int.bmod_eq_of_le (by omega) (by omega)
  unfold isFl
  rw [Int32.le_iff_toInt_le, Int32.le_iff_toInt_le, Int32.le_iff_toInt_le, Int32.lt_iff_toInt_lt, h0, h1, h00, nI_toInt (by omega)]
  omega
set_option maxRecDepth 100000 in
set_option maxHeartbeats 4000000 in
theorem ev_X5_no {G : GX} {x : Int32} {k : Nat} {μ : Mem} (hx : -x = nI k) (hk : k < 7) : Ev G mX5_no 0 [rf G 38, .int x] μ (PIe x (up μ 55 k (μ 55 k + 1))) := by
  refine Ev.of (own := RX5) (n := 0) (by decide) rfl rfl (catOK rfl) (fun X C E => ?_)
  show J G X 0 [some _, some _] [] _
  refine j_aload_n C dX5_no_0 rfl ?_
  refine g5_22 C dX5_no_1 lFX5_58 ?_
  refine j_iload_n C dX5_no_4 rfl ?_
  refine j_ineg C dX5_no_5 ?_
  refine J.top hx ?_
  refine j_dup2 C dX5_no_6 rfl rfl ?_
  refine j_iald C dX5_no_7 iA_55 (by omega) ?_
  refine j_iconst (v := nI 1) C dX5_no_8 (by decide) ?_
  first | refine j_iaddN C dX5_no_9 ?_ | refine j_iadd C dX5_no_9 ?_
  refine j_iast C dX5_no_10 iA_55 (by omega) ?_
  refine j_iload_n C dX5_no_11 rfl ?_
  exact j_iret C E dX5_no_12 ⟨rfl, rfl⟩
set_option maxRecDepth 100000 in
set_option maxHeartbeats 4000000 in
theorem ev_X5_noFar {G : GX} {x : Int32} {k : Nat} {μ : Mem} (hx : -x = nI k) (hk : k < 7) : Ev G mX5_noFar 1 [rf G 38, .int x] μ (PL (fun v μ' => v = 4000000000000000000 - x.toInt64 ∧ μ' = up μ 55 k (μ 55 k + 1))) := by
  refine Ev.of (own := RX5) (n := 0) (by decide) rfl rfl (catOK rfl) (fun X C E => ?_)
  show J G X 0 [some _, some _] [] _
  refine j_ldc2 (v := 4000000000000000000) C dX5_noFar_0 lCX5_73 ?_
  refine j_aload_n C dX5_noFar_3 rfl ?_
  refine j_iload_n C dX5_noFar_4 rfl ?_
  refine cVe1 C dX5_noFar_5 lMX5_75 myX5_no (ev_X5_no hx hk) (by omega) rc5 (Nat.le_of_ble_eq_true rfl) ?_
  refine j_i2l C dX5_noFar_8 ?_
  refine j_lsub C dX5_noFar_9 ?_
  exact j_lret C E dX5_noFar_10 ⟨_, rfl, rfl, rfl⟩
set_option maxRecDepth 100000 in
set_option maxHeartbeats 4000000 in
theorem ev_X5_within {G : GX} {x y z : Int32} {μ : Mem} : Ev G mX5_within 0 [.int x, .int y, .int z] μ (PIe (b2i (y ≤ x ∧ x ≤ z)) μ) := by
  refine Ev.of (own := RX5) (n := 0) (by decide) rfl rfl (catOK rfl) (fun X C E => ?_)
  show J G X 0 [some _, some _, some _] [] _
  refine j_iload_n C dX5_within_0 rfl ?_
  refine j_iload_n C dX5_within_1 rfl ?_
  refine j_icmp_lt (tgt := 14) C dX5_within_2 (by decide) (fun c_2 => ?_) (fun c_2 => ?_)
  · refine j_iconst (v := nI 0) C dX5_within_14 (by decide) ?_
    exact j_zret C E dX5_within_15 rfl (by first | exact ret_t (And.intro (Int32.not_lt.mp c_2) (Int32.not_lt.mp c_7)) | exact ret_f (fun q => absurd q.1 (Int32.not_le.mpr c_2)) | exact ret_f (fun q => absurd q.2 (Int32.not_le.mpr c_7)))
  · refine j_iload_n C dX5_within_5 rfl ?_
    refine j_iload_n C dX5_within_6 rfl ?_
    refine j_icmp_gt (tgt := 14) C dX5_within_7 (by decide) (fun c_7 => ?_) (fun c_7 => ?_)
    · refine j_iconst (v := nI 0) C dX5_within_14 (by decide) ?_
      exact j_zret C E dX5_within_15 rfl (by first | exact ret_t (And.intro (Int32.not_lt.mp c_2) (Int32.not_lt.mp c_7)) | exact ret_f (fun q => absurd q.1 (Int32.not_le.mpr c_2)) | exact ret_f (fun q => absurd q.2 (Int32.not_le.mpr c_7)))
    · refine j_iconst (v := nI 1) C dX5_within_10 (by decide) ?_
      refine j_goto (tgt := 15) C dX5_within_11 (by decide) ?_
      exact j_zret C E dX5_within_15 rfl (by first | exact ret_t (And.intro (Int32.not_lt.mp c_2) (Int32.not_lt.mp c_7)) | exact ret_f (fun q => absurd q.1 (Int32.not_le.mpr c_2)) | exact ret_f (fun q => absurd q.2 (Int32.not_le.mpr c_7)))
set_option maxRecDepth 100000 in
set_option maxHeartbeats 4000000 in
theorem ev_X5_isFloor {G : GX} {x : Int32} {μ : Mem} (hn : μ 38 0 ≤ 6) : Ev G mX5_isFloor 1 [rf G 38, .int x] μ (PIe (b2i (isFl (μ 38 0) x)) μ) := by
  refine Ev.of (own := RX5) (n := 0) (by decide) rfl rfl (catOK rfl) (fun X C E => ?_)
  show J G X 0 [some _, some _] [] _
  refine j_iload_n C dX5_isFloor_0 rfl ?_
  refine j_iconst (v := nI 0) C dX5_isFloor_1 (by decide) ?_
  refine j_aload_n C dX5_isFloor_2 rfl ?_
  refine g5_0 C dX5_isFloor_3 lFX5_79 ?_
  refine j_iconst (v := nI 1) C dX5_isFloor_6 (by decide) ?_
  refine j_isub C dX5_isFloor_7 ?_
  refine cSe3 C dX5_isFloor_8 lMX5_83 myX5_within (ev_X5_within) (by omega) (Nat.le_of_ble_eq_true rfl) ?_
  refine J.top (b2i_mo (q := isFl (μ 38 0) x) (isFl_w hn)) ?_
  exact j_zret C E dX5_isFloor_11 nz_b ⟨rfl, rfl⟩
set_option maxRecDepth 100000 in
set_option maxHeartbeats 4000000 in
theorem ev_X5_letter {G : GX} {x9 : Int32} {μ : Mem} (hl : μ 38 16 ≤ 96) : Ev G mX5_letter 1 [rf G 38, .int x9] μ (PI (OutG 55 (kLe (μ 38 16) x9) (nI (μ 38 16 + 1)) μ (fun μ' => μ' = up (up μ 38 16 (μ 38 16 + 1)) 52 (μ 38 16) x9.toNatClampNeg))) := by
  refine Ev.of (own := RX5) (n := 0) (by decide) rfl rfl (catOK rfl) (fun X C E => ?_)
  show J G X 0 [some _, some _] [] _
  refine j_iload_n C dX5_letter_0 rfl ?_
  refine j_if_ge (tgt := 11) C dX5_letter_1 (by decide) (fun c_1 => ?_) (fun c_1 => ?_)
  · refine j_iload_n C dX5_letter_11 rfl ?_
    refine j_sipush (v := nI 255) C dX5_letter_12 (by decide) ?_
    refine j_icmp_gt (tgt := 27) C dX5_letter_15 (by decide) (fun c_15 => ?_) (fun c_15 => ?_)
    · refine j_aload_n C dX5_letter_27 rfl ?_
      refine j_bipush (v := (-6)) C dX5_letter_28 (by decide) ?_
      refine cVe1 C dX5_letter_30 lMX5_75 myX5_no (ev_X5_no (k := 6) (by decide) (by decide)) (by omega) rc5 (Nat.le_of_ble_eq_true rfl) ?_
      exact j_iret C E dX5_letter_33 (by first | exact outG_no (j := 6) (by rw [kLe, if_neg (Int32.not_lt.mpr c_1), if_pos (Or.inl c_15)]) (by decide) (by decide) | exact outG_no (j := 6) (by rw [kLe, if_neg (Int32.not_lt.mpr c_1), if_pos (Or.inr (by omega))]) (by decide) (by decide))
    · obtain ⟨a9, ha9, rfl⟩ := nI_of2 (n := 255) (M := nI 255) (x := x9) (by decide) (Int32.not_lt.mpr c_1) (Int32.not_lt.mp c_15)
      refine j_aload_n C dX5_letter_18 rfl ?_
      refine g5_16 C dX5_letter_19 lFX5_87 ?_
      refine j_bipush (v := nI 96) C dX5_letter_22 (by decide) ?_
      first | refine j_icmp_neN (tgt := 34) C dX5_letter_24 (by decide) (by omega) (by omega) (fun c_24 => ?_) (fun c_24 => ?_) | refine j_icmp_ne (tgt := 34) C dX5_letter_24 (by decide) (fun c_24 => ?_) (fun c_24 => ?_)
      · refine j_aload_n C dX5_letter_34 rfl ?_
        refine g5_17 C dX5_letter_35 lFX5_49 ?_
        refine j_aload_n C dX5_letter_38 rfl ?_
        refine j_dup C dX5_letter_39 rfl ?_
        refine g5_16 C dX5_letter_40 lFX5_87 ?_
        refine j_dup_x1 C dX5_letter_43 rfl rfl ?_
        refine j_iconst (v := nI 1) C dX5_letter_44 (by decide) ?_
        first | refine j_iaddN C dX5_letter_45 ?_ | refine j_iadd C dX5_letter_45 ?_
        refine p5_16 C dX5_letter_46 lFX5_87 ?_
        refine j_iload_n C dX5_letter_49 rfl ?_
        refine j_iast C dX5_letter_50 iA_52 (by omega) ?_
        refine j_aload_n C dX5_letter_51 rfl ?_
        refine g5_16 C dX5_letter_52 lFX5_87 ?_
        refine J.top (y := nI (μ 38 16 + 1)) (by rw [up_ne (by decide), up_at]) ?_
        exact j_iret C E dX5_letter_55 (outG_ok (by rw [kLe, if_neg (Int32.not_lt.mpr c_1), if_neg (fun q => q.elim c_15 (fun q => absurd q (by omega)))]) rfl (by rw [cl (by omega)]))
      · refine j_aload_n C dX5_letter_27 rfl ?_
        refine j_bipush (v := (-6)) C dX5_letter_28 (by decide) ?_
        refine cVe1 C dX5_letter_30 lMX5_75 myX5_no (ev_X5_no (k := 6) (by decide) (by decide)) (by omega) rc5 (Nat.le_of_ble_eq_true rfl) ?_
        exact j_iret C E dX5_letter_33 (by first | exact outG_no (j := 6) (by rw [kLe, if_neg (Int32.not_lt.mpr c_1), if_pos (Or.inl c_15)]) (by decide) (by decide) | exact outG_no (j := 6) (by rw [kLe, if_neg (Int32.not_lt.mpr c_1), if_pos (Or.inr (by omega))]) (by decide) (by decide))
  · refine j_aload_n C dX5_letter_4 rfl ?_
    refine j_bipush (v := (-4)) C dX5_letter_5 (by decide) ?_
    refine cVe1 C dX5_letter_7 lMX5_75 myX5_no (ev_X5_no (k := 4) (by decide) (by decide)) (by omega) rc5 (Nat.le_of_ble_eq_true rfl) ?_
    exact j_iret C E dX5_letter_10 (outG_no (j := 4) (if_pos (Int32.not_le.mp c_1)) (by decide) (by decide))
set_option maxRecDepth 100000 in
set_option maxHeartbeats 4000000 in
theorem ev_X5_placeOf {G : GX} {f9 p9 : Nat} {μ : Mem} (hov : ∀ i, i ≤ p9 → μ 43 i < 6) (hf : f9 < 6) (hp : p9 < 6) (hpf : μ 43 p9 = f9) (hpm : ∀ j, j < p9 → ¬ μ 43 j = f9) : Ev G mX5_placeOf 0 [rf G 38, .int (nI f9)] μ (PIe (nI p9) μ) := by
  refine Ev.of (own := RX5) (n := 1) (by decide) rfl rfl (catOK rfl) (fun X C E => ?_)
  show J G X 0 [some _, some _, none] [] _
  have loop : ∀ k i9, i9 + k = p9 → J G X 2 [some (rf G 38), some (.int (nI f9)), some (.int (nI i9))] [] μ := by
    intro k
    induction k with
    | zero =>
      intro i9 hi
      refine j_aload_n C dX5_placeOf_2 rfl ?_
      refine g5_5 C dX5_placeOf_3 lFX5_22 ?_
      refine j_iload_n C dX5_placeOf_6 rfl ?_
      have ho9 := hov i9 (by omega)
      refine j_iald C dX5_placeOf_7 iA_43 (by omega) ?_
      refine j_iload_n C dX5_placeOf_8 rfl ?_
      first | refine j_icmp_eqN (tgt := 18) C dX5_placeOf_9 (by decide) (by omega) (by omega) (fun c_9 => ?_) (fun c_9 => ?_) | refine j_icmp_eq (tgt := 18) C dX5_placeOf_9 (by decide) (fun c_9 => ?_) (fun c_9 => ?_)
      · refine j_iload_n C dX5_placeOf_18 rfl ?_
        exact j_iret C E dX5_placeOf_19 (ret_e (by omega))
      · exact absurd (show μ 43 i9 = f9 by rw [show i9 = p9 by omega]; exact hpf) c_9
    | succ k ih =>
      intro i9 hi
      refine j_aload_n C dX5_placeOf_2 rfl ?_
      refine g5_5 C dX5_placeOf_3 lFX5_22 ?_
      refine j_iload_n C dX5_placeOf_6 rfl ?_
      have ho9 := hov i9 (by omega)
      refine j_iald C dX5_placeOf_7 iA_43 (by omega) ?_
      refine j_iload_n C dX5_placeOf_8 rfl ?_
      first | refine j_icmp_eqN (tgt := 18) C dX5_placeOf_9 (by decide) (by omega) (by omega) (fun c_9 => ?_) (fun c_9 => ?_) | refine j_icmp_eq (tgt := 18) C dX5_placeOf_9 (by decide) (fun c_9 => ?_) (fun c_9 => ?_)
      · exact absurd c_9 (hpm i9 (by omega))
      · first | refine in2 C dX5_placeOf_12 (nI_1 _) rfl ?_ | refine in2 C dX5_placeOf_12 rfl rfl ?_
        refine j_goto (tgt := 2) C dX5_placeOf_15 (by decide) ?_
        exact ih (i9 + 1) (by omega)
  refine j_iconst (v := nI 0) C dX5_placeOf_0 (by decide) ?_
  refine sn2 C dX5_placeOf_1 rfl ?_
  exact loop p9 0 (by omega)
theorem ev_X5_plc {G : GX} {f9 : Nat} {μ : Mem} (hE : EI (sh μ 38)) (hP : PI5 (sh μ 38)) (hf : f9 < μ 38 0) : Ev G mX5_placeOf 0 [rf G 38, .int (nI f9)] μ (PIe (nI (plc (μ 43) f9 (μ 38 0))) μ) := by
  have hn : μ 38 0 ≤ 6 := hE.1
  obtain ⟨q1, q2, q3⟩ := hP.plc (f := f9) hf
  have q1 : plc (μ 43) f9 (μ 38 0) < μ 38 0 := q1
  have hO : ∀ i, i < μ 38 0 → μ 43 i < μ 38 0 := hP.1
  exact ev_X5_placeOf (fun i hi => by have := hO i (by have : plc (μ 43) f9 (μ 38 0) < μ 38 0 := q1; omega); omega) (by omega) (by omega) q2 q3
theorem swu9_1 {ρ : Nat → Nat} {p q a b : Nat} (h : q ≠ p) : u1 (u1 ρ p b) q a = u1 (u1 ρ q a) p b := by
  funext i
  unfold u1
  by_cases e1 : i = p <;> by_cases e2 : i = q
  · omega
  · rw [if_neg e2, if_pos e1, if_pos e1]
  · rw [if_pos e2, if_neg e1, if_pos e2]
  · rw [if_neg e2, if_neg e1, if_neg e1, if_neg e2]
set_option maxRecDepth 100000 in
set_option maxHeartbeats 4000000 in
theorem ev_X5_swap {G : GX} {a9 b9 : Nat} {μ : Mem} (hE : EI (sh μ 38)) (hP : PI5 (sh μ 38)) (ha : a9 < μ 38 0) (hb : b9 < μ 38 0) (hab : a9 ≠ b9) : Ev G mX5_swap 1 [rf G 38, .int (nI a9), .int (nI b9)] μ (PIe (nI (plc (μ 43) b9 (μ 38 0))) (rowM μ 43 (swR (μ 43) (μ 38 0) a9 b9))) := by
  refine Ev.of (own := RX5) (n := 2) (by decide) rfl rfl (catOK rfl) (fun X C E => ?_)
  show J G X 0 [some _, some _, some _, none, none] [] _
  have hn : μ 38 0 ≤ 6 := hE.1
  obtain ⟨q1, q2, q3⟩ := hP.plc (f := a9) ha
  obtain ⟨r1, r2, r3⟩ := hP.plc (f := b9) hb
  have q1 : plc (μ 43) a9 (μ 38 0) < μ 38 0 := q1
  have r1 : plc (μ 43) b9 (μ 38 0) < μ 38 0 := r1
  have q2 : μ 43 (plc (μ 43) a9 (μ 38 0)) = a9 := q2
  have r2 : μ 43 (plc (μ 43) b9 (μ 38 0)) = b9 := r2
  have hpq : plc (μ 43) b9 (μ 38 0) ≠ plc (μ 43) a9 (μ 38 0) := fun e => hab (by rw [← q2, ← r2, e])
  refine j_aload_n C dX5_swap_0 rfl ?_
  refine j_iload_n C dX5_swap_1 rfl ?_
  refine cVe1 C dX5_swap_2 lMX5_129 myX5_placeOf (ev_X5_plc hE hP ha) (by omega) rc5 (Nat.le_of_ble_eq_true rfl) ?_
  refine sn3 C dX5_swap_5 rfl ?_
  refine j_aload_n C dX5_swap_6 rfl ?_
  refine j_iload_n C dX5_swap_7 rfl ?_
  refine cVe1 C dX5_swap_8 lMX5_129 myX5_placeOf (ev_X5_plc hE hP hb) (by omega) rc5 (Nat.le_of_ble_eq_true rfl) ?_
  refine sl4 C dX5_swap_11 rfl ?_
  refine j_aload_n C dX5_swap_13 rfl ?_
  refine g5_5 C dX5_swap_14 lFX5_22 ?_
  refine j_iload_n C dX5_swap_17 rfl ?_
  refine j_iload_n C dX5_swap_18 rfl ?_
  refine j_iast C dX5_swap_19 iA_43 (by omega) ?_
  refine j_aload_n C dX5_swap_20 rfl ?_
  refine g5_5 C dX5_swap_21 lFX5_22 ?_
  refine j_iload C dX5_swap_24 rfl ?_
  refine j_iload_n C dX5_swap_26 rfl ?_
  refine j_iast C dX5_swap_27 iA_43 (by omega) ?_
  refine J.mem (show _ = rowM μ 43 (swR (μ 43) (μ 38 0) a9 b9) from by rw [up2_row, swu9_1 hpq]; rfl) ?_
  refine j_iload C dX5_swap_28 rfl ?_
  exact j_iret C E dX5_swap_30 ⟨rfl, rfl⟩
set_option maxRecDepth 100000 in
set_option maxHeartbeats 4000000 in
theorem ev_X5_story {G : GX} {x y : Int32} {μ : Mem} (hE : EI (sh μ 38)) (hP : PI5 (sh μ 38)) : Ev G mX5_story 2 [rf G 38, .int x, .int y] μ (PI (OutM (kSt (μ 38 0) x y) (stW (sh μ 38) x.toNatClampNeg y) μ)) := by
  refine Ev.of (own := RX5) (n := 0) (by decide) rfl rfl (catOK rfl) (fun X C E => ?_)
  show J G X 0 [some _, some _, some _] [] _
  have hn : μ 38 0 ≤ 6 := hE.1
  refine j_aload_n C dX5_story_0 rfl ?_
  refine j_iload_n C dX5_story_1 rfl ?_
  refine cVe1 C dX5_story_2 lMX5_111 myX5_isFloor (ev_X5_isFloor (by omega)) (by omega) rc5 (Nat.le_of_ble_eq_true rfl) ?_
  first | refine j_if_neB (tgt := 14) C dX5_story_5 (by decide) (fun c_5 => ?_) (fun c_5 => ?_) | refine j_if_neN (tgt := 14) C dX5_story_5 (by decide) (by omega) (fun c_5 => ?_) (fun c_5 => ?_) | refine j_if_ne (tgt := 14) C dX5_story_5 (by decide) (fun c_5 => ?_) (fun c_5 => ?_)
  · obtain ⟨j9, hj, rfl⟩ := isM_E hE c_5
    refine j_iload_n C dX5_story_14 rfl ?_
    rcases in04 y with ⟨y0, y4, rfl | rfl | rfl | rfl | rfl⟩ | ⟨yn, yo⟩
    · refine j_tabIn (tgt := 48) C dX5_story_15 (by decide) (by decide) (off := 33) (by decide) (by decide) ?_
      refine j_aload_n C dX5_story_48 rfl ?_
      refine g5_1 C dX5_story_49 lFX5_7 ?_
      refine j_iload_n C dX5_story_52 rfl ?_
      refine j_iald C dX5_story_53 iA_39 (by omega) ?_
      exact j_iret C E dX5_story_54 (by first | exact outM_ok (by rw [kSt, if_pos c_5, if_pos (by decide)]) (by rw [cl (by omega)]; rfl) (KM.refl μ))
    · refine j_tabIn (tgt := 55) C dX5_story_15 (by decide) (by decide) (off := 40) (by decide) (by decide) ?_
      refine j_aload_n C dX5_story_55 rfl ?_
      refine g5_2 C dX5_story_56 lFX5_13 ?_
      refine j_iload_n C dX5_story_59 rfl ?_
      refine j_iald C dX5_story_60 iA_40 (by omega) ?_
      exact j_iret C E dX5_story_61 (by first | exact outM_ok (by rw [kSt, if_pos c_5, if_pos (by decide)]) (by rw [cl (by omega)]; rfl) (KM.refl μ))
    · refine j_tabIn (tgt := 62) C dX5_story_15 (by decide) (by decide) (off := 47) (by decide) (by decide) ?_
      refine j_aload_n C dX5_story_62 rfl ?_
      refine g5_3 C dX5_story_63 lFX5_16 ?_
      refine j_iload_n C dX5_story_66 rfl ?_
      refine j_iald C dX5_story_67 iA_41 (by omega) ?_
      exact j_iret C E dX5_story_68 (by first | exact outM_ok (by rw [kSt, if_pos c_5, if_pos (by decide)]) (by rw [cl (by omega)]; rfl) (KM.refl μ))
    · refine j_tabIn (tgt := 69) C dX5_story_15 (by decide) (by decide) (off := 54) (by decide) (by decide) ?_
      refine j_aload_n C dX5_story_69 rfl ?_
      refine g5_4 C dX5_story_70 lFX5_19 ?_
      refine j_iload_n C dX5_story_73 rfl ?_
      refine j_iald C dX5_story_74 iA_42 (by omega) ?_
      exact j_iret C E dX5_story_75 (by first | exact outM_ok (by rw [kSt, if_pos c_5, if_pos (by decide)]) (by rw [cl (by omega)]; rfl) (KM.refl μ))
    · refine j_tabIn (tgt := 76) C dX5_story_15 (by decide) (by decide) (off := 61) (by decide) (by decide) ?_
      refine j_aload_n C dX5_story_76 rfl ?_
      refine j_iload_n C dX5_story_77 rfl ?_
      refine cVe1 C dX5_story_78 lMX5_129 myX5_placeOf (ev_X5_plc hE hP hj) (by omega) rc5 (Nat.le_of_ble_eq_true rfl) ?_
      exact j_iret C E dX5_story_81 (by first | exact outM_ok (by rw [kSt, if_pos c_5, if_pos (by decide)]) (by rw [cl (by omega)]; rfl) (KM.refl μ))
    · refine j_tabOut (tgt := 82) C dX5_story_15 yo (by decide) ?_
      refine j_aload_n C dX5_story_82 rfl ?_
      refine j_bipush (v := (-2)) C dX5_story_83 (by decide) ?_
      refine cVe1 C dX5_story_85 lMX5_75 myX5_no (ev_X5_no (k := 2) (by decide) (by decide)) (by omega) rc5 (Nat.le_of_ble_eq_true rfl) ?_
      exact j_iret C E dX5_story_88 (outM_no (j := 2) (by rw [kSt, if_pos c_5, if_neg yn]) (by decide) (by decide))
  · refine j_aload_n C dX5_story_8 rfl ?_
    refine j_iconst (v := (-1)) C dX5_story_9 (by decide) ?_
    refine cVe1 C dX5_story_10 lMX5_75 myX5_no (ev_X5_no (k := 1) (by decide) (by decide)) (by omega) rc5 (Nat.le_of_ble_eq_true rfl) ?_
    exact j_iret C E dX5_story_13 (outM_no (j := 1) (if_neg c_5) (by decide) (by decide))
set_option maxRecDepth 100000 in
set_option maxHeartbeats 4000000 in
theorem ev_X5_place {G : GX} {x : Int32} {μ : Mem} (hE : EI (sh μ 38)) (hP : PI5 (sh μ 38)) : Ev G mX5_place 2 [rf G 38, .int x] μ (PI (OutM (kFl (μ 38 0) x) (nI (μ 43 x.toNatClampNeg)) μ)) := by
  refine Ev.of (own := RX5) (n := 0) (by decide) rfl rfl (catOK rfl) (fun X C E => ?_)
  show J G X 0 [some _, some _] [] _
  have hn : μ 38 0 ≤ 6 := hE.1
  refine j_aload_n C dX5_place_0 rfl ?_
  refine j_iload_n C dX5_place_1 rfl ?_
  refine cVe1 C dX5_place_2 lMX5_111 myX5_isFloor (ev_X5_isFloor (by omega)) (by omega) rc5 (Nat.le_of_ble_eq_true rfl) ?_
  first | refine j_if_eqB (tgt := 17) C dX5_place_5 (by decide) (fun c_5 => ?_) (fun c_5 => ?_) | refine j_if_eqN (tgt := 17) C dX5_place_5 (by decide) (by omega) (fun c_5 => ?_) (fun c_5 => ?_) | refine j_if_eq (tgt := 17) C dX5_place_5 (by decide) (fun c_5 => ?_) (fun c_5 => ?_)
  · refine j_aload_n C dX5_place_17 rfl ?_
    refine j_iconst (v := (-1)) C dX5_place_18 (by decide) ?_
    refine cVe1 C dX5_place_19 lMX5_75 myX5_no (ev_X5_no (k := 1) (by decide) (by decide)) (by omega) rc5 (Nat.le_of_ble_eq_true rfl) ?_
    exact j_iret C E dX5_place_22 (by first | exact outM_ok (if_pos c_5) (by rw [cl (by omega)]) (KM.refl μ) | exact outM_no (j := 1) (if_neg c_5) (by decide) (by decide))
  · obtain ⟨j9, hj, rfl⟩ := isM_E hE c_5
    refine j_aload_n C dX5_place_8 rfl ?_
    refine g5_5 C dX5_place_9 lFX5_22 ?_
    refine j_iload_n C dX5_place_12 rfl ?_
    refine j_iald C dX5_place_13 iA_43 (by omega) ?_
    refine j_goto (tgt := 22) C dX5_place_14 (by decide) ?_
    exact j_iret C E dX5_place_22 (by first | exact outM_ok (if_pos c_5) (by rw [cl (by omega)]) (KM.refl μ) | exact outM_no (j := 1) (if_neg c_5) (by decide) (by decide))
set_option maxRecDepth 100000 in
set_option maxHeartbeats 4000000 in
theorem ev_X5_change {G : GX} {x9 y9 : Int32} {μ : Mem} (hE : EI (sh μ 38)) (hP : PI5 (sh μ 38)) : Ev G mX5_change 2 [rf G 38, .int x9, .int y9] μ (PI (OutG 55 (kCh (μ 38 0) x9 y9) (nI (plc (μ 43) y9.toNatClampNeg (μ 38 0))) μ (fun μ' => μ' = rowM μ 43 (swR (μ 43) (μ 38 0) x9.toNatClampNeg y9.toNatClampNeg)))) := by
  refine Ev.of (own := RX5) (n := 0) (by decide) rfl rfl (catOK rfl) (fun X C E => ?_)
  show J G X 0 [some _, some _, some _] [] _
  have hn : μ 38 0 ≤ 6 := hE.1
  refine j_aload_n C dX5_change_0 rfl ?_
  refine j_iload_n C dX5_change_1 rfl ?_
  refine cVe1 C dX5_change_2 lMX5_111 myX5_isFloor (ev_X5_isFloor (by omega)) (by omega) rc5 (Nat.le_of_ble_eq_true rfl) ?_
  first | refine j_if_eqB (tgt := 30) C dX5_change_5 (by decide) (fun c_5 => ?_) (fun c_5 => ?_) | refine j_if_eqN (tgt := 30) C dX5_change_5 (by decide) (by omega) (fun c_5 => ?_) (fun c_5 => ?_) | refine j_if_eq (tgt := 30) C dX5_change_5 (by decide) (fun c_5 => ?_) (fun c_5 => ?_)
  · refine j_aload_n C dX5_change_30 rfl ?_
    refine j_iconst (v := (-1)) C dX5_change_31 (by decide) ?_
    refine cVe1 C dX5_change_32 lMX5_75 myX5_no (ev_X5_no (k := 1) (by decide) (by decide)) (by omega) rc5 (Nat.le_of_ble_eq_true rfl) ?_
    exact j_iret C E dX5_change_35 (by first | exact outG_ok (if_pos c_9) (by rw [cl (by omega)]) (by rw [cl (by omega), cl (by omega)]) | exact outG_no (j := 1) (if_neg (fun q => c_5 q.1)) (by decide) (by decide) | exact outG_no (j := 1) (if_neg (fun q => c_13 q.2.1)) (by decide) (by decide) | exact outG_no (j := 1) (if_neg (fun q => q.2.2 c_18)) (by decide) (by decide))
  · refine j_aload_n C dX5_change_8 rfl ?_
    refine j_iload_n C dX5_change_9 rfl ?_
    refine cVe1 C dX5_change_10 lMX5_111 myX5_isFloor (ev_X5_isFloor (by omega)) (by omega) rc5 (Nat.le_of_ble_eq_true rfl) ?_
    first | refine j_if_eqB (tgt := 30) C dX5_change_13 (by decide) (fun c_13 => ?_) (fun c_13 => ?_) | refine j_if_eqN (tgt := 30) C dX5_change_13 (by decide) (by omega) (fun c_13 => ?_) (fun c_13 => ?_) | refine j_if_eq (tgt := 30) C dX5_change_13 (by decide) (fun c_13 => ?_) (fun c_13 => ?_)
    · refine j_aload_n C dX5_change_30 rfl ?_
      refine j_iconst (v := (-1)) C dX5_change_31 (by decide) ?_
      refine cVe1 C dX5_change_32 lMX5_75 myX5_no (ev_X5_no (k := 1) (by decide) (by decide)) (by omega) rc5 (Nat.le_of_ble_eq_true rfl) ?_
      exact j_iret C E dX5_change_35 (by first | exact outG_ok (if_pos c_9) (by rw [cl (by omega)]) (by rw [cl (by omega), cl (by omega)]) | exact outG_no (j := 1) (if_neg (fun q => c_5 q.1)) (by decide) (by decide) | exact outG_no (j := 1) (if_neg (fun q => c_13 q.2.1)) (by decide) (by decide) | exact outG_no (j := 1) (if_neg (fun q => q.2.2 c_18)) (by decide) (by decide))
    · refine j_iload_n C dX5_change_16 rfl ?_
      refine j_iload_n C dX5_change_17 rfl ?_
      refine j_icmp_eq (tgt := 30) C dX5_change_18 (by decide) (fun c_18 => ?_) (fun c_18 => ?_)
      · refine j_aload_n C dX5_change_30 rfl ?_
        refine j_iconst (v := (-1)) C dX5_change_31 (by decide) ?_
        refine cVe1 C dX5_change_32 lMX5_75 myX5_no (ev_X5_no (k := 1) (by decide) (by decide)) (by omega) rc5 (Nat.le_of_ble_eq_true rfl) ?_
        exact j_iret C E dX5_change_35 (by first | exact outG_ok (if_pos c_9) (by rw [cl (by omega)]) (by rw [cl (by omega), cl (by omega)]) | exact outG_no (j := 1) (if_neg (fun q => c_5 q.1)) (by decide) (by decide) | exact outG_no (j := 1) (if_neg (fun q => c_13 q.2.1)) (by decide) (by decide) | exact outG_no (j := 1) (if_neg (fun q => q.2.2 c_18)) (by decide) (by decide))
      · have c_9 : isFl (μ 38 0) x9 ∧ isFl (μ 38 0) y9 ∧ ¬ x9 = y9 := ⟨c_5, c_13, c_18⟩
        obtain ⟨a9, ha9, rfl⟩ := isM_E hE c_5
        obtain ⟨b9, hb9, rfl⟩ := isM_E hE c_13
        have hab : a9 ≠ b9 := fun e => c_18 (by rw [e])
        refine j_aload_n C dX5_change_21 rfl ?_
        refine j_iload_n C dX5_change_22 rfl ?_
        refine j_iload_n C dX5_change_23 rfl ?_
        refine cVe2 C dX5_change_24 lMX5_114 myX5_swap (ev_X5_swap hE hP ha9 hb9 hab) (by omega) rc5 (Nat.le_of_ble_eq_true rfl) ?_
        refine j_goto (tgt := 35) C dX5_change_27 (by decide) ?_
        exact j_iret C E dX5_change_35 (by first | exact outG_ok (if_pos c_9) (by rw [cl (by omega)]) (by rw [cl (by omega), cl (by omega)]) | exact outG_no (j := 1) (if_neg (fun q => c_5 q.1)) (by decide) (by decide) | exact outG_no (j := 1) (if_neg (fun q => c_13 q.2.1)) (by decide) (by decide) | exact outG_no (j := 1) (if_neg (fun q => q.2.2 c_18)) (by decide) (by decide))
set_option maxRecDepth 100000 in
set_option maxHeartbeats 4000000 in
theorem ev_X5_people {G : GX} {x9 y9 : Int32} {μ : Mem} (hE : EI (sh μ 38)) (hP : PI5 (sh μ 38)) : Ev G mX5_people 2 [rf G 38, .int x9, .int y9] μ (PI (OutG 55 (if isFl (μ 38 0) x9 then (if y9 < nI 1 then 4 else if nI 20 < y9 then 6 else 0) else 1) (nI (μ 41 x9.toNatClampNeg)) μ (fun μ' => μ' = up μ 41 x9.toNatClampNeg y9.toNatClampNeg))) := by
  refine Ev.of (own := RX5) (n := 1) (by decide) rfl rfl (catOK rfl) (fun X C E => ?_)
  show J G X 0 [some _, some _, some _, none] [] _
  have hn : μ 38 0 ≤ 6 := hE.1
  refine j_aload_n C dX5_people_0 rfl ?_
  refine j_iload_n C dX5_people_1 rfl ?_
  refine cVe1 C dX5_people_2 lMX5_111 myX5_isFloor (ev_X5_isFloor (by omega)) (by omega) rc5 (Nat.le_of_ble_eq_true rfl) ?_
  first | refine j_if_neB (tgt := 14) C dX5_people_5 (by decide) (fun c_5 => ?_) (fun c_5 => ?_) | refine j_if_neN (tgt := 14) C dX5_people_5 (by decide) (by omega) (fun c_5 => ?_) (fun c_5 => ?_) | refine j_if_ne (tgt := 14) C dX5_people_5 (by decide) (fun c_5 => ?_) (fun c_5 => ?_)
  · obtain ⟨j9, hj, rfl⟩ := isM_E hE c_5
    refine j_iload_n C dX5_people_14 rfl ?_
    refine j_iconst (v := nI 1) C dX5_people_15 (by decide) ?_
    refine j_icmp_ge (tgt := 26) C dX5_people_16 (by decide) (fun c_19 => ?_) (fun c_19 => ?_)
    · refine j_iload_n C dX5_people_26 rfl ?_
      refine j_bipush (v := nI 20) C dX5_people_27 (by decide) ?_
      refine j_icmp_le (tgt := 39) C dX5_people_29 (by decide) (fun c_32 => ?_) (fun c_32 => ?_)
      · obtain ⟨b9, hb9, rfl⟩ := nI_of2 (n := 20) (M := nI 20) (x := y9) (by decide) (Int32.not_lt.mpr (Int32.le_trans (show (0 : Int32) ≤ nI 1 by decide) c_19)) c_32
        refine j_aload_n C dX5_people_39 rfl ?_
        refine g5_3 C dX5_people_40 lFX5_16 ?_
        refine j_iload_n C dX5_people_43 rfl ?_
        refine j_iald C dX5_people_44 iA_41 (by omega) ?_
        refine sn3 C dX5_people_45 rfl ?_
        refine j_aload_n C dX5_people_46 rfl ?_
        refine g5_3 C dX5_people_47 lFX5_16 ?_
        refine j_iload_n C dX5_people_50 rfl ?_
        refine j_iload_n C dX5_people_51 rfl ?_
        refine j_iast C dX5_people_52 iA_41 (by omega) ?_
        refine j_iload_n C dX5_people_53 rfl ?_
        exact j_iret C E dX5_people_54 (outG_ok (by rw [if_pos c_5, if_neg (Int32.not_lt.mpr c_19), if_neg (Int32.not_lt.mpr c_32)]) (by rw [cl (by omega)]) (by rw [cl (by omega), cl (by omega)]))
      · refine j_aload_n C dX5_people_32 rfl ?_
        refine j_bipush (v := (-6)) C dX5_people_33 (by decide) ?_
        refine cVe1 C dX5_people_35 lMX5_75 myX5_no (ev_X5_no (k := 6) (by decide) (by decide)) (by omega) rc5 (Nat.le_of_ble_eq_true rfl) ?_
        exact j_iret C E dX5_people_38 (outG_no (j := 6) (by rw [if_pos c_5, if_neg (Int32.not_lt.mpr c_19), if_pos (Int32.not_le.mp c_32)]) (by decide) (by decide))
    · refine j_aload_n C dX5_people_19 rfl ?_
      refine j_bipush (v := (-4)) C dX5_people_20 (by decide) ?_
      refine cVe1 C dX5_people_22 lMX5_75 myX5_no (ev_X5_no (k := 4) (by decide) (by decide)) (by omega) rc5 (Nat.le_of_ble_eq_true rfl) ?_
      exact j_iret C E dX5_people_25 (outG_no (j := 4) (by rw [if_pos c_5, if_pos (Int32.not_le.mp c_19)]) (by decide) (by decide))
  · refine j_aload_n C dX5_people_8 rfl ?_
    refine j_iconst (v := (-1)) C dX5_people_9 (by decide) ?_
    refine cVe1 C dX5_people_10 lMX5_75 myX5_no (ev_X5_no (k := 1) (by decide) (by decide)) (by omega) rc5 (Nat.le_of_ble_eq_true rfl) ?_
    exact j_iret C E dX5_people_13 (outG_no (j := 1) (if_neg c_5) (by decide) (by decide))
set_option maxRecDepth 100000 in
set_option maxHeartbeats 4000000 in
theorem ev_X5_mostOf {G : GX} {k9 : Nat} {μ : Mem} (hk : k9 < 10) : Ev G mX5_mostOf 0 [.int (nI k9)] μ (PIe (nI (mostN k9)) μ) := by
  refine Ev.of (own := RX5) (n := 0) (by decide) rfl rfl (catOK rfl) (fun X C E => ?_)
  show J G X 0 [some _] [] _
  refine j_iload_n C dX5_mostOf_0 rfl ?_
  rcases (show k9 = 0 ∨ k9 = 1 ∨ k9 = 2 ∨ k9 = 3 ∨ k9 = 4 ∨ k9 = 5 ∨ k9 = 6 ∨ k9 = 7 ∨ k9 = 8 ∨ k9 = 9 by omega) with rfl | rfl | rfl | rfl | rfl | rfl | rfl | rfl | rfl | rfl
  · refine j_tabIn (tgt := 56) C dX5_mostOf_1 (by decide) (by decide) (off := 55) (by decide) (by decide) ?_
    refine j_bipush (v := nI 40) C dX5_mostOf_56 (by decide) ?_
    exact j_iret C E dX5_mostOf_58 ⟨rfl, rfl⟩
  · refine j_tabIn (tgt := 59) C dX5_mostOf_1 (by decide) (by decide) (off := 58) (by decide) (by decide) ?_
    refine j_bipush (v := nI 99) C dX5_mostOf_59 (by decide) ?_
    exact j_iret C E dX5_mostOf_61 ⟨rfl, rfl⟩
  · refine j_tabIn (tgt := 62) C dX5_mostOf_1 (by decide) (by decide) (off := 61) (by decide) (by decide) ?_
    refine j_bipush (v := nI 60) C dX5_mostOf_62 (by decide) ?_
    exact j_iret C E dX5_mostOf_64 ⟨rfl, rfl⟩
  · refine j_tabIn (tgt := 62) C dX5_mostOf_1 (by decide) (by decide) (off := 61) (by decide) (by decide) ?_
    refine j_bipush (v := nI 60) C dX5_mostOf_62 (by decide) ?_
    exact j_iret C E dX5_mostOf_64 ⟨rfl, rfl⟩
  · refine j_tabIn (tgt := 62) C dX5_mostOf_1 (by decide) (by decide) (off := 61) (by decide) (by decide) ?_
    refine j_bipush (v := nI 60) C dX5_mostOf_62 (by decide) ?_
    exact j_iret C E dX5_mostOf_64 ⟨rfl, rfl⟩
  · refine j_tabIn (tgt := 72) C dX5_mostOf_1 (by decide) (by decide) (off := 71) (by decide) (by decide) ?_
    refine j_bipush (v := nI 9) C dX5_mostOf_72 (by decide) ?_
    exact j_iret C E dX5_mostOf_74 ⟨rfl, rfl⟩
  · refine j_tabIn (tgt := 65) C dX5_mostOf_1 (by decide) (by decide) (off := 64) (by decide) (by decide) ?_
    refine j_iconst (v := nI 1) C dX5_mostOf_65 (by decide) ?_
    exact j_iret C E dX5_mostOf_66 ⟨rfl, rfl⟩
  · refine j_tabIn (tgt := 72) C dX5_mostOf_1 (by decide) (by decide) (off := 71) (by decide) (by decide) ?_
    refine j_bipush (v := nI 9) C dX5_mostOf_72 (by decide) ?_
    exact j_iret C E dX5_mostOf_74 ⟨rfl, rfl⟩
  · refine j_tabIn (tgt := 67) C dX5_mostOf_1 (by decide) (by decide) (off := 66) (by decide) (by decide) ?_
    refine j_iconst (v := nI 2) C dX5_mostOf_67 (by decide) ?_
    exact j_iret C E dX5_mostOf_68 ⟨rfl, rfl⟩
  · refine j_tabIn (tgt := 69) C dX5_mostOf_1 (by decide) (by decide) (off := 68) (by decide) (by decide) ?_
    refine j_bipush (v := nI 20) C dX5_mostOf_69 (by decide) ?_
    exact j_iret C E dX5_mostOf_71 ⟨rfl, rfl⟩
set_option maxRecDepth 100000 in
set_option maxHeartbeats 4000000 in
theorem ev_X5_set {G : GX} {x9 y9 : Int32} {μ : Mem} (hE : EI (sh μ 38)) (hP : PI5 (sh μ 38)) : Ev G mX5_set 1 [rf G 38, .int x9, .int y9] μ (PI (OutG 55 (kSe x9 y9) (nI (μ 44 x9.toNatClampNeg)) μ (fun μ' => μ' = up μ 44 x9.toNatClampNeg y9.toNatClampNeg))) := by
  refine Ev.of (own := RX5) (n := 1) (by decide) rfl rfl (catOK rfl) (fun X C E => ?_)
  show J G X 0 [some _, some _, some _, none] [] _
  refine j_iload_n C dX5_set_0 rfl ?_
  refine j_iconst (v := nI 0) C dX5_set_1 (by decide) ?_
  refine j_bipush (v := nI 9) C dX5_set_2 (by decide) ?_
  refine cSe3 C dX5_set_4 lMX5_83 myX5_within (ev_X5_within) (by omega) (Nat.le_of_ble_eq_true rfl) ?_
  refine J.top (b2i_mo (q := 0 ≤ x9 ∧ x9 < nI 10) (isFl_w10)) ?_
  first | refine j_if_neB (tgt := 17) C dX5_set_7 (by decide) (fun c_7 => ?_) (fun c_7 => ?_) | refine j_if_neN (tgt := 17) C dX5_set_7 (by decide) (by omega) (fun c_7 => ?_) (fun c_7 => ?_) | refine j_if_ne (tgt := 17) C dX5_set_7 (by decide) (fun c_7 => ?_) (fun c_7 => ?_)
  · obtain ⟨a9, ha9, rfl⟩ := fl_of (n := 10) (x := x9) (by decide) c_7
    have h10 := c_7
    have hm := mostN_le a9
    refine j_iload_n C dX5_set_17 rfl ?_
    refine j_if_ge (tgt := 28) C dX5_set_18 (by decide) (fun c_20 => ?_) (fun c_20 => ?_)
    · refine j_iload_n C dX5_set_28 rfl ?_
      refine j_iload_n C dX5_set_29 rfl ?_
      refine cSe1 C dX5_set_30 lMX5_132 myX5_mostOf (ev_X5_mostOf (by omega)) (by omega) (Nat.le_of_ble_eq_true rfl) ?_
      refine j_icmp_le (tgt := 43) C dX5_set_33 (by decide) (fun c_36 => ?_) (fun c_36 => ?_)
      · obtain ⟨b9, hb9, rfl⟩ := nI_of2 (n := mostN a9) (M := nI (mostN a9)) (x := y9) (nI_toInt (by omega)) (Int32.not_lt.mpr c_20) c_36
        refine j_aload_n C dX5_set_43 rfl ?_
        refine g5_6 C dX5_set_44 lFX5_25 ?_
        refine j_iload_n C dX5_set_47 rfl ?_
        refine j_iald C dX5_set_48 iA_44 (by omega) ?_
        refine sn3 C dX5_set_49 rfl ?_
        refine j_aload_n C dX5_set_50 rfl ?_
        refine g5_6 C dX5_set_51 lFX5_25 ?_
        refine j_iload_n C dX5_set_54 rfl ?_
        refine j_iload_n C dX5_set_55 rfl ?_
        refine j_iast C dX5_set_56 iA_44 (by omega) ?_
        refine j_iload_n C dX5_set_57 rfl ?_
        exact j_iret C E dX5_set_58 (outG_ok (by rw [kSe, if_pos h10, if_neg (Int32.not_lt.mpr c_20), cl (by omega), if_neg (Int32.not_lt.mpr c_36)]) (by rw [cl (by omega)]) (by rw [cl (by omega), cl (by omega)]))
      · refine j_aload_n C dX5_set_36 rfl ?_
        refine j_bipush (v := (-6)) C dX5_set_37 (by decide) ?_
        refine cVe1 C dX5_set_39 lMX5_75 myX5_no (ev_X5_no (k := 6) (by decide) (by decide)) (by omega) rc5 (Nat.le_of_ble_eq_true rfl) ?_
        exact j_iret C E dX5_set_42 (outG_no (j := 6) (by rw [kSe, if_pos h10, if_neg (Int32.not_lt.mpr c_20), cl (by omega), if_pos (Int32.not_le.mp c_36)]) (by decide) (by decide))
    · refine j_aload_n C dX5_set_21 rfl ?_
      refine j_bipush (v := (-4)) C dX5_set_22 (by decide) ?_
      refine cVe1 C dX5_set_24 lMX5_75 myX5_no (ev_X5_no (k := 4) (by decide) (by decide)) (by omega) rc5 (Nat.le_of_ble_eq_true rfl) ?_
      exact j_iret C E dX5_set_27 (outG_no (j := 4) (by rw [kSe, if_pos h10, if_pos (Int32.not_le.mp c_20)]) (by decide) (by decide))
  · refine j_aload_n C dX5_set_10 rfl ?_
    refine j_bipush (v := (-2)) C dX5_set_11 (by decide) ?_
    refine cVe1 C dX5_set_13 lMX5_75 myX5_no (ev_X5_no (k := 2) (by decide) (by decide)) (by omega) rc5 (Nat.le_of_ble_eq_true rfl) ?_
    exact j_iret C E dX5_set_16 (outG_no (j := 2) (if_neg c_7) (by decide) (by decide))
set_option maxRecDepth 100000 in
set_option maxHeartbeats 4000000 in
theorem ev_X5_comes {G : GX} {f9 t9 : Nat} {μ : Mem} (hf : f9 < 6) (hk : μ 39 f9 ≤ 5) (hp : μ 41 f9 ≤ 20) (ht : t9 < 2 ^ 30) : Ev G mX5_comes 0 [rf G 38, .int (nI f9), .int (nI t9)] μ (PIe (nI (tComes (μ 39 f9) (μ 41 f9) t9)) μ) := by
  refine Ev.of (own := RX5) (n := 0) (by decide) rfl rfl (catOK rfl) (fun X C E => ?_)
  show J G X 0 [some _, some _, some _] [] _
  refine j_aload_n C dX5_comes_0 rfl ?_
  refine g5_1 C dX5_comes_1 lFX5_7 ?_
  refine j_iload_n C dX5_comes_4 rfl ?_
  refine j_iald C dX5_comes_5 iA_39 (by omega) ?_
  have hkc : μ 39 f9 = 0 ∨ μ 39 f9 = 1 ∨ μ 39 f9 = 2 ∨ μ 39 f9 = 3 ∨ μ 39 f9 = 4 ∨ μ 39 f9 = 5 := by omega
  rcases hkc with hkc | hkc | hkc | hkc | hkc | hkc <;> rw [hkc]
  · refine j_tabOut (tgt := 68) C dX5_comes_6 (by decide) (by decide) ?_
    refine j_aload_n C dX5_comes_68 rfl ?_
    refine g5_3 C dX5_comes_69 lFX5_16 ?_
    refine j_iload_n C dX5_comes_72 rfl ?_
    refine j_iald C dX5_comes_73 iA_41 (by omega) ?_
    exact j_iret C E dX5_comes_74 (ret_e (by unfold tComes; rw [hkc]; (repeat' split) <;> omega))
  · refine j_tabIn (tgt := 40) C dX5_comes_6 (by decide) (by decide) (off := 34) (by decide) (by decide) ?_
    refine j_iload_n C dX5_comes_40 rfl ?_
    refine j_bipush (v := nI 10) C dX5_comes_41 (by decide) ?_
    first | refine j_icmp_geN (tgt := 50) C dX5_comes_43 (by decide) (by omega) (by omega) (fun c_43 => ?_) (fun c_43 => ?_) | refine j_icmp_ge (tgt := 50) C dX5_comes_43 (by decide) (fun c_43 => ?_) (fun c_43 => ?_)
    · refine j_aload_n C dX5_comes_50 rfl ?_
      refine g5_3 C dX5_comes_51 lFX5_16 ?_
      refine j_iload_n C dX5_comes_54 rfl ?_
      refine j_iald C dX5_comes_55 iA_41 (by omega) ?_
      exact j_iret C E dX5_comes_56 (ret_e (by unfold tComes; rw [hkc]; (repeat' split) <;> omega))
    · refine j_iconst (v := nI 0) C dX5_comes_46 (by decide) ?_
      refine j_goto (tgt := 56) C dX5_comes_47 (by decide) ?_
      exact j_iret C E dX5_comes_56 (ret_e (by unfold tComes; rw [hkc]; (repeat' split) <;> omega))
  · refine j_tabIn (tgt := 57) C dX5_comes_6 (by decide) (by decide) (off := 51) (by decide) (by decide) ?_
    refine j_aload_n C dX5_comes_57 rfl ?_
    refine g5_3 C dX5_comes_58 lFX5_16 ?_
    refine j_iload_n C dX5_comes_61 rfl ?_
    refine j_iald C dX5_comes_62 iA_41 (by omega) ?_
    refine j_iconst (v := nI 1) C dX5_comes_63 (by decide) ?_
    first | refine j_iaddN C dX5_comes_64 ?_ | refine j_iadd C dX5_comes_64 ?_
    refine j_iconst (v := nI 2) C dX5_comes_65 (by decide) ?_
    first | refine j_idivN C dX5_comes_66 (by omega) (by omega) (by omega) ?_ | refine j_idiv C dX5_comes_66 (by decide) ?_
    exact j_iret C E dX5_comes_67 (ret_e (by unfold tComes; rw [hkc]; (repeat' split) <;> omega))
  · refine j_tabIn (tgt := 68) C dX5_comes_6 (by decide) (by decide) (off := 62) (by decide) (by decide) ?_
    refine j_aload_n C dX5_comes_68 rfl ?_
    refine g5_3 C dX5_comes_69 lFX5_16 ?_
    refine j_iload_n C dX5_comes_72 rfl ?_
    refine j_iald C dX5_comes_73 iA_41 (by omega) ?_
    exact j_iret C E dX5_comes_74 (ret_e (by unfold tComes; rw [hkc]; (repeat' split) <;> omega))
  · refine j_tabIn (tgt := 57) C dX5_comes_6 (by decide) (by decide) (off := 51) (by decide) (by decide) ?_
    refine j_aload_n C dX5_comes_57 rfl ?_
    refine g5_3 C dX5_comes_58 lFX5_16 ?_
    refine j_iload_n C dX5_comes_61 rfl ?_
    refine j_iald C dX5_comes_62 iA_41 (by omega) ?_
    refine j_iconst (v := nI 1) C dX5_comes_63 (by decide) ?_
    first | refine j_iaddN C dX5_comes_64 ?_ | refine j_iadd C dX5_comes_64 ?_
    refine j_iconst (v := nI 2) C dX5_comes_65 (by decide) ?_
    first | refine j_idivN C dX5_comes_66 (by omega) (by omega) (by omega) ?_ | refine j_idiv C dX5_comes_66 (by decide) ?_
    exact j_iret C E dX5_comes_67 (ret_e (by unfold tComes; rw [hkc]; (repeat' split) <;> omega))
  · refine j_tabIn (tgt := 40) C dX5_comes_6 (by decide) (by decide) (off := 34) (by decide) (by decide) ?_
    refine j_iload_n C dX5_comes_40 rfl ?_
    refine j_bipush (v := nI 10) C dX5_comes_41 (by decide) ?_
    first | refine j_icmp_geN (tgt := 50) C dX5_comes_43 (by decide) (by omega) (by omega) (fun c_43 => ?_) (fun c_43 => ?_) | refine j_icmp_ge (tgt := 50) C dX5_comes_43 (by decide) (fun c_43 => ?_) (fun c_43 => ?_)
    · refine j_aload_n C dX5_comes_50 rfl ?_
      refine g5_3 C dX5_comes_51 lFX5_16 ?_
      refine j_iload_n C dX5_comes_54 rfl ?_
      refine j_iald C dX5_comes_55 iA_41 (by omega) ?_
      exact j_iret C E dX5_comes_56 (ret_e (by unfold tComes; rw [hkc]; (repeat' split) <;> omega))
    · refine j_iconst (v := nI 0) C dX5_comes_46 (by decide) ?_
      refine j_goto (tgt := 56) C dX5_comes_47 (by decide) ?_
      exact j_iret C E dX5_comes_56 (ret_e (by unfold tComes; rw [hkc]; (repeat' split) <;> omega))
set_option maxRecDepth 100000 in
set_option maxHeartbeats 4000000 in
theorem ev_X5_come {G : GX} {x y : Int32} {μ : Mem} (hE : EI (sh μ 38)) (hP : PI5 (sh μ 38)) : Ev G mX5_come 2 [rf G 38, .int x, .int y] μ (PI (OutM (kCo (μ 38 0) x y) (nI (tComes ((sh μ 38) 1 x.toNatClampNeg) ((sh μ 38) 3 x.toNatClampNeg) y.toNatClampNeg)) μ)) := by
  refine Ev.of (own := RX5) (n := 0) (by decide) rfl rfl (catOK rfl) (fun X C E => ?_)
  show J G X 0 [some _, some _, some _] [] _
  have hn : μ 38 0 ≤ 6 := hE.1
  refine j_aload_n C dX5_come_0 rfl ?_
  refine j_iload_n C dX5_come_1 rfl ?_
  refine cVe1 C dX5_come_2 lMX5_111 myX5_isFloor (ev_X5_isFloor (by omega)) (by omega) rc5 (Nat.le_of_ble_eq_true rfl) ?_
  first | refine j_if_neB (tgt := 14) C dX5_come_5 (by decide) (fun c_5 => ?_) (fun c_5 => ?_) | refine j_if_neN (tgt := 14) C dX5_come_5 (by decide) (by omega) (fun c_5 => ?_) (fun c_5 => ?_) | refine j_if_ne (tgt := 14) C dX5_come_5 (by decide) (fun c_5 => ?_) (fun c_5 => ?_)
  · obtain ⟨j9, hj, rfl⟩ := isM_E hE c_5
    refine j_iload_n C dX5_come_14 rfl ?_
    refine j_if_ge (tgt := 25) C dX5_come_15 (by decide) (fun c_18 => ?_) (fun c_18 => ?_)
    · refine j_iload_n C dX5_come_25 rfl ?_
      refine j_sipush (v := nI 999) C dX5_come_26 (by decide) ?_
      refine j_icmp_le (tgt := 41) C dX5_come_29 (by decide) (fun c_32 => ?_) (fun c_32 => ?_)
      · obtain ⟨z9, hz, rfl⟩ := nI_of2 (n := 999) (M := nI 999) (by decide) (Int32.not_lt.mpr c_18) c_32
        have hb := hE.2.1 j9 hj
        refine j_aload_n C dX5_come_41 rfl ?_
        refine j_iload_n C dX5_come_42 rfl ?_
        refine j_iload_n C dX5_come_43 rfl ?_
        refine cVe2 C dX5_come_44 lMX5_135 myX5_comes (ev_X5_comes (by omega) hb.1 hb.2.2.2.1 (by omega)) (by omega) rc5 (Nat.le_of_ble_eq_true rfl) ?_
        exact j_iret C E dX5_come_47 (by first | exact outM_ok (by rw [kCo, if_pos c_5, if_neg (nI_pos (by omega)), if_neg (Int32.not_lt.mpr c_32)]) (by rw [cl (by omega), cl (by omega)]; rfl) (KM.refl μ) | exact outM_no (j := 6) (by rw [kCo, if_pos c_5, if_neg (Int32.not_lt.mpr c_18), if_pos (Int32.not_le.mp c_32)]) (by decide) (by decide))
      · refine j_aload_n C dX5_come_32 rfl ?_
        refine j_bipush (v := (-6)) C dX5_come_33 (by decide) ?_
        refine cVe1 C dX5_come_35 lMX5_75 myX5_no (ev_X5_no (k := 6) (by decide) (by decide)) (by omega) rc5 (Nat.le_of_ble_eq_true rfl) ?_
        refine j_goto (tgt := 47) C dX5_come_38 (by decide) ?_
        exact j_iret C E dX5_come_47 (by first | exact outM_ok (by rw [kCo, if_pos c_5, if_neg (nI_pos (by omega)), if_neg (Int32.not_lt.mpr c_32)]) (by rw [cl (by omega), cl (by omega)]; rfl) (KM.refl μ) | exact outM_no (j := 6) (by rw [kCo, if_pos c_5, if_neg (Int32.not_lt.mpr c_18), if_pos (Int32.not_le.mp c_32)]) (by decide) (by decide))
    · refine j_aload_n C dX5_come_18 rfl ?_
      refine j_bipush (v := (-4)) C dX5_come_19 (by decide) ?_
      refine cVe1 C dX5_come_21 lMX5_75 myX5_no (ev_X5_no (k := 4) (by decide) (by decide)) (by omega) rc5 (Nat.le_of_ble_eq_true rfl) ?_
      exact j_iret C E dX5_come_24 (outM_no (j := 4) (by rw [kCo, if_pos c_5, if_pos (Int32.not_le.mp c_18)]) (by decide) (by decide))
  · refine j_aload_n C dX5_come_8 rfl ?_
    refine j_iconst (v := (-1)) C dX5_come_9 (by decide) ?_
    refine cVe1 C dX5_come_10 lMX5_75 myX5_no (ev_X5_no (k := 1) (by decide) (by decide)) (by omega) rc5 (Nat.le_of_ble_eq_true rfl) ?_
    exact j_iret C E dX5_come_13 (outM_no (j := 1) (if_neg c_5) (by decide) (by decide))
set_option maxRecDepth 100000 in
set_option maxHeartbeats 4000000 in
theorem ev_X5_serves {G : GX} {f9 n9 : Nat} {μ : Mem} (hf : f9 < 6) (hk : μ 39 f9 ≤ 5) (hc : μ 42 f9 ≤ 9) (hn9 : n9 ≤ 20) : Ev G mX5_serves 0 [rf G 38, .int (nI f9), .int (nI n9)] μ (PIe (nI (tServes (μ 39 f9) (μ 42 f9) n9)) μ) := by
  refine Ev.of (own := RX5) (n := 1) (by decide) rfl rfl (catOK rfl) (fun X C E => ?_)
  show J G X 0 [some _, some _, some _, none] [] _
  refine j_iload_n C dX5_serves_0 rfl ?_
  refine j_iconst (v := nI 1) C dX5_serves_1 (by decide) ?_
  first | refine j_iaddN C dX5_serves_2 ?_ | refine j_iadd C dX5_serves_2 ?_
  refine j_iconst (v := nI 2) C dX5_serves_3 (by decide) ?_
  first | refine j_idivN C dX5_serves_4 (by omega) (by omega) (by omega) ?_ | refine j_idiv C dX5_serves_4 (by decide) ?_
  refine j_aload_n C dX5_serves_5 rfl ?_
  refine g5_4 C dX5_serves_6 lFX5_19 ?_
  refine j_iload_n C dX5_serves_9 rfl ?_
  refine j_iald C dX5_serves_10 iA_42 (by omega) ?_
  first | refine j_iaddN C dX5_serves_11 ?_ | refine j_iadd C dX5_serves_11 ?_
  refine sn3 C dX5_serves_12 rfl ?_
  refine j_aload_n C dX5_serves_13 rfl ?_
  refine g5_1 C dX5_serves_14 lFX5_7 ?_
  refine j_iload_n C dX5_serves_17 rfl ?_
  refine j_iald C dX5_serves_18 iA_39 (by omega) ?_
  refine j_iconst (v := nI 3) C dX5_serves_19 (by decide) ?_
  first | refine j_icmp_neN (tgt := 29) C dX5_serves_20 (by decide) (by omega) (by omega) (fun c_20 => ?_) (fun c_20 => ?_) | refine j_icmp_ne (tgt := 29) C dX5_serves_20 (by decide) (fun c_20 => ?_) (fun c_20 => ?_)
  · refine j_aload_n C dX5_serves_29 rfl ?_
    refine g5_1 C dX5_serves_30 lFX5_7 ?_
    refine j_iload_n C dX5_serves_33 rfl ?_
    refine j_iald C dX5_serves_34 iA_39 (by omega) ?_
    refine j_iconst (v := nI 5) C dX5_serves_35 (by decide) ?_
    first | refine j_icmp_neN (tgt := 45) C dX5_serves_36 (by decide) (by omega) (by omega) (fun c_36 => ?_) (fun c_36 => ?_) | refine j_icmp_ne (tgt := 45) C dX5_serves_36 (by decide) (fun c_36 => ?_) (fun c_36 => ?_)
    · refine j_iload_n C dX5_serves_45 rfl ?_
      exact j_iret C E dX5_serves_46 (ret_e (by unfold tServes; (repeat' split) <;> omega))
    · refine j_iload_n C dX5_serves_39 rfl ?_
      refine j_iconst (v := nI 2) C dX5_serves_40 (by decide) ?_
      first | refine j_idivN C dX5_serves_41 (by omega) (by omega) (by omega) ?_ | refine j_idiv C dX5_serves_41 (by decide) ?_
      refine j_goto (tgt := 46) C dX5_serves_42 (by decide) ?_
      exact j_iret C E dX5_serves_46 (ret_e (by unfold tServes; (repeat' split) <;> omega))
  · refine j_iload_n C dX5_serves_23 rfl ?_
    refine j_iconst (v := nI 2) C dX5_serves_24 (by decide) ?_
    first | refine j_iaddN C dX5_serves_25 ?_ | refine j_iadd C dX5_serves_25 ?_
    refine j_goto (tgt := 46) C dX5_serves_26 (by decide) ?_
    exact j_iret C E dX5_serves_46 (ret_e (by unfold tServes; (repeat' split) <;> omega))
set_option maxRecDepth 100000 in
set_option maxHeartbeats 4000000 in
theorem ev_X5_goes {G : GX} {a9 b9 g9 : Nat} {μ : Mem} (ha : a9 ≤ 9) (hb : b9 ≤ 9) (hg : g9 ≤ 1) (hl : μ 44 7 ≤ 9) : Ev G mX5_goes 1 [rf G 38, .int (nI a9), .int (nI b9), .int (nI g9)] μ (PIe (nI (tGoes g9 (μ 44 7) a9 b9)) μ) := by
  refine Ev.of (own := RX5) (n := 0) (by decide) rfl rfl (catOK rfl) (fun X C E => ?_)
  show J G X 0 [some _, some _, some _, some _] [] _
  refine j_iload_n C dX5_goes_0 rfl ?_
  refine j_iload_n C dX5_goes_1 rfl ?_
  first | refine j_icmp_neN (tgt := 7) C dX5_goes_2 (by decide) (by omega) (by omega) (fun c_2 => ?_) (fun c_2 => ?_) | refine j_icmp_ne (tgt := 7) C dX5_goes_2 (by decide) (fun c_2 => ?_) (fun c_2 => ?_)
  · refine j_iload_n C dX5_goes_7 rfl ?_
    first | refine j_if_neB (tgt := 28) C dX5_goes_8 (by decide) (fun c_8 => ?_) (fun c_8 => ?_) | refine j_if_neN (tgt := 28) C dX5_goes_8 (by decide) (by omega) (fun c_8 => ?_) (fun c_8 => ?_) | refine j_if_ne (tgt := 28) C dX5_goes_8 (by decide) (fun c_8 => ?_) (fun c_8 => ?_)
    · refine j_iconst (v := nI 3) C dX5_goes_28 (by decide) ?_
      refine j_iload_n C dX5_goes_29 rfl ?_
      refine j_iload_n C dX5_goes_30 rfl ?_
      refine j_isub C dX5_goes_31 ?_
      refine j_absN C dX5_goes_32 lMX5_138 (by omega) (Nat.le_of_ble_eq_true rfl) (by omega) (by omega) ?_
      first | refine j_imulN C dX5_goes_35 ?_ | refine j_imul C dX5_goes_35 ?_
      exact j_iret C E dX5_goes_36 (ret_e (by unfold tGoes; (repeat' split) <;> first | omega | contradiction))
    · refine j_aload_n C dX5_goes_11 rfl ?_
      refine g5_6 C dX5_goes_12 lFX5_25 ?_
      refine j_bipush (v := nI 7) C dX5_goes_15 (by decide) ?_
      refine j_iald C dX5_goes_17 iA_44 (by omega) ?_
      refine j_iload_n C dX5_goes_18 rfl ?_
      refine j_iload_n C dX5_goes_19 rfl ?_
      refine j_isub C dX5_goes_20 ?_
      refine j_absN C dX5_goes_21 lMX5_138 (by omega) (Nat.le_of_ble_eq_true rfl) (by omega) (by omega) ?_
      first | refine j_iaddN C dX5_goes_24 ?_ | refine j_iadd C dX5_goes_24 ?_
      refine j_goto (tgt := 36) C dX5_goes_25 (by decide) ?_
      exact j_iret C E dX5_goes_36 (ret_e (by unfold tGoes; (repeat' split) <;> first | omega | contradiction))
  · refine j_iconst (v := nI 0) C dX5_goes_5 (by decide) ?_
    exact j_iret C E dX5_goes_6 (ret_e (by unfold tGoes; (repeat' split) <;> first | omega | contradiction))
set_option maxRecDepth 100000 in
set_option maxHeartbeats 4000000 in
theorem ev_X5_going {G : GX} {x y : Int32} {μ : Mem} (hE : EI (sh μ 38)) (hP : PI5 (sh μ 38)) : Ev G mX5_going 2 [rf G 38, .int x, .int y] μ (PI (OutM (kGo x y) (nI (tGoes ((sh μ 38) 6 6) ((sh μ 38) 6 7) x.toNatClampNeg y.toNatClampNeg)) μ)) := by
  refine Ev.of (own := RX5) (n := 0) (by decide) rfl rfl (catOK rfl) (fun X C E => ?_)
  show J G X 0 [some _, some _, some _] [] _
  refine j_iload_n C dX5_going_0 rfl ?_
  refine j_if_lt (tgt := 8) C dX5_going_1 (by decide) (fun c_1 => ?_) (fun c_1 => ?_)
  · refine j_aload_n C dX5_going_8 rfl ?_
    refine j_bipush (v := (-4)) C dX5_going_9 (by decide) ?_
    refine cVe1 C dX5_going_11 lMX5_75 myX5_no (ev_X5_no (k := 4) (by decide) (by decide)) (by omega) rc5 (Nat.le_of_ble_eq_true rfl) ?_
    exact j_iret C E dX5_going_14 (by first | exact outM_no (j := 4) (if_pos (Or.inl c_1)) (by decide) (by decide) | exact outM_no (j := 4) (if_pos (Or.inr (Int32.not_le.mp c_5))) (by decide) (by decide))
  · refine j_iload_n C dX5_going_4 rfl ?_
    refine j_if_ge (tgt := 15) C dX5_going_5 (by decide) (fun c_5 => ?_) (fun c_5 => ?_)
    · refine j_iload_n C dX5_going_15 rfl ?_
      refine j_bipush (v := nI 9) C dX5_going_16 (by decide) ?_
      have n1 : ¬ (x < 0 ∨ y < 0) := fun q => q.elim c_1 (fun q => absurd q (Int32.not_lt.mpr c_5))
      refine j_icmp_gt (tgt := 27) C dX5_going_18 (by decide) (fun c_18 => ?_) (fun c_18 => ?_)
      · refine j_aload_n C dX5_going_27 rfl ?_
        refine j_bipush (v := (-6)) C dX5_going_28 (by decide) ?_
        refine cVe1 C dX5_going_30 lMX5_75 myX5_no (ev_X5_no (k := 6) (by decide) (by decide)) (by omega) rc5 (Nat.le_of_ble_eq_true rfl) ?_
        refine j_goto (tgt := 49) C dX5_going_33 (by decide) ?_
        exact j_iret C E dX5_going_49 (by first | exact outM_ok (by rw [kGo, if_neg n1, if_neg (fun q => q.elim c_18 (fun q => absurd q (Int32.not_lt.mpr c_24)))]) (by rw [cl (by omega), cl (by omega)]; rfl) (KM.refl μ) | exact outM_no (j := 6) (by rw [kGo, if_neg n1, if_pos (Or.inl c_18)]) (by decide) (by decide) | exact outM_no (j := 6) (by rw [kGo, if_neg n1, if_pos (Or.inr (Int32.not_le.mp c_24))]) (by decide) (by decide))
      · refine j_iload_n C dX5_going_21 rfl ?_
        refine j_bipush (v := nI 9) C dX5_going_22 (by decide) ?_
        refine j_icmp_le (tgt := 36) C dX5_going_24 (by decide) (fun c_24 => ?_) (fun c_24 => ?_)
        · obtain ⟨a9, ha9, rfl⟩ := nI_of2 (n := 9) (M := nI 9) (by decide) c_1 (Int32.not_lt.mp c_18)
          obtain ⟨b9, hb9, rfl⟩ := nI_of2 (n := 9) (M := nI 9) (by decide) (Int32.not_lt.mpr c_5) c_24
          refine j_aload_n C dX5_going_36 rfl ?_
          refine j_iload_n C dX5_going_37 rfl ?_
          refine j_iload_n C dX5_going_38 rfl ?_
          refine j_aload_n C dX5_going_39 rfl ?_
          refine g5_6 C dX5_going_40 lFX5_25 ?_
          refine j_bipush (v := nI 6) C dX5_going_43 (by decide) ?_
          refine j_iald C dX5_going_45 iA_44 (by omega) ?_
          refine cVe3 C dX5_going_46 lMX5_143 myX5_goes (ev_X5_goes (by omega) (by omega) hE.set.2.2.2.2.2.2.1 hE.set.2.2.2.2.2.2.2.1) (by omega) rc5 (Nat.le_of_ble_eq_true rfl) ?_
          exact j_iret C E dX5_going_49 (by first | exact outM_ok (by rw [kGo, if_neg n1, if_neg (fun q => q.elim c_18 (fun q => absurd q (Int32.not_lt.mpr c_24)))]) (by rw [cl (by omega), cl (by omega)]; rfl) (KM.refl μ) | exact outM_no (j := 6) (by rw [kGo, if_neg n1, if_pos (Or.inl c_18)]) (by decide) (by decide) | exact outM_no (j := 6) (by rw [kGo, if_neg n1, if_pos (Or.inr (Int32.not_le.mp c_24))]) (by decide) (by decide))
        · refine j_aload_n C dX5_going_27 rfl ?_
          refine j_bipush (v := (-6)) C dX5_going_28 (by decide) ?_
          refine cVe1 C dX5_going_30 lMX5_75 myX5_no (ev_X5_no (k := 6) (by decide) (by decide)) (by omega) rc5 (Nat.le_of_ble_eq_true rfl) ?_
          refine j_goto (tgt := 49) C dX5_going_33 (by decide) ?_
          exact j_iret C E dX5_going_49 (by first | exact outM_ok (by rw [kGo, if_neg n1, if_neg (fun q => q.elim c_18 (fun q => absurd q (Int32.not_lt.mpr c_24)))]) (by rw [cl (by omega), cl (by omega)]; rfl) (KM.refl μ) | exact outM_no (j := 6) (by rw [kGo, if_neg n1, if_pos (Or.inl c_18)]) (by decide) (by decide) | exact outM_no (j := 6) (by rw [kGo, if_neg n1, if_pos (Or.inr (Int32.not_le.mp c_24))]) (by decide) (by decide))
    · refine j_aload_n C dX5_going_8 rfl ?_
      refine j_bipush (v := (-4)) C dX5_going_9 (by decide) ?_
      refine cVe1 C dX5_going_11 lMX5_75 myX5_no (ev_X5_no (k := 4) (by decide) (by decide)) (by omega) rc5 (Nat.le_of_ble_eq_true rfl) ?_
      exact j_iret C E dX5_going_14 (by first | exact outM_no (j := 4) (if_pos (Or.inl c_1)) (by decide) (by decide) | exact outM_no (j := 4) (if_pos (Or.inr (Int32.not_le.mp c_5))) (by decide) (by decide))
/-- which bun one takes: kept k of the iced a, then b, then c -/
def tkV (k a b c : Nat) : Int32 := if k < a then nI 0 else if 0 < b then nI 1 else if 0 < c then nI 2 else -1
set_option maxRecDepth 100000 in
set_option maxHeartbeats 4000000 in
theorem ev_X5_takes {G : GX} {l9 : Nat} {μ : Mem} (hl : l9 ≤ 1) (h0 : μ 45 0 ≤ 200) (h1 : μ 45 1 ≤ 200) (h2 : μ 45 2 ≤ 200) (h9 : μ 44 9 ≤ 20) : Ev G mX5_takes 0 [rf G 38, .int (nI l9)] μ (PIe (tkV (if l9 = 0 then μ 44 9 else 0) (μ 45 0) (μ 45 1) (μ 45 2)) μ) := by
  refine Ev.of (own := RX5) (n := 0) (by decide) rfl rfl (catOK rfl) (fun X C E => ?_)
  show J G X 0 [some _, some _] [] _
  refine j_aload_n C dX5_takes_0 rfl ?_
  refine g5_7 C dX5_takes_1 lFX5_28 ?_
  refine j_iconst (v := nI 0) C dX5_takes_4 (by decide) ?_
  refine j_iald C dX5_takes_5 iA_45 (by omega) ?_
  refine j_iload_n C dX5_takes_6 rfl ?_
  refine j_if_eqN (tgt := 14) C dX5_takes_7 (by decide) (by omega) (fun c_7 => ?_) (fun c_7 => ?_)
  · refine j_aload_n C dX5_takes_14 rfl ?_
    refine g5_6 C dX5_takes_15 lFX5_25 ?_
    refine j_bipush (v := nI 9) C dX5_takes_18 (by decide) ?_
    refine j_iald C dX5_takes_20 iA_44 (by omega) ?_
    first | refine j_icmp_leN (tgt := 26) C dX5_takes_21 (by decide) (by omega) (by omega) (fun c_21 => ?_) (fun c_21 => ?_) | refine j_icmp_le (tgt := 26) C dX5_takes_21 (by decide) (fun c_21 => ?_) (fun c_21 => ?_)
    · refine j_aload_n C dX5_takes_26 rfl ?_
      refine g5_7 C dX5_takes_27 lFX5_28 ?_
      refine j_iconst (v := nI 1) C dX5_takes_30 (by decide) ?_
      refine j_iald C dX5_takes_31 iA_45 (by omega) ?_
      first | refine j_if_leN (tgt := 39) C dX5_takes_32 (by decide) (by omega) (fun c_32 => ?_) (fun c_32 => ?_) | refine j_if_le (tgt := 39) C dX5_takes_32 (by decide) (fun c_32 => ?_) (fun c_32 => ?_)
      · refine j_aload_n C dX5_takes_39 rfl ?_
        refine g5_7 C dX5_takes_40 lFX5_28 ?_
        refine j_iconst (v := nI 2) C dX5_takes_43 (by decide) ?_
        refine j_iald C dX5_takes_44 iA_45 (by omega) ?_
        first | refine j_if_leN (tgt := 52) C dX5_takes_45 (by decide) (by omega) (fun c_45 => ?_) (fun c_45 => ?_) | refine j_if_le (tgt := 52) C dX5_takes_45 (by decide) (fun c_45 => ?_) (fun c_45 => ?_)
        · refine j_iconst (v := (-1)) C dX5_takes_52 (by decide) ?_
          exact j_iret C E dX5_takes_53 (And.intro (by unfold tkV; (repeat' split) <;> first | rfl | omega) rfl)
        · refine j_iconst (v := nI 2) C dX5_takes_48 (by decide) ?_
          refine j_goto (tgt := 53) C dX5_takes_49 (by decide) ?_
          exact j_iret C E dX5_takes_53 (And.intro (by unfold tkV; (repeat' split) <;> first | rfl | omega) rfl)
      · refine j_iconst (v := nI 1) C dX5_takes_35 (by decide) ?_
        refine j_goto (tgt := 53) C dX5_takes_36 (by decide) ?_
        exact j_iret C E dX5_takes_53 (And.intro (by unfold tkV; (repeat' split) <;> first | rfl | omega) rfl)
    · refine j_iconst (v := nI 0) C dX5_takes_24 (by decide) ?_
      exact j_iret C E dX5_takes_25 (And.intro (by unfold tkV; (repeat' split) <;> first | rfl | omega) rfl)
  · refine j_iconst (v := nI 0) C dX5_takes_10 (by decide) ?_
    refine j_goto (tgt := 21) C dX5_takes_11 (by decide) ?_
    first | refine j_icmp_leN (tgt := 26) C dX5_takes_21 (by decide) (by omega) (by omega) (fun c_21 => ?_) (fun c_21 => ?_) | refine j_icmp_le (tgt := 26) C dX5_takes_21 (by decide) (fun c_21 => ?_) (fun c_21 => ?_)
    · refine j_aload_n C dX5_takes_26 rfl ?_
      refine g5_7 C dX5_takes_27 lFX5_28 ?_
      refine j_iconst (v := nI 1) C dX5_takes_30 (by decide) ?_
      refine j_iald C dX5_takes_31 iA_45 (by omega) ?_
      first | refine j_if_leN (tgt := 39) C dX5_takes_32 (by decide) (by omega) (fun c_32 => ?_) (fun c_32 => ?_) | refine j_if_le (tgt := 39) C dX5_takes_32 (by decide) (fun c_32 => ?_) (fun c_32 => ?_)
      · refine j_aload_n C dX5_takes_39 rfl ?_
        refine g5_7 C dX5_takes_40 lFX5_28 ?_
        refine j_iconst (v := nI 2) C dX5_takes_43 (by decide) ?_
        refine j_iald C dX5_takes_44 iA_45 (by omega) ?_
        first | refine j_if_leN (tgt := 52) C dX5_takes_45 (by decide) (by omega) (fun c_45 => ?_) (fun c_45 => ?_) | refine j_if_le (tgt := 52) C dX5_takes_45 (by decide) (fun c_45 => ?_) (fun c_45 => ?_)
        · refine j_iconst (v := (-1)) C dX5_takes_52 (by decide) ?_
          exact j_iret C E dX5_takes_53 (And.intro (by unfold tkV; (repeat' split) <;> first | rfl | omega) rfl)
        · refine j_iconst (v := nI 2) C dX5_takes_48 (by decide) ?_
          refine j_goto (tgt := 53) C dX5_takes_49 (by decide) ?_
          exact j_iret C E dX5_takes_53 (And.intro (by unfold tkV; (repeat' split) <;> first | rfl | omega) rfl)
      · refine j_iconst (v := nI 1) C dX5_takes_35 (by decide) ?_
        refine j_goto (tgt := 53) C dX5_takes_36 (by decide) ?_
        exact j_iret C E dX5_takes_53 (And.intro (by unfold tkV; (repeat' split) <;> first | rfl | omega) rfl)
    · refine j_iconst (v := nI 0) C dX5_takes_24 (by decide) ?_
      exact j_iret C E dX5_takes_25 (And.intro (by unfold tkV; (repeat' split) <;> first | rfl | omega) rfl)
