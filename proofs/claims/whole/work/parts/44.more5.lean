-- THE REFERENCE: more
theorem TM_fl {μ ν : Mem} {a k : Nat} (ha : 1 ≤ a ∧ a ≤ 6) (h : TM μ a k ν) : ν 38 0 = μ 38 0 := by
  have e := h.2.1.1
  rw [sh38_up, sh38_up, up_ne (by omega), up_ne (by omega)] at e
  exact e
theorem tdn_0 {f : Nat → Nat} {m9 had : Nat} : ∀ t, t ≤ had → tdn f m9 had t = 0
  | 0, _ => rfl
  | t + 1, h => by rw [tdn, if_neg (by omega)]
set_option maxRecDepth 100000 in
set_option maxHeartbeats 4000000 in
theorem ev_X5_more {G : GX} {x9 : Int32} {μ : Mem} (hE : EI (sh μ 38)) (hP : PI5 (sh μ 38)) (hz : μ 38 15 = 0) : Ev G mX5_more 3 [rf G 38, .int x9] μ (PI (OutM (kFl (μ 38 0) x9) (nI (tdn (fun v => Tot (up (sh μ 38) 3 x9.toNatClampNeg v) (μ 43) 0 2) (Tot (sh μ 38) (μ 43) 0 2) (μ 41 x9.toNatClampNeg) 20)) μ)) := by
  refine Ev.of (own := RX5) (n := 4) (by decide) rfl rfl (catOK rfl) (fun X C E => ?_)
  show J G X 0 [some _, some _, none, none, none, none] [] _
  have hn : μ 38 0 ≤ 6 := hE.1
  refine j_aload_n C dX5_more_0 rfl ?_
  refine j_iload_n C dX5_more_1 rfl ?_
  refine cVe1 C dX5_more_2 lMX5_111 myX5_isFloor (ev_X5_isFloor (by omega)) (by omega) rc5 (Nat.le_of_ble_eq_true rfl) ?_
  first | refine j_if_neB (tgt := 14) C dX5_more_5 (by decide) (fun c_5 => ?_) (fun c_5 => ?_) | refine j_if_neN (tgt := 14) C dX5_more_5 (by decide) (by omega) (fun c_5 => ?_) (fun c_5 => ?_) | refine j_if_ne (tgt := 14) C dX5_more_5 (by decide) (fun c_5 => ?_) (fun c_5 => ?_)
  · obtain ⟨j9, hj, rfl⟩ := isM_E hE c_5
    have hpb : 1 ≤ (μ 41 j9) ∧ (μ 41 j9) ≤ 20 := by have := hE.2.1 j9 hj; exact ⟨this.2.2.1, this.2.2.2.1⟩
    have hm9 : (Tot (sh μ 38) (μ 43) 0 2) ≤ 100000 := Tot_b hE hP.1
    refine j_aload_n C dX5_more_14 rfl ?_
    refine g5_3 C dX5_more_15 lFX5_16 ?_
    refine j_iload_n C dX5_more_18 rfl ?_
    refine j_iald C dX5_more_19 iA_41 (by omega) ?_
    refine sn2 C dX5_more_20 rfl ?_
    refine j_aload_n C dX5_more_21 rfl ?_
    refine cVv0 C dX5_more_22 lMX5_166 myX5_round (ev_X5_round hE hP.1 hz (Or.inl rfl)) (by omega) rc5 (Nat.le_of_ble_eq_true rfl) (fun μ_22 hv_22 => ?_)
    refine j_aload_n C dX5_more_25 rfl ?_
    refine g5_8 C dX5_more_26 lFX5_31 ?_
    refine j_iconst (v := nI 2) C dX5_more_29 (by decide) ?_
    refine j_iald C dX5_more_30 iA_46 (by omega) ?_
    refine J.top (y := nI (Tot (sh μ 38) (μ 43) 0 2)) (by rw [hv_22.2.2.1 2 (by omega)]) ?_
    refine sn3 C dX5_more_31 rfl ?_
    refine j_iconst (v := nI 0) C dX5_more_32 (by decide) ?_
    refine sl4 C dX5_more_33 rfl ?_
    refine j_iload_n C dX5_more_35 rfl ?_
    refine sl5 C dX5_more_36 rfl ?_
    have hTT : TM μ 3 j9 μ_22 := KM_upa (by omega) hv_22.KM
    have loop : ∀ c v9 b9 ν, v9 + c = 21 → (μ 41 j9) ≤ v9 → TM μ 3 j9 ν → b9 = tdn (fun v => Tot (up (sh μ 38) 3 j9 v) (μ 43) 0 2) (Tot (sh μ 38) (μ 43) 0 2) (μ 41 j9) (v9 - 1) → J G X 38 [some (rf G 38), some (.int (nI j9)), some (.int (nI (μ 41 j9))), some (.int (nI (Tot (sh μ 38) (μ 43) 0 2))), some (.int (nI b9)), some (.int (nI v9))] [] ν := by
      intro c
      induction c with
      | zero =>
        intro v9 b9 ν hvc hv0 hT hb
        refine j_iload C dX5_more_38 rfl ?_
        refine j_bipush (v := nI 21) C dX5_more_40 (by decide) ?_
        first | refine j_icmp_geN (tgt := 79) C dX5_more_42 (by decide) (by omega) (by omega) (fun c_42 => ?_) (fun c_42 => ?_) | refine j_icmp_ge (tgt := 79) C dX5_more_42 (by decide) (fun c_42 => ?_) (fun c_42 => ?_)
        · refine j_aload_n C dX5_more_79 rfl ?_
          refine g5_3 C dX5_more_80 lFX5_16 ?_
          refine j_iload_n C dX5_more_83 rfl ?_
          refine j_iload_n C dX5_more_84 rfl ?_
          refine j_iast C dX5_more_85 iA_41 (by omega) ?_
          refine j_iload C dX5_more_86 rfl ?_
          exact j_iret C E dX5_more_88 (outM_ok (if_pos c_5) (by rw [cl (by omega), hb, show v9 - 1 = 20 by omega]) (TM_back (a := 3) (by omega) hT))
        · exact absurd c_42 (by omega)
      | succ c ih =>
        intro v9 b9 ν hvc hv0 hT hb
        refine j_iload C dX5_more_38 rfl ?_
        refine j_bipush (v := nI 21) C dX5_more_40 (by decide) ?_
        first | refine j_icmp_geN (tgt := 79) C dX5_more_42 (by decide) (by omega) (by omega) (fun c_42 => ?_) (fun c_42 => ?_) | refine j_icmp_ge (tgt := 79) C dX5_more_42 (by decide) (fun c_42 => ?_) (fun c_42 => ?_)
        · exact absurd c_42 (by omega)
        · obtain ⟨w1, w2, w3, w4⟩ := tM (v := v9) hT (Or.inl rfl) (EI_up3 hE (by omega) (by omega)) hP hz
          have hb7 : (fun v => Tot (up (sh μ 38) 3 j9 v) (μ 43) 0 2) v9 ≤ 100000 := Tot_b (EI_up3 hE (by omega) (by omega)) (PI5_up hP (by omega) (by omega)).1
          have hv1 : v9 = (v9 - 1) + 1 := by omega
          have hst : tdn (fun v => Tot (up (sh μ 38) 3 j9 v) (μ 43) 0 2) (Tot (sh μ 38) (μ 43) 0 2) (μ 41 j9) v9 = if (μ 41 j9) < v9 then (if (fun v => Tot (up (sh μ 38) 3 j9 v) (μ 43) 0 2) v9 ≤ (Tot (sh μ 38) (μ 43) 0 2) then v9 - (μ 41 j9) else tdn (fun v => Tot (up (sh μ 38) 3 j9 v) (μ 43) 0 2) (Tot (sh μ 38) (μ 43) 0 2) (μ 41 j9) (v9 - 1)) else 0 := by rw [hv1, tdn, ← hv1]
          have hlo : v9 = (μ 41 j9) → tdn (fun v => Tot (up (sh μ 38) 3 j9 v) (μ 43) 0 2) (Tot (sh μ 38) (μ 43) 0 2) (μ 41 j9) (v9 - 1) = 0 := fun e => tdn_0 _ (by omega)
          refine j_aload_n C dX5_more_45 rfl ?_
          refine g5_3 C dX5_more_46 lFX5_16 ?_
          refine j_iload_n C dX5_more_49 rfl ?_
          refine j_iload C dX5_more_50 rfl ?_
          refine j_iast C dX5_more_52 iA_41 (by omega) ?_
          refine j_aload_n C dX5_more_53 rfl ?_
          refine cVv0 C dX5_more_54 lMX5_166 myX5_round (ev_X5_round w1 w2 w3 (Or.inl rfl)) (by omega) rc5 (Nat.le_of_ble_eq_true rfl) (fun μ_54 hv_54 => ?_)
          obtain ⟨r1, r2, r3⟩ := w4 _ hv_54
          refine j_aload_n C dX5_more_57 rfl ?_
          refine g5_8 C dX5_more_58 lFX5_31 ?_
          refine j_iconst (v := nI 2) C dX5_more_61 (by decide) ?_
          refine j_iald C dX5_more_62 iA_46 (by omega) ?_
          refine J.top (y := nI ((fun v => Tot (up (sh μ 38) 3 j9 v) (μ 43) 0 2) v9)) (by rw [r1 2 (by omega)]) ?_
          refine j_iload_n C dX5_more_63 rfl ?_
          first | refine j_icmp_gtN (tgt := 73) C dX5_more_64 (by decide) (by omega) (by omega) (fun c_64 => ?_) (fun c_64 => ?_) | refine j_icmp_gt (tgt := 73) C dX5_more_64 (by decide) (fun c_64 => ?_) (fun c_64 => ?_)
          · first | refine in5 C dX5_more_73 (nI_1 _) rfl ?_ | refine in5 C dX5_more_73 rfl rfl ?_
            refine j_goto (tgt := 38) C dX5_more_76 (by decide) ?_
            exact ih (v9 + 1) _ _ (by omega) (by omega) r3 (by
              show _ = tdn _ _ _ v9
              rw [hst]
              (repeat' split) <;> omega)
          · refine j_iload C dX5_more_67 rfl ?_
            refine j_iload_n C dX5_more_69 rfl ?_
            first | refine j_isubN C dX5_more_70 (by omega) ?_ | refine j_isub C dX5_more_70 ?_
            refine sl4 C dX5_more_71 rfl ?_
            first | refine in5 C dX5_more_73 (nI_1 _) rfl ?_ | refine in5 C dX5_more_73 rfl rfl ?_
            refine j_goto (tgt := 38) C dX5_more_76 (by decide) ?_
            exact ih (v9 + 1) _ _ (by omega) (by omega) r3 (by
              show _ = tdn _ _ _ v9
              rw [hst]
              (repeat' split) <;> omega)
    exact loop (21 - (μ 41 j9)) (μ 41 j9) 0 _ (by omega) (by omega) hTT (tdn_0 _ (by omega)).symm
  · refine j_aload_n C dX5_more_8 rfl ?_
    refine j_iconst (v := (-1)) C dX5_more_9 (by decide) ?_
    refine cVe1 C dX5_more_10 lMX5_75 myX5_no (ev_X5_no (k := 1) (by decide) (by decide)) (by omega) rc5 (Nat.le_of_ble_eq_true rfl) ?_
    exact j_iret C E dX5_more_13 (outM_no (j := 1) (if_neg c_5) (by decide) (by decide))
