-- THE REFERENCE: lots
/-- all is as it was but the people of floors that there are, what is laid by, and what a round leaves -/
def PM (μ ν : Mem) (σ : Nat → Nat) : Prop := (∀ q, (q < 38 ∨ 51 < q ∨ (38 < q ∧ q < 45)) → q ≠ 41 → q ≠ 57 → ν q = μ q) ∧ ν 57 = σ ∧ (∀ k, k ≠ 14 → ν 38 k = μ 38 k) ∧ ∀ f, μ 38 0 ≤ f → ν 41 f = μ 41 f
theorem PM_beg {μ : Mem} {σ : Nat → Nat} : PM μ (rowM μ 57 σ) σ :=
  ⟨fun q _ _ b => rowM_ne b, rowM_at, fun k _ => congrFun (rowM_ne (by decide)) k, fun f _ => congrFun (rowM_ne (by decide)) f⟩
theorem PM_eq {μ ν : Mem} {σ : Nat → Nat} {z : Int32} {d : Nat} (h : PM μ ν σ) (hp : ∀ f, f < μ 38 0 → ν 41 f = pvF (sdF z (d * μ 38 0 + f + 1))) : EQ (sh ν 38) (dayE (sh μ 38) z d) := by
  refine ⟨?_, fun k i h1 h2 h3 => ?_, fun i hi => ?_⟩
  · rw [dayE, rowM_ne (by decide)]; exact h.2.2.1 0 (by decide)
  · by_cases q : k = 3
    · rw [q, dayE, rowM_at, ppl]
      show ν 41 i = _
      by_cases q2 : i < sh μ 38 0 0
      · rw [if_pos q2]; exact hp i q2
      · rw [if_neg q2]; exact h.2.2.2 i (Nat.le_of_not_lt q2)
    · rw [dayE, rowM_ne q]; exact congrFun (h.1 (38 + k) (by omega) (by omega) (by omega)) i
  · rw [dayE, rowM_ne (by decide)]; exact congrFun (h.1 44 (by omega) (by omega) (by omega)) i
theorem PM_round {μ ν ν' E : Mem} {σ o : Nat → Nat} {w : Nat} (h : PM μ ν σ) (hr : RPM ν E o w ν') : PM μ ν' σ :=
  ⟨fun q a b c => (hr.1 q a).trans (h.1 q a b c), (hr.1 57 (by omega)).trans h.2.1, fun k hk => (hr.2.1 k hk).trans (h.2.2.1 k hk), fun f hf => (congrFun (hr.1 41 (by omega)) f).trans (h.2.2.2 f hf)⟩
theorem PM_up {μ ν : Mem} {σ : Nat → Nat} {f v : Nat} (h : PM μ ν σ) (hf : f < μ 38 0) : PM μ (up ν 41 f v) σ :=
  ⟨fun q a b c => (up_ne b).trans (h.1 q a b c), (up_ne (by decide)).trans h.2.1, fun k hk => (congrFun (up_ne (by decide)) k).trans (h.2.2.1 k hk), fun g hg => (up_off (Or.inr (by omega))).trans (h.2.2.2 g hg)⟩
theorem PM_end {μ ν ν' : Mem} {σ : Nat → Nat} (h : PM μ ν σ) (hs : EQ (unp σ) (sh μ 38)) (g : EQ (sh ν' 38) (unp (ν 57)) ∧ (∀ q, q < 38 ∨ 44 < q → ν' q = ν q) ∧ ∀ k, k ≠ 0 → ν' 38 k = ν 38 k) : KM μ ν' := by
  obtain ⟨g1, g2, g3⟩ := g
  rw [h.2.1] at g1
  exact ⟨fun q hq => (g2 q (by omega)).trans (h.1 q (by omega) (by omega) (by omega)), g1.trans hs, (g3 15 (by decide)).trans (h.2.2.1 15 (by decide)), (g3 16 (by decide)).trans (h.2.2.1 16 (by decide)), (g3 20 (by decide)).trans (h.2.2.1 20 (by decide)), (g3 23 (by decide)).trans (h.2.2.1 23 (by decide)), (g2 52 (by omega)).trans (h.1 52 (by omega) (by omega) (by omega)), (g2 54 (by omega)).trans (h.1 54 (by omega) (by omega) (by omega)), (g2 55 (by omega)).trans (h.1 55 (by omega) (by omega) (by omega)), (g2 56 (by omega)).trans (h.1 56 (by omega) (by omega) (by omega))⟩
set_option maxRecDepth 100000 in
set_option maxHeartbeats 4000000 in
theorem ev_X5_lots {G : GX} {x9 y9 : Int32} {μ : Mem} (hE : EI (sh μ 38)) (hP : PI5 (sh μ 38)) (hz : μ 38 15 = 0) : Ev G mX5_lots 3 [rf G 38, .int x9, .int y9] μ (PI (OutM (kLo x9) (nI (sumTo (dayC (sh μ 38) (μ 43) y9) x9.toNatClampNeg)) μ)) := by
  refine Ev.of (own := RX5) (n := 4) (by decide) rfl rfl (catOK rfl) (fun X C E => ?_)
  show J G X 0 [some _, some _, some _, none, none, none, none] [] _
  have hn : μ 38 0 ≤ 6 := hE.1
  refine j_iload_n C dX5_lots_0 rfl ?_
  refine j_iconst (v := nI 1) C dX5_lots_1 (by decide) ?_
  refine j_icmp_ge (tgt := 12) C dX5_lots_2 (by decide) (fun c_2 => ?_) (fun c_2 => ?_)
  · refine j_iload_n C dX5_lots_12 rfl ?_
    refine j_bipush (v := nI 20) C dX5_lots_13 (by decide) ?_
    refine j_icmp_le (tgt := 25) C dX5_lots_15 (by decide) (fun c_15 => ?_) (fun c_15 => ?_)
    · obtain ⟨a9, ha9, rfl⟩ := nI_of2 (n := 20) (M := nI 20) (x := x9) (by decide) (Int32.not_lt.mpr (Int32.le_trans (show (0 : Int32) ≤ nI 1 by decide) c_2)) c_15
      have kq : kLo (nI a9) = 0 := by rw [kLo, if_neg (Int32.not_lt.mpr c_2), if_neg (Int32.not_lt.mpr c_15)]
      refine j_aload_n C dX5_lots_25 rfl ?_
      refine j_aload_n C dX5_lots_26 rfl ?_
      refine g5_25 C dX5_lots_27 lFX5_64 ?_
      refine cVv1 C dX5_lots_30 lMX5_122 myX5_keep_ (ev_X5_keep_ iA_57 (Or.inr rfl)) (by omega) rc5 (Nat.le_of_ble_eq_true rfl) (fun μ_30 hv_30 => ?_)
      obtain ⟨σ, rfl, hσ⟩ := hv_30
      refine j_iload_n C dX5_lots_33 rfl ?_
      refine sn3 C dX5_lots_34 rfl ?_
      refine j_iconst (v := nI 0) C dX5_lots_35 (by decide) ?_
      refine sl4 C dX5_lots_36 rfl ?_
      refine j_iconst (v := nI 0) C dX5_lots_38 (by decide) ?_
      refine sl5 C dX5_lots_39 rfl ?_
      have loop : ∀ c d9 x6 ν, d9 + c = a9 → PM μ ν σ → J G X 41 [some (rf G 38), some (.int (nI a9)), some (.int y9), some (.int (sdF y9 (d9 * μ 38 0))), some (.int (nI (sumTo (dayC (sh μ 38) (μ 43) y9) d9))), some (.int (nI d9)), x6] [] ν := by
        intro c
        induction c with
        | zero =>
          intro d9 x6 ν hi hT
          refine j_iload C dX5_lots_41 rfl ?_
          refine j_iload_n C dX5_lots_43 rfl ?_
          first | refine j_icmp_geN (tgt := 115) C dX5_lots_44 (by decide) (by omega) (by omega) (fun c_44 => ?_) (fun c_44 => ?_) | refine j_icmp_ge (tgt := 115) C dX5_lots_44 (by decide) (fun c_44 => ?_) (fun c_44 => ?_)
          · refine j_aload_n C dX5_lots_115 rfl ?_
            refine j_aload_n C dX5_lots_116 rfl ?_
            refine g5_25 C dX5_lots_117 lFX5_64 ?_
            refine cVv1 C dX5_lots_120 lMX5_126 myX5_again (ev_X5_again iA_57 (Or.inr rfl)) (by omega) rc5 (Nat.le_of_ble_eq_true rfl) (fun μ_120 hv_120 => ?_)
            refine j_iload C dX5_lots_123 rfl ?_
            exact j_iret C E dX5_lots_125 (outM_ok kq (by rw [cl (by omega), show d9 = a9 by omega]) (PM_end hT hσ hv_120))
          · exact absurd c_44 (by omega)
        | succ c ih =>
          intro d9 x6 ν hi hT
          refine j_iload C dX5_lots_41 rfl ?_
          refine j_iload_n C dX5_lots_43 rfl ?_
          first | refine j_icmp_geN (tgt := 115) C dX5_lots_44 (by decide) (by omega) (by omega) (fun c_44 => ?_) (fun c_44 => ?_) | refine j_icmp_ge (tgt := 115) C dX5_lots_44 (by decide) (fun c_44 => ?_) (fun c_44 => ?_)
          · exact absurd c_44 (by omega)
          · refine j_iconst (v := nI 0) C dX5_lots_47 (by decide) ?_
            refine sl6 C dX5_lots_48 rfl ?_
            have inner : ∀ k f9 ν, f9 + k = μ 38 0 → PM μ ν σ → (∀ j, j < f9 → ν 41 j = pvF (sdF y9 (d9 * μ 38 0 + j + 1))) → J G X 50 [some (rf G 38), some (.int (nI a9)), some (.int y9), some (.int (sdF y9 (d9 * μ 38 0 + f9))), some (.int (nI (sumTo (dayC (sh μ 38) (μ 43) y9) d9))), some (.int (nI d9)), some (.int (nI f9))] [] ν := by
              intro k
              induction k with
              | zero =>
                intro f9 ν hi hT hI
                refine j_iload C dX5_lots_50 rfl ?_
                refine j_aload_n C dX5_lots_52 rfl ?_
                refine g5_0 C dX5_lots_53 lFX5_79 ?_
                refine J.top (y := nI (μ 38 0)) (by rw [hT.2.2.1 0 (by decide)]) ?_
                first | refine j_icmp_geN (tgt := 93) C dX5_lots_56 (by decide) (by omega) (by omega) (fun c_56 => ?_) (fun c_56 => ?_) | refine j_icmp_ge (tgt := 93) C dX5_lots_56 (by decide) (fun c_56 => ?_) (fun c_56 => ?_)
                · have ef : f9 = μ 38 0 := by omega
                  have hq8 : EQ (sh ν 38) (dayE (sh μ 38) y9 d9) := PM_eq hT (fun j hj => hI j (by omega))
                  have hdE : EI (dayE (sh μ 38) y9 d9) := dayE_EI hE
                  have hdP : PI5 (dayE (sh μ 38) y9 d9) := dayE_PI hP
                  have w1 := EI.eq hq8.symm hdE
                  have w2 := PI5.eq hq8.symm hdE hdP
                  have w3 : ν 38 15 = 0 := by rw [hT.2.2.1 15 (by decide)]; exact hz
                  refine j_aload_n C dX5_lots_93 rfl ?_
                  refine cVv0 C dX5_lots_94 lMX5_166 myX5_round (ev_X5_round w1 w2.1 w3 (Or.inl rfl)) (by omega) rc5 (Nat.le_of_ble_eq_true rfl) (fun μ_94 hv_94 => ?_)
                  refine j_iload C dX5_lots_97 rfl ?_
                  refine j_aload_n C dX5_lots_99 rfl ?_
                  refine g5_8 C dX5_lots_100 lFX5_31 ?_
                  refine j_bipush (v := nI 7) C dX5_lots_103 (by decide) ?_
                  refine j_iald C dX5_lots_105 iA_46 (by omega) ?_
                  refine J.top (y := nI ((dayC (sh μ 38) (μ 43) y9) d9)) (by
                    rw [hv_94.2.2.1 7 (by omega)]
                    exact congrArg nI (Tot_eq hq8 w1 w2.1 (fun i hi => congrFun (hT.1 43 (by omega) (by omega) (by omega)) i))) ?_
                  first | refine j_iaddN C dX5_lots_106 ?_ | refine j_iadd C dX5_lots_106 ?_
                  refine sl4 C dX5_lots_107 rfl ?_
                  first | refine in5 C dX5_lots_109 (nI_1 _) rfl ?_ | refine in5 C dX5_lots_109 rfl rfl ?_
                  refine j_goto (tgt := 41) C dX5_lots_112 (by decide) ?_
                  have e1 : d9 * μ 38 0 + f9 = (d9 + 1) * μ 38 0 := by rw [Nat.succ_mul, ef]
                  rw [e1]
                  exact ih (d9 + 1) _ _ (by omega) (PM_round hT hv_94)
                · exact absurd c_56 (by omega)
              | succ k ih2 =>
                intro f9 ν hi hT hI
                refine j_iload C dX5_lots_50 rfl ?_
                refine j_aload_n C dX5_lots_52 rfl ?_
                refine g5_0 C dX5_lots_53 lFX5_79 ?_
                refine J.top (y := nI (μ 38 0)) (by rw [hT.2.2.1 0 (by decide)]) ?_
                first | refine j_icmp_geN (tgt := 93) C dX5_lots_56 (by decide) (by omega) (by omega) (fun c_56 => ?_) (fun c_56 => ?_) | refine j_icmp_ge (tgt := 93) C dX5_lots_56 (by decide) (fun c_56 => ?_) (fun c_56 => ?_)
                · exact absurd c_56 (by omega)
                · refine j_iload_n C dX5_lots_59 rfl ?_
                  refine j_ldc (v := 1664525) C dX5_lots_60 lCX5_214 ?_
                  refine j_imul C dX5_lots_62 ?_
                  refine j_ldc (v := 1013904223) C dX5_lots_63 lCX5_215 ?_
                  refine j_iadd C dX5_lots_65 (J.top (y := (sdF y9 (d9 * μ 38 0 + (f9 + 1)))) rfl ?_)
                  refine sn3 C dX5_lots_66 rfl ?_
                  refine j_aload_n C dX5_lots_67 rfl ?_
                  refine g5_3 C dX5_lots_68 lFX5_16 ?_
                  refine j_iload C dX5_lots_71 rfl ?_
                  refine j_iload_n C dX5_lots_73 rfl ?_
                  refine j_ldc (v := 2147483647) C dX5_lots_74 lCX5_216 ?_
                  refine j_iand C dX5_lots_76 (J.top (pk_and _ 31 (by decide)) ?_)
                  refine j_sipush (v := nI 256) C dX5_lots_77 (by decide) ?_
                  first | refine j_idivN C dX5_lots_80 (by omega) (by omega) (by omega) ?_ | refine j_idiv C dX5_lots_80 (by decide) ?_
                  refine j_bipush (v := nI 20) C dX5_lots_81 (by decide) ?_
                  first | refine j_iremN C dX5_lots_83 (by omega) (by omega) (by omega) ?_ | refine j_irem C dX5_lots_83 (by decide) ?_
                  refine j_iconst (v := nI 1) C dX5_lots_84 (by decide) ?_
                  first | refine j_iaddN C dX5_lots_85 ?_ | refine j_iadd C dX5_lots_85 ?_
                  refine j_iast C dX5_lots_86 iA_41 (by omega) ?_
                  first | refine in6 C dX5_lots_87 (nI_1 _) rfl ?_ | refine in6 C dX5_lots_87 rfl rfl ?_
                  refine j_goto (tgt := 50) C dX5_lots_90 (by decide) ?_
                  exact ih2 (f9 + 1) _ (by omega) (PM_up hT (show f9 < μ 38 0 by omega)) (fun j hj => by
                    by_cases e : j = f9
                    · rw [e]; exact up_at
                    · rw [up_off (Or.inr e)]; exact hI j (by omega))
            exact inner (μ 38 0) 0 _ (by omega) hT (fun j hj => absurd hj (by omega))
      have e0 : y9 = sdF y9 (0 * μ 38 0) := by rw [Nat.zero_mul]; rfl
      have l0 := loop a9 0 none _ (by omega) PM_beg
      rw [← e0] at l0
      exact l0
    · refine j_aload_n C dX5_lots_18 rfl ?_
      refine j_bipush (v := (-6)) C dX5_lots_19 (by decide) ?_
      refine cVe1 C dX5_lots_21 lMX5_75 myX5_no (ev_X5_no (k := 6) (by decide) (by decide)) (by omega) rc5 (Nat.le_of_ble_eq_true rfl) ?_
      exact j_iret C E dX5_lots_24 (outM_no (j := 6) (by rw [kLo, if_neg (Int32.not_lt.mpr c_2), if_pos (Int32.not_le.mp c_15)]) (by decide) (by decide))
  · refine j_aload_n C dX5_lots_5 rfl ?_
    refine j_bipush (v := (-4)) C dX5_lots_6 (by decide) ?_
    refine cVe1 C dX5_lots_8 lMX5_75 myX5_no (ev_X5_no (k := 4) (by decide) (by decide)) (by omega) rc5 (Nat.le_of_ble_eq_true rfl) ?_
    exact j_iret C E dX5_lots_11 (outM_no (j := 4) (if_pos (Int32.not_le.mp c_2)) (by decide) (by decide))
