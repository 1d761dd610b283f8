-- BEST, FITS
abbrev mst (x9 : Int32) : Bool := decide (x9.toNatClampNeg = 1 ∨ x9.toNatClampNeg = 4)
def bstI (E : Mem) (k : Nat) : Nat := bIdx (valO E k) (decide (k = 1 ∨ k = 4)) (nP (E 0 0) - 1)
theorem bstI_lt {E : Mem} {k : Nat} (h : EI E) : bstI E k < nP (E 0 0) := by
  have := nP_b h.1
  have := bIdx_le (valO E k) (decide (k = 1 ∨ k = 4)) (nP (E 0 0) - 1)
  unfold bstI
  omega
set_option maxRecDepth 100000 in
set_option maxHeartbeats 4000000 in
theorem ev_X4_best {G : GX} {x9 : Int32} {μ : Mem} (hE : EI (sh μ 1)) (hP : PI5 (sh μ 1)) : Ev G mX4_best 6 [rf G 0, .int x9] μ (PI (OutC (kTo x9) (nI (valO (sh μ 1) x9.toNatClampNeg (bstI (sh μ 1) x9.toNatClampNeg))) μ)) := by
  refine Ev.of (own := RX4) (n := 0) (by decide) rfl rfl (catOK rfl) (fun X C E => ?_)
  show J G X 0 [some _, some _] [] _
  refine j_iload_n C dX4_best_0 rfl ?_
  refine cSe1 C dX4_best_1 lMX4_126 myX4_isTotal (ev_X4_isTotal) (by omega) (Nat.le_of_ble_eq_true rfl) ?_
  first | refine j_if_neB (tgt := 14) C dX4_best_4 (by decide) (fun c_4 => ?_) (fun c_4 => ?_) | refine j_if_neN (tgt := 14) C dX4_best_4 (by decide) (by omega) (fun c_4 => ?_) (fun c_4 => ?_) | refine j_if_ne (tgt := 14) C dX4_best_4 (by decide) (fun c_4 => ?_) (fun c_4 => ?_)
  · obtain ⟨q9, hj, rfl⟩ := fl_of (n := 8) (by decide) c_4
    refine j_aload_n C dX4_best_14 rfl ?_
    refine j_iload_n C dX4_best_15 rfl ?_
    refine cVi1 C dX4_best_16 lMX4_148 myX4_findBest (ev_X4_findBest hE hP hj) (by omega) rc4 (Nat.le_of_ble_eq_true rfl) (fun v_16 μ_16 hv_16 => ?_)
    exact j_iret C E dX4_best_19 (outC_ok (if_pos c_4) (by rw [cl (by omega)]; exact hv_16.1) hv_16.2.2)
  · refine j_aload_n C dX4_best_7 rfl ?_
    refine j_bipush (v := (-2)) C dX4_best_8 (by decide) ?_
    refine cVe1 C dX4_best_10 lMX4_64 myX4_refuse (ev_X4_refuse (k := 2) (by decide) (by decide)) (by omega) rc4 (Nat.le_of_ble_eq_true rfl) ?_
    exact j_iret C E dX4_best_13 (outC_no (j := 2) (if_neg c_4) (by decide) (by decide))
abbrev kBa (n : Nat) (x9 y9 : Int32) : Nat := if isTo x9 then (if isFl n y9 then 0 else 1) else 2
set_option maxRecDepth 100000 in
set_option maxHeartbeats 4000000 in
theorem ev_X4_bestAt {G : GX} {x9 y9 : Int32} {μ : Mem} (hE : EI (sh μ 1)) (hP : PI5 (sh μ 1)) : Ev G mX4_bestAt 6 [rf G 0, .int x9, .int y9] μ (PI (OutC (kBa (μ 1 0) x9 y9) (nI (pf (μ 1 0) (bstI (sh μ 1) x9.toNatClampNeg) y9.toNatClampNeg)) μ)) := by
  refine Ev.of (own := RX4) (n := 0) (by decide) rfl rfl (catOK rfl) (fun X C E => ?_)
  show J G X 0 [some _, some _, some _] [] _
  refine j_iload_n C dX4_bestAt_0 rfl ?_
  refine cSe1 C dX4_bestAt_1 lMX4_126 myX4_isTotal (ev_X4_isTotal) (by omega) (Nat.le_of_ble_eq_true rfl) ?_
  first | refine j_if_neB (tgt := 14) C dX4_bestAt_4 (by decide) (fun c_4 => ?_) (fun c_4 => ?_) | refine j_if_neN (tgt := 14) C dX4_bestAt_4 (by decide) (by omega) (fun c_4 => ?_) (fun c_4 => ?_) | refine j_if_ne (tgt := 14) C dX4_bestAt_4 (by decide) (fun c_4 => ?_) (fun c_4 => ?_)
  · obtain ⟨q9, hq9, rfl⟩ := fl_of (n := 8) (by decide) c_4
    refine j_aload_n C dX4_bestAt_14 rfl ?_
    refine g4_0 C dX4_bestAt_15 lFX4_10 ?_
    refine j_iload_n C dX4_bestAt_18 rfl ?_
    refine cVe1 C dX4_bestAt_19 lMX4_83 myX0_hasFloor (ev_X0_hasFloor isH_1) (by omega) (rc0 isH_1) (Nat.le_of_ble_eq_true rfl) ?_
    first | refine j_if_neB (tgt := 31) C dX4_bestAt_22 (by decide) (fun c_22 => ?_) (fun c_22 => ?_) | refine j_if_neN (tgt := 31) C dX4_bestAt_22 (by decide) (by omega) (fun c_22 => ?_) (fun c_22 => ?_) | refine j_if_ne (tgt := 31) C dX4_bestAt_22 (by decide) (fun c_22 => ?_) (fun c_22 => ?_)
    · have hn : μ 1 0 ≤ 6 := hE.1
      obtain ⟨j9, hj, rfl⟩ := isFl_E hE c_22
      refine j_aload_n C dX4_bestAt_31 rfl ?_
      refine j_iload_n C dX4_bestAt_32 rfl ?_
      refine cVi1 C dX4_bestAt_33 lMX4_148 myX4_findBest (ev_X4_findBest hE hP hq9) (by omega) rc4 (Nat.le_of_ble_eq_true rfl) (fun v_33 μ_33 hv_33 => ?_)
      refine j_pop C dX4_bestAt_36 rfl ?_
      refine j_aload_n C dX4_bestAt_37 rfl ?_
      refine g4_6 C dX4_bestAt_38 lFX4_40 ?_
      refine j_iload_n C dX4_bestAt_41 rfl ?_
      refine j_iald C dX4_bestAt_42 iA_32 (by omega) ?_
      exact j_iret C E dX4_bestAt_43 (outC_ok (by rw [kBa, if_pos c_4, if_pos c_22]) (by rw [cl (by omega), cl (by omega)]; exact congrArg nI (hv_33.2.1 j9 hj)) hv_33.2.2)
    · refine j_aload_n C dX4_bestAt_25 rfl ?_
      refine j_iconst (v := (-1)) C dX4_bestAt_26 (by decide) ?_
      refine cVe1 C dX4_bestAt_27 lMX4_64 myX4_refuse (ev_X4_refuse (k := 1) (by decide) (by decide)) (by omega) rc4 (Nat.le_of_ble_eq_true rfl) ?_
      exact j_iret C E dX4_bestAt_30 (outC_no (j := 1) (by rw [kBa, if_pos c_4, if_neg c_22]) (by decide) (by decide))
  · refine j_aload_n C dX4_bestAt_7 rfl ?_
    refine j_bipush (v := (-2)) C dX4_bestAt_8 (by decide) ?_
    refine cVe1 C dX4_bestAt_10 lMX4_64 myX4_refuse (ev_X4_refuse (k := 2) (by decide) (by decide)) (by omega) rc4 (Nat.le_of_ble_eq_true rfl) ?_
    exact j_iret C E dX4_bestAt_13 (outC_no (j := 2) (if_neg c_4) (by decide) (by decide))
/-- of the orders ahead of t, how many fit; the first that fits -/
def ctF (p : Nat → Bool) : Nat → Nat
  | 0 => 0
  | t + 1 => if p t then ctF p t + 1 else ctF p t
def ffF (p : Nat → Bool) : Nat → Nat
  | 0 => 0
  | t + 1 => if p t = true ∧ ctF p t = 0 then t else ffF p t
theorem ctF_le (p : Nat → Bool) : ∀ t, ctF p t ≤ t
  | 0 => Nat.le_refl 0
  | t + 1 => by
    have := ctF_le p t
    rw [ctF]
    split <;> omega
def fitO (E : Mem) (N : Nat → Nat) (c t : Nat) : Bool := decide (fns N (oServed E (pf (E 0 0) t) 0) (E 0 0) c 0 = -9)
set_option maxRecDepth 100000 in
set_option maxHeartbeats 4000000 in
theorem ev_X4_countFitting {G : GX} {μ : Mem} (hE : EI (sh μ 1)) (hP : PI5 (sh μ 1)) (hc : μ 0 10 ≤ 12) (hN : ∀ i, i < μ 0 10 → μ 36 i ≤ 99) : Ev G mX4_countFitting 5 [rf G 0] μ (PI (fun v μ' => v = nI (ctF (fitO (sh μ 1) (μ 36) (μ 0 10)) (nP (μ 1 0))) ∧ (0 < ctF (fitO (sh μ 1) (μ 36) (μ 0 10)) (nP (μ 1 0)) → eqTo (μ 1 0) (μ' 32) (pf (μ 1 0) (ffF (fitO (sh μ 1) (μ 36) (μ 0 10)) (nP (μ 1 0))))) ∧ KC μ μ')) := by
  refine Ev.of (own := RX4) (n := 2) (by decide) rfl rfl (catOK rfl) (fun X C E => ?_)
  show J G X 0 [some _, none, none] [] _
  have h6 : μ 1 0 ≤ 6 := hE.1
  have hnp := nP_b h6
  have loop : ∀ c t9 ν, t9 + c = nP (μ 1 0) → t9 < nP (μ 1 0) → OS μ ν t9 → (0 < ctF (fitO (sh μ 1) (μ 36) (μ 0 10)) t9 → eqTo (μ 1 0) (ν 32) (pf (μ 1 0) (ffF (fitO (sh μ 1) (μ 36) (μ 0 10)) t9))) → J G X 18 [some (rf G 0), some (.int (nI (ctF (fitO (sh μ 1) (μ 36) (μ 0 10)) t9))), some (.int (nI t9))] [] ν := by
    intro c
    induction c with
    | zero => intro t9 ν hc ht; exact absurd ht (by omega)
    | succ c ih =>
      intro t9 ν hcc ht hO hq
      have p70 : ∀ ν, OS μ ν t9 → (0 < ctF (fitO (sh μ 1) (μ 36) (μ 0 10)) (t9 + 1) → eqTo (μ 1 0) (ν 32) (pf (μ 1 0) (ffF (fitO (sh μ 1) (μ 36) (μ 0 10)) (t9 + 1)))) → J G X 70 [some (rf G 0), some (.int (nI (ctF (fitO (sh μ 1) (μ 36) (μ 0 10)) (t9 + 1)))), some (.int (nI t9))] [] ν := by
        intro ν hO hq
        refine j_aload_n C dX4_countFitting_70 rfl ?_
        refine g4_5 C dX4_countFitting_71 lFX4_36 ?_
        refine cVi0 C dX4_countFitting_74 lMX4_203 myX1_advance (ev_X1_advance (hO.lt hE ht).1 (hO.lt hE ht).2) (by omega) rc1 (Nat.le_of_ble_eq_true rfl) (fun v_74 μ_74 hv_74 => ?_)
        have hadv := hO.adv hE ht
        rcases Nat.lt_or_ge (t9 + 1) (nP (μ 1 0)) with hlt | hge
        · obtain ⟨a1, a2⟩ := hadv.1 hlt
          obtain ⟨z1, z2, z3⟩ := hv_74.resolve_left (fun z => by have := z.1; omega)
          rw [z2]
          refine j_if_neN (tgt := 83) C dX4_countFitting_77 (by decide) (by omega) (fun c_77 => ?_) (fun c_77 => absurd c_77 (by decide))
          refine in2 C dX4_countFitting_83 (nI_1 _) rfl ?_
          refine j_goto (tgt := 18) C dX4_countFitting_86 (by decide) ?_
          exact ih (t9 + 1) _ (by omega) hlt (by rw [z3]; exact a2) (by rw [z3, rowM_ne (by decide)]; exact hq)
        · have a1 := hadv.2 (by omega)
          obtain ⟨z1, z2, z3⟩ := hv_74.resolve_right (fun z => by have := z.1; omega)
          rw [z2]
          refine j_if_neN (tgt := 83) C dX4_countFitting_77 (by decide) (by omega) (fun c_77 => absurd rfl c_77) (fun c_77 => ?_)
          refine j_goto (tgt := 89) C dX4_countFitting_80 (by decide) ?_
          refine j_iload_n C dX4_countFitting_89 rfl ?_
          exact j_iret C E dX4_countFitting_90 ⟨_, rfl, by rw [show nP (μ 1 0) = t9 + 1 by omega], by rw [show nP (μ 1 0) = t9 + 1 by omega, z3]; exact hq, by rw [z3]; exact hO.1⟩
      refine j_iload_n C dX4_countFitting_18 rfl ?_
      refine j_sipush (v := nI 720) C dX4_countFitting_19 (by decide) ?_
      first | refine j_icmp_geN (tgt := 89) C dX4_countFitting_22 (by decide) (by omega) (by omega) (fun c_22 => ?_) (fun c_22 => ?_) | refine j_icmp_ge (tgt := 89) C dX4_countFitting_22 (by decide) (fun c_22 => ?_) (fun c_22 => ?_)
      · exact absurd c_22 (by omega)
      · obtain ⟨w1, w2, w3⟩ := hO.walk hE ht
        refine j_aload_n C dX4_countFitting_25 rfl ?_
        refine g4_4 C dX4_countFitting_26 lFX4_29 ?_
        refine j_aload_n C dX4_countFitting_29 rfl ?_
        refine g4_0 C dX4_countFitting_30 lFX4_10 ?_
        refine j_aload_n C dX4_countFitting_33 rfl ?_
        refine g4_5 C dX4_countFitting_34 lFX4_36 ?_
        refine g1_0 C dX4_countFitting_37 lFX4_198 ?_
        refine cVv2 C dX4_countFitting_40 lMX4_129 myX3_walk (ev_X3_walk isH_1 w1 w2 iA_31 (by omega)) (by omega) rc3 (Nat.le_of_ble_eq_true rfl) (fun μ_40 hv_40 => ?_)
        obtain ⟨v1, v2⟩ := w3 _ hv_40
        have hO2 := hO.after hv_40
        have hctl := ctF_le (fitO (sh μ 1) (μ 36) (μ 0 10)) t9
        have hKK := hO2.1
        have c0 : μ_40 0 10 = μ 0 10 := by rw [hKK.row (by omega)]
        have c1 : μ_40 1 0 = μ 1 0 := by rw [hKK.row (by omega)]
        have c36 : μ_40 36 = μ 36 := hKK 36 (by omega)
        have hq2 : 0 < ctF (fitO (sh μ 1) (μ 36) (μ 0 10)) t9 → eqTo (μ 1 0) (μ_40 32) (pf (μ 1 0) (ffF (fitO (sh μ 1) (μ 36) (μ 0 10)) t9)) := by rw [hv_40.1 32 (by omega)]; exact hq
        refine j_aload_n C dX4_countFitting_43 rfl ?_
        refine cVe0 C dX4_countFitting_44 lMX4_186 myX4_firstNotSo (ev_X4_firstNotSo (by rw [c1]; exact hE.1) (by rw [c0]; exact hc) (by rw [c0, c36]; exact hN) (by rw [c1]; intro i hi; rw [v2 i hi]; exact Nat.le_trans (o_b (w := 0) hE (OI_pf hE ht) hi).2.2.1 (by decide))) (by omega) rc4 (Nat.le_of_ble_eq_true rfl) ?_
        refine J.top (y := fns (μ 36) (oServed (sh μ 1) (pf (μ 1 0) t9) 0) (μ 1 0) (μ 0 10) 0) (by rw [c0, c1, c36]; exact fns_eq v2 _ _ (fun _ _ => rfl)) ?_
        refine j_bipush (v := (-9)) C dX4_countFitting_47 (by decide) ?_
        refine j_icmp_ne (tgt := 70) C dX4_countFitting_49 (by decide) (fun c_49 => ?_) (fun c_49 => ?_)
        · have hp : (fitO (sh μ 1) (μ 36) (μ 0 10)) t9 = false := decide_eq_false c_49
          have e1 : ctF (fitO (sh μ 1) (μ 36) (μ 0 10)) (t9 + 1) = ctF (fitO (sh μ 1) (μ 36) (μ 0 10)) t9 := by rw [ctF, hp]; rfl
          have e2 : ffF (fitO (sh μ 1) (μ 36) (μ 0 10)) (t9 + 1) = ffF (fitO (sh μ 1) (μ 36) (μ 0 10)) t9 := by rw [ffF, hp]; rfl
          rw [← e1]
          exact p70 _ hO2 (by rw [e1, e2]; exact hq2)
        · have hp : (fitO (sh μ 1) (μ 36) (μ 0 10)) t9 = true := decide_eq_true c_49
          have e1 : ctF (fitO (sh μ 1) (μ 36) (μ 0 10)) (t9 + 1) = ctF (fitO (sh μ 1) (μ 36) (μ 0 10)) t9 + 1 := by rw [ctF, hp]; rfl
          refine j_iload_n C dX4_countFitting_52 rfl ?_
          refine j_if_neN (tgt := 67) C dX4_countFitting_53 (by decide) (by omega) (fun c_53 => ?_) (fun c_53 => ?_)
          · have e2 : ffF (fitO (sh μ 1) (μ 36) (μ 0 10)) (t9 + 1) = ffF (fitO (sh μ 1) (μ 36) (μ 0 10)) t9 := by rw [ffF, if_neg (fun z => c_53 z.2)]
            first | refine in1 C dX4_countFitting_67 (nI_1 _) rfl ?_ | refine in1 C dX4_countFitting_67 rfl rfl ?_
            rw [← e1]
            first
            | exact p70 _ hO2 (by intro _; rw [e2]; exact hq2 (by omega))
            | exact p70 _ (hO2.copy).1 (by intro _; rw [e2]; exact (hO2.copy).2)
          · have e2 : ffF (fitO (sh μ 1) (μ 36) (μ 0 10)) (t9 + 1) = t9 := by rw [ffF, if_pos ⟨hp, c_53⟩]
            refine j_aload_n C dX4_countFitting_56 rfl ?_
            refine g4_5 C dX4_countFitting_57 lFX4_36 ?_
            refine j_aload_n C dX4_countFitting_60 rfl ?_
            refine g4_6 C dX4_countFitting_61 lFX4_40 ?_
            refine cVw1 C dX4_countFitting_64 lMX4_199 myX1_copyTo (ev_X1_copyTo (by rw [hO2.2.1]; exact hE.1) iA_32) (by omega) rc1 (Nat.le_of_ble_eq_true rfl) ?_
            first | refine in1 C dX4_countFitting_67 (nI_1 _) rfl ?_ | refine in1 C dX4_countFitting_67 rfl rfl ?_
            rw [← e1]
            first
            | exact p70 _ hO2 (by intro _; rw [e2]; exact hq2 (by omega))
            | exact p70 _ (hO2.copy).1 (by intro _; rw [e2]; exact (hO2.copy).2)
  refine j_iconst (v := nI 0) C dX4_countFitting_0 (by decide) ?_
  refine sn1 C dX4_countFitting_1 rfl ?_
  refine j_aload_n C dX4_countFitting_2 rfl ?_
  refine g4_5 C dX4_countFitting_3 lFX4_36 ?_
  refine j_aload_n C dX4_countFitting_6 rfl ?_
  refine g4_0 C dX4_countFitting_7 lFX4_10 ?_
  refine g0_0 isH_1 C dX4_countFitting_10 lFX4_154 ?_
  refine cVv1 C dX4_countFitting_13 lMX4_195 myX1_begin (ev_X1_begin h6) (by omega) rc1 (Nat.le_of_ble_eq_true rfl) (fun μ_13 hv_13 => ?_)
  refine j_iconst (v := nI 0) C dX4_countFitting_16 (by decide) ?_
  refine sn2 C dX4_countFitting_17 rfl ?_
  obtain ⟨σ9, hσ⟩ := hv_13
  exact loop (nP (μ 1 0)) 0 _ (by omega) (by omega) (OS.beg h6 hσ) (fun z => absurd (show 0 < 0 from z) (Nat.lt_irrefl 0))
abbrev kFi (n : Nat) (x9 : Int32) : Nat := if x9 < -1 then 4 else if x9 = -1 then 0 else if isFl n x9 then 0 else 1
def fiW (E : Mem) (N : Nat → Nat) (c : Nat) (x9 : Int32) : Int32 := if x9 = -1 then nI (ctF (fitO E N c) (nP (E 0 0))) else if ctF (fitO E N c) (nP (E 0 0)) = 0 then -9 else nI (pf (E 0 0) (ffF (fitO E N c) (nP (E 0 0))) x9.toNatClampNeg)
set_option maxRecDepth 100000 in
set_option maxHeartbeats 4000000 in
theorem ev_X4_fits {G : GX} {x9 : Int32} {μ : Mem} (hE : EI (sh μ 1)) (hP : PI5 (sh μ 1)) (hc : μ 0 10 ≤ 12) (hN : ∀ i, i < μ 0 10 → μ 36 i ≤ 99) : Ev G mX4_fits 6 [rf G 0, .int x9] μ (PI (OutC (kFi (μ 1 0) x9) (fiW (sh μ 1) (μ 36) (μ 0 10) x9) μ)) := by
  refine Ev.of (own := RX4) (n := 1) (by decide) rfl rfl (catOK rfl) (fun X C E => ?_)
  show J G X 0 [some _, some _, none] [] _
  refine j_iload_n C dX4_fits_0 rfl ?_
  refine j_iconst (v := (-1)) C dX4_fits_1 (by decide) ?_
  refine j_icmp_ge (tgt := 12) C dX4_fits_2 (by decide) (fun c_2 => ?_) (fun c_2 => ?_)
  · refine j_iload_n C dX4_fits_12 rfl ?_
    refine j_iconst (v := (-1)) C dX4_fits_13 (by decide) ?_
    refine j_icmp_eq (tgt := 34) C dX4_fits_14 (by decide) (fun c_14 => ?_) (fun c_14 => ?_)
    · refine j_aload_n C dX4_fits_34 rfl ?_
      refine cVi0 C dX4_fits_35 lMX4_183 myX4_countFitting (ev_X4_countFitting hE hP hc hN) (by omega) rc4 (Nat.le_of_ble_eq_true rfl) (fun v_35 μ_35 hv_35 => ?_)
      have hcl := ctF_le (fitO (sh μ 1) (μ 36) (μ 0 10)) (nP (μ 1 0))
      have hnp := nP_b (show μ 1 0 ≤ 6 from hE.1)
      rw [hv_35.1]
      refine sn2 C dX4_fits_38 rfl ?_
      refine j_iload_n C dX4_fits_39 rfl ?_
      refine j_iconst (v := (-1)) C dX4_fits_40 (by decide) ?_
      refine j_icmp_ne (tgt := 46) C dX4_fits_41 (by decide) (fun c_41 => ?_) (fun c_41 => ?_)
      · first
        | exact absurd c_14 c_41
        | (refine j_iload_n C dX4_fits_46 rfl ?_
           refine j_if_neN (tgt := 55) C dX4_fits_47 (by decide) (by omega) (fun c_47 => ?_) (fun c_47 => ?_)
           · refine j_aload_n C dX4_fits_55 rfl ?_
             refine g4_6 C dX4_fits_56 lFX4_40 ?_
             refine j_iload_n C dX4_fits_59 rfl ?_
             refine j_iald C dX4_fits_60 iA_32 (by omega) ?_
             exact j_iret C E dX4_fits_61 (by first | exact outC_ok (by rw [kFi, if_neg (Int32.not_lt.mpr c_2), if_neg c_14, if_pos c_25]) (by rw [fiW, if_neg c_14]; exact (if_pos c_47).symm) hv_35.2.2 | exact outC_ok (by rw [kFi, if_neg (Int32.not_lt.mpr c_2), if_neg c_14, if_pos c_25]) (by rw [fiW, if_neg c_14, cl (by omega)]; exact (congrArg nI (hv_35.2.1 (by omega) j9 hj)).trans (if_neg c_47).symm) hv_35.2.2)
           · refine j_bipush (v := (-9)) C dX4_fits_50 (by decide) ?_
             refine j_goto (tgt := 61) C dX4_fits_52 (by decide) ?_
             exact j_iret C E dX4_fits_61 (by first | exact outC_ok (by rw [kFi, if_neg (Int32.not_lt.mpr c_2), if_neg c_14, if_pos c_25]) (by rw [fiW, if_neg c_14]; exact (if_pos c_47).symm) hv_35.2.2 | exact outC_ok (by rw [kFi, if_neg (Int32.not_lt.mpr c_2), if_neg c_14, if_pos c_25]) (by rw [fiW, if_neg c_14, cl (by omega)]; exact (congrArg nI (hv_35.2.1 (by omega) j9 hj)).trans (if_neg c_47).symm) hv_35.2.2))
      · first
        | exact absurd c_41 c_14
        | (refine j_iload_n C dX4_fits_44 rfl ?_
           exact j_iret C E dX4_fits_45 (outC_ok (by rw [kFi, if_neg (Int32.not_lt.mpr c_2), if_pos c_14]) (by rw [fiW, if_pos c_14]; rfl) hv_35.2.2))
    · refine j_aload_n C dX4_fits_17 rfl ?_
      refine g4_0 C dX4_fits_18 lFX4_10 ?_
      refine j_iload_n C dX4_fits_21 rfl ?_
      refine cVe1 C dX4_fits_22 lMX4_83 myX0_hasFloor (ev_X0_hasFloor isH_1) (by omega) (rc0 isH_1) (Nat.le_of_ble_eq_true rfl) ?_
      first | refine j_if_neB (tgt := 34) C dX4_fits_25 (by decide) (fun c_25 => ?_) (fun c_25 => ?_) | refine j_if_neN (tgt := 34) C dX4_fits_25 (by decide) (by omega) (fun c_25 => ?_) (fun c_25 => ?_) | refine j_if_ne (tgt := 34) C dX4_fits_25 (by decide) (fun c_25 => ?_) (fun c_25 => ?_)
      · have hn : μ 1 0 ≤ 6 := hE.1
        obtain ⟨j9, hj, rfl⟩ := isFl_E hE c_25
        refine j_aload_n C dX4_fits_34 rfl ?_
        refine cVi0 C dX4_fits_35 lMX4_183 myX4_countFitting (ev_X4_countFitting hE hP hc hN) (by omega) rc4 (Nat.le_of_ble_eq_true rfl) (fun v_35 μ_35 hv_35 => ?_)
        have hcl := ctF_le (fitO (sh μ 1) (μ 36) (μ 0 10)) (nP (μ 1 0))
        have hnp := nP_b (show μ 1 0 ≤ 6 from hE.1)
        rw [hv_35.1]
        refine sn2 C dX4_fits_38 rfl ?_
        refine j_iload_n C dX4_fits_39 rfl ?_
        refine j_iconst (v := (-1)) C dX4_fits_40 (by decide) ?_
        refine j_icmp_ne (tgt := 46) C dX4_fits_41 (by decide) (fun c_41 => ?_) (fun c_41 => ?_)
        · first
          | exact absurd c_14 c_41
          | (refine j_iload_n C dX4_fits_46 rfl ?_
             refine j_if_neN (tgt := 55) C dX4_fits_47 (by decide) (by omega) (fun c_47 => ?_) (fun c_47 => ?_)
             · refine j_aload_n C dX4_fits_55 rfl ?_
               refine g4_6 C dX4_fits_56 lFX4_40 ?_
               refine j_iload_n C dX4_fits_59 rfl ?_
               refine j_iald C dX4_fits_60 iA_32 (by omega) ?_
               exact j_iret C E dX4_fits_61 (by first | exact outC_ok (by rw [kFi, if_neg (Int32.not_lt.mpr c_2), if_neg c_14, if_pos c_25]) (by rw [fiW, if_neg c_14]; exact (if_pos c_47).symm) hv_35.2.2 | exact outC_ok (by rw [kFi, if_neg (Int32.not_lt.mpr c_2), if_neg c_14, if_pos c_25]) (by rw [fiW, if_neg c_14, cl (by omega)]; exact (congrArg nI (hv_35.2.1 (by omega) j9 hj)).trans (if_neg c_47).symm) hv_35.2.2)
             · refine j_bipush (v := (-9)) C dX4_fits_50 (by decide) ?_
               refine j_goto (tgt := 61) C dX4_fits_52 (by decide) ?_
               exact j_iret C E dX4_fits_61 (by first | exact outC_ok (by rw [kFi, if_neg (Int32.not_lt.mpr c_2), if_neg c_14, if_pos c_25]) (by rw [fiW, if_neg c_14]; exact (if_pos c_47).symm) hv_35.2.2 | exact outC_ok (by rw [kFi, if_neg (Int32.not_lt.mpr c_2), if_neg c_14, if_pos c_25]) (by rw [fiW, if_neg c_14, cl (by omega)]; exact (congrArg nI (hv_35.2.1 (by omega) j9 hj)).trans (if_neg c_47).symm) hv_35.2.2))
        · first
          | exact absurd c_41 c_14
          | (refine j_iload_n C dX4_fits_44 rfl ?_
             exact j_iret C E dX4_fits_45 (outC_ok (by rw [kFi, if_neg (Int32.not_lt.mpr c_2), if_pos c_14]) (by rw [fiW, if_pos c_14]; rfl) hv_35.2.2))
      · refine j_aload_n C dX4_fits_28 rfl ?_
        refine j_iconst (v := (-1)) C dX4_fits_29 (by decide) ?_
        refine cVe1 C dX4_fits_30 lMX4_64 myX4_refuse (ev_X4_refuse (k := 1) (by decide) (by decide)) (by omega) rc4 (Nat.le_of_ble_eq_true rfl) ?_
        exact j_iret C E dX4_fits_33 (outC_no (j := 1) (by rw [kFi, if_neg (Int32.not_lt.mpr c_2), if_neg c_14, if_neg c_25]) (by decide) (by decide))
  · refine j_aload_n C dX4_fits_5 rfl ?_
    refine j_bipush (v := (-4)) C dX4_fits_6 (by decide) ?_
    refine cVe1 C dX4_fits_8 lMX4_64 myX4_refuse (ev_X4_refuse (k := 4) (by decide) (by decide)) (by omega) rc4 (Nat.le_of_ble_eq_true rfl) ?_
    exact j_iret C E dX4_fits_11 (outC_no (j := 4) (if_pos (Int32.not_le.mp c_2)) (by decide) (by decide))
