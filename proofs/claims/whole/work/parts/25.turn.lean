-- ORDERS TURNED ABOUT
def rotO (n : Nat) (ρ : Nat → Nat) (d i : Nat) : Nat := if i + d < n then ρ (i + d) else ρ (i + d - n)
def cdI (E : Mem) (ρ : Nat → Nat) (f d i : Nat) : Nat := if rotO (E 0 0) ρ d i = f ∧ 0 < oCold E (rotO (E 0 0) ρ d) 0 i then 1 else 0
def cdD (E : Mem) (ρ : Nat → Nat) (f d : Nat) : Nat := sumTo (cdI E ρ f d) (E 0 0)
def tdN (E : Mem) (ρ : Nat → Nat) (f : Nat) : Nat := sumTo (cdD E ρ f) (E 0 0)
def maxTo (f : Nat → Nat) : Nat → Nat
  | 0 => 0
  | k + 1 => max (maxTo f k) (f k)
theorem maxTo_le {f : Nat → Nat} {B : Nat} : ∀ (n : Nat), (∀ i, i < n → f i ≤ B) → maxTo f n ≤ B
  | 0, _ => Nat.zero_le _
  | n + 1, h => by
    have h1 := h n (by omega)
    have h2 := maxTo_le n (fun i hi => h i (by omega))
    rw [maxTo]
    omega
theorem cdI_le {E : Mem} {ρ : Nat → Nat} {f d i : Nat} : cdI E ρ f d i ≤ 1 := by unfold cdI; split <;> omega
theorem sum_mono {f : Nat → Nat} : ∀ (k n : Nat), k ≤ n → sumTo f k ≤ sumTo f n
  | k, 0, h => by rw [show k = 0 by omega]; exact Nat.le_refl _
  | k, n + 1, h => by
    rcases Nat.lt_or_ge n k with q | q
    · rw [show k = n + 1 by omega]; exact Nat.le_refl _
    · rw [sumTo]
      have := sum_mono (f := f) k n q
      omega
theorem cdD_le {E : Mem} {ρ : Nat → Nat} {f d : Nat} (h : E 0 0 ≤ 6) : cdD E ρ f d ≤ 6 := sum6 (B := 1) h (fun i _ => cdI_le)
theorem tdN_le {E : Mem} {ρ : Nat → Nat} {f : Nat} (h : E 0 0 ≤ 6) : tdN E ρ f ≤ 36 := sum6 (B := 6) h (fun i _ => cdD_le h)
theorem rot_OI {E : Mem} {ρ : Nat → Nat} {d : Nat} (h : OI E ρ) (hd : d < E 0 0) : OI E (rotO (E 0 0) ρ d) := by
  intro i hi
  unfold rotO
  split
  · exact h _ (by omega)
  · exact h _ (by omega)
set_option maxRecDepth 100000 in
set_option maxHeartbeats 4000000 in
theorem ev_X4_turn {G : GX} {d9 : Nat} {μ : Mem} (hn : μ 1 0 ≤ 6) (hd : d9 < μ 1 0) : Ev G mX4_turn 1 [rf G 0, .int (nI d9)] μ (PV (fun μ' => ∃ σ : Nat → Nat, μ' = rowM μ 13 σ ∧ eqTo (μ 1 0) σ (rotO (μ 1 0) (μ 6) d9))) := by
  refine Ev.of (own := RX4) (n := 2) (by decide) rfl rfl (catOK rfl) (fun X C E => ?_)
  show J G X 0 [some _, some _, none, none] [] _
  have loop : ∀ k i9 σ x3, i9 + k = μ 1 0 → eqTo i9 σ (rotO (μ 1 0) (μ 6) d9) → J G X 2 [some (rf G 0), some (.int (nI d9)), some (.int (nI i9)), x3] [] (rowM μ 13 σ) := by
    intro k
    induction k with
    | zero =>
      intro i9 σ x3 hi hr
      refine j_iload_n C dX4_turn_2 rfl ?_
      refine j_aload_n C dX4_turn_3 rfl ?_
      refine g4_0 C dX4_turn_4 lFX4_10 ?_
      refine g0_0 isH_1 C dX4_turn_7 lFX4_154 ?_
      refine J.top (y := nI (μ 1 0)) (by rw [rowM_ne (by decide)]) ?_
      first | refine j_icmp_geN (tgt := 62) C dX4_turn_10 (by decide) (by omega) (by omega) (fun c_10 => ?_) (fun c_10 => ?_) | refine j_icmp_ge (tgt := 62) C dX4_turn_10 (by decide) (fun c_10 => ?_) (fun c_10 => ?_)
      · exact j_vret C E dX4_turn_62 ⟨rfl, σ, rfl, fun j hj => hr j (by omega)⟩
      · exact absurd c_10 (by omega)
    | succ k ih =>
      intro i9 σ x3 hi hr
      refine j_iload_n C dX4_turn_2 rfl ?_
      refine j_aload_n C dX4_turn_3 rfl ?_
      refine g4_0 C dX4_turn_4 lFX4_10 ?_
      refine g0_0 isH_1 C dX4_turn_7 lFX4_154 ?_
      refine J.top (y := nI (μ 1 0)) (by rw [rowM_ne (by decide)]) ?_
      first | refine j_icmp_geN (tgt := 62) C dX4_turn_10 (by decide) (by omega) (by omega) (fun c_10 => ?_) (fun c_10 => ?_) | refine j_icmp_ge (tgt := 62) C dX4_turn_10 (by decide) (fun c_10 => ?_) (fun c_10 => ?_)
      · exact absurd c_10 (by omega)
      · refine j_iload_n C dX4_turn_13 rfl ?_
        refine j_iload_n C dX4_turn_14 rfl ?_
        first | refine j_iaddN C dX4_turn_15 ?_ | refine j_iadd C dX4_turn_15 ?_
        refine sn3 C dX4_turn_16 rfl ?_
        refine j_iload_n C dX4_turn_17 rfl ?_
        refine j_aload_n C dX4_turn_18 rfl ?_
        refine g4_0 C dX4_turn_19 lFX4_10 ?_
        refine g0_0 isH_1 C dX4_turn_22 lFX4_154 ?_
        refine J.top (y := nI (μ 1 0)) (by rw [rowM_ne (by decide)]) ?_
        first | refine j_icmp_ltN (tgt := 38) C dX4_turn_25 (by decide) (by omega) (by omega) (fun c_25 => ?_) (fun c_25 => ?_) | refine j_icmp_lt (tgt := 38) C dX4_turn_25 (by decide) (fun c_25 => ?_) (fun c_25 => ?_)
        · have er : rotO (μ 1 0) (μ 6) d9 i9 = μ 6 (i9 + d9) := if_pos c_25
          refine j_aload_n C dX4_turn_38 rfl ?_
          refine g4_1 C dX4_turn_39 lFX4_16 ?_
          refine g0_5 isH_8 C dX4_turn_42 lFX4_102 ?_
          refine j_iload_n C dX4_turn_45 rfl ?_
          refine j_aload_n C dX4_turn_46 rfl ?_
          refine g4_0 C dX4_turn_47 lFX4_10 ?_
          refine g0_5 isH_1 C dX4_turn_50 lFX4_102 ?_
          refine j_iload_n C dX4_turn_53 rfl ?_
          refine j_iald C dX4_turn_54 iA_6 (by omega) ?_
          refine J.top (y := nI (rotO (μ 1 0) (μ 6) d9 i9)) (by rw [rowM_ne (by decide), er]) ?_
          refine j_iast C dX4_turn_55 iA_13 (by omega) ?_
          refine J.mem up_row ?_
          first | refine in2 C dX4_turn_56 (nI_1 _) rfl ?_ | refine in2 C dX4_turn_56 rfl rfl ?_
          refine j_goto (tgt := 2) C dX4_turn_59 (by decide) ?_
          exact ih (i9 + 1) _ _ (by omega) (fun j hj => if q : j = i9 then (by rw [q, u1_at]) else (by rw [u1_ne q]; exact hr j (by omega)))
        · have er : rotO (μ 1 0) (μ 6) d9 i9 = μ 6 (i9 + d9 - μ 1 0) := if_neg (by omega)
          refine j_iload_n C dX4_turn_28 rfl ?_
          refine j_aload_n C dX4_turn_29 rfl ?_
          refine g4_0 C dX4_turn_30 lFX4_10 ?_
          refine g0_0 isH_1 C dX4_turn_33 lFX4_154 ?_
          refine J.top (y := nI (μ 1 0)) (by rw [rowM_ne (by decide)]) ?_
          first | refine j_isubN C dX4_turn_36 (by omega) ?_ | refine j_isub C dX4_turn_36 ?_
          refine sn3 C dX4_turn_37 rfl ?_
          refine j_aload_n C dX4_turn_38 rfl ?_
          refine g4_1 C dX4_turn_39 lFX4_16 ?_
          refine g0_5 isH_8 C dX4_turn_42 lFX4_102 ?_
          refine j_iload_n C dX4_turn_45 rfl ?_
          refine j_aload_n C dX4_turn_46 rfl ?_
          refine g4_0 C dX4_turn_47 lFX4_10 ?_
          refine g0_5 isH_1 C dX4_turn_50 lFX4_102 ?_
          refine j_iload_n C dX4_turn_53 rfl ?_
          refine j_iald C dX4_turn_54 iA_6 (by omega) ?_
          refine J.top (y := nI (rotO (μ 1 0) (μ 6) d9 i9)) (by rw [rowM_ne (by decide), er]) ?_
          refine j_iast C dX4_turn_55 iA_13 (by omega) ?_
          refine J.mem up_row ?_
          first | refine in2 C dX4_turn_56 (nI_1 _) rfl ?_ | refine in2 C dX4_turn_56 rfl rfl ?_
          refine j_goto (tgt := 2) C dX4_turn_59 (by decide) ?_
          exact ih (i9 + 1) _ _ (by omega) (fun j hj => if q : j = i9 then (by rw [q, u1_at]) else (by rw [u1_ne q]; exact hr j (by omega)))
  refine j_iconst (v := nI 0) C dX4_turn_0 (by decide) ?_
  refine sn2 C dX4_turn_1 rfl ?_
  refine J.mem (rowM_self (a := 13)).symm ?_
  exact loop (μ 1 0) 0 _ _ (by omega) (fun j hj => absurd hj (by omega))
set_option maxRecDepth 100000 in
set_option maxHeartbeats 4000000 in
theorem ev_X4_countColdDays {G : GX} {μ : Mem} (hE : EI (sh μ 1)) (hP : PI5 (sh μ 1)) : Ev G mX4_countColdDays 5 [rf G 0] μ (PV (fun μ' => KC μ μ' ∧ ∀ f9, f9 < μ 1 0 → μ' 33 f9 = tdN (sh μ 1) (μ 6) f9)) := by
  refine Ev.of (own := RX4) (n := 2) (by decide) rfl rfl (catOK rfl) (fun X C E => ?_)
  show J G X 0 [some _, none, none] [] _
  have hn : μ 1 0 ≤ 6 := hE.1
  have loop : ∀ k d9 x2 ν, d9 + k = μ 1 0 → KC μ ν → (∀ f9, f9 < μ 1 0 → ν 33 f9 = sumTo (cdD (sh μ 1) (μ 6) f9) d9) → J G X 28 [some (rf G 0), some (.int (nI d9)), x2] [] ν := by
    intro k
    induction k with
    | zero =>
      intro d9 x2 ν hi hK hI
      refine j_iload_n C dX4_countColdDays_28 rfl ?_
      refine j_aload_n C dX4_countColdDays_29 rfl ?_
      refine g4_0 C dX4_countColdDays_30 lFX4_10 ?_
      refine g0_0 isH_1 C dX4_countColdDays_33 lFX4_154 ?_
      refine J.top (y := nI (μ 1 0)) (by rw [hK.row (by omega)]) ?_
      first | refine j_icmp_geN (tgt := 117) C dX4_countColdDays_36 (by decide) (by omega) (by omega) (fun c_36 => ?_) (fun c_36 => ?_) | refine j_icmp_ge (tgt := 117) C dX4_countColdDays_36 (by decide) (fun c_36 => ?_) (fun c_36 => ?_)
      · exact j_vret C E dX4_countColdDays_117 ⟨rfl, hK, fun f9 hf => by rw [hI f9 hf, show d9 = μ 1 0 by omega]; rfl⟩
      · exact absurd c_36 (by omega)
    | succ k ih =>
      intro d9 x2 ν hi hK hI
      refine j_iload_n C dX4_countColdDays_28 rfl ?_
      refine j_aload_n C dX4_countColdDays_29 rfl ?_
      refine g4_0 C dX4_countColdDays_30 lFX4_10 ?_
      refine g0_0 isH_1 C dX4_countColdDays_33 lFX4_154 ?_
      refine J.top (y := nI (μ 1 0)) (by rw [hK.row (by omega)]) ?_
      first | refine j_icmp_geN (tgt := 117) C dX4_countColdDays_36 (by decide) (by omega) (by omega) (fun c_36 => ?_) (fun c_36 => ?_) | refine j_icmp_ge (tgt := 117) C dX4_countColdDays_36 (by decide) (fun c_36 => ?_) (fun c_36 => ?_)
      · exact absurd c_36 (by omega)
      · have hK1 : ν 1 0 = μ 1 0 := by rw [hK.row (by omega)]
        have hK6 : ν 6 = μ 6 := hK.row (by omega)
        have hRO : OI (sh μ 1) (rotO (μ 1 0) (μ 6) d9) := rot_OI hP.1 (show d9 < μ 1 0 by omega)
        refine j_aload_n C dX4_countColdDays_39 rfl ?_
        refine j_iload_n C dX4_countColdDays_40 rfl ?_
        refine cVv1 C dX4_countColdDays_41 lMX4_207 myX4_turn (ev_X4_turn (by rw [hK1]; exact hn) (by rw [hK1]; omega)) (by omega) rc4 (Nat.le_of_ble_eq_true rfl) (fun μ_41 hv_41 => ?_)
        obtain ⟨σ, rfl, hσ⟩ := hv_41
        rw [hK1, hK6] at hσ
        have hKs : KC μ (rowM ν 13 σ) := fun q hq => by rw [rowM_ne (by omega)]; exact hK q hq
        have hos : OI (sh (rowM ν 13 σ) 1) (rowM ν 13 σ 13) := by
          rw [rowM_at]
          exact OI.eq (KCeq hKs).symm (fun i hi => (hσ i hi).symm) hRO
        refine j_aload_n C dX4_countColdDays_44 rfl ?_
        refine g4_4 C dX4_countColdDays_45 lFX4_29 ?_
        refine j_aload_n C dX4_countColdDays_48 rfl ?_
        refine g4_0 C dX4_countColdDays_49 lFX4_10 ?_
        refine j_aload_n C dX4_countColdDays_52 rfl ?_
        refine g4_1 C dX4_countColdDays_53 lFX4_16 ?_
        refine g0_5 isH_8 C dX4_countColdDays_56 lFX4_102 ?_
        refine cVv2 C dX4_countColdDays_59 lMX4_129 myX3_walk (ev_X3_walk isH_1 (KCei hKs hE) hos iA_13 (by omega)) (by omega) rc3 (Nat.le_of_ble_eq_true rfl) (fun μ_59 hv_59 => ?_)
        have e0 : sh (rowM ν 13 σ) 1 0 0 = μ 1 0 := (KCeq hKs).1
        have hC0 : ∀ j, j < μ 1 0 → μ_59 28 j = oCold (sh μ 1) (rotO (μ 1 0) (μ 6) d9) 0 j := fun j hj => by
          rw [(hv_59.2.2 j (by omega)).2.2.2.2.1]
          exact (o_eq (KCeq hKs) (KCei hKs hE) hos (by rw [e0]; show eqTo _ (rowM ν 13 σ 13) _; rw [rowM_at]; exact hσ) (by omega)).2.2.2.2.1
        have hR0 : eqTo (μ 1 0) (μ_59 13) (rotO (μ 1 0) (μ 6) d9) := by rw [hv_59.1 13 (by omega), rowM_at]; exact hσ
        have loop2 : ∀ k i9 ν, i9 + k = μ 1 0 → KC μ ν → eqTo (μ 1 0) (ν 13) (rotO (μ 1 0) (μ 6) d9) → (∀ j, j < μ 1 0 → ν 28 j = oCold (sh μ 1) (rotO (μ 1 0) (μ 6) d9) 0 j) → (∀ f9, f9 < μ 1 0 → ν 33 f9 = sumTo (cdD (sh μ 1) (μ 6) f9) d9 + sumTo (cdI (sh μ 1) (μ 6) f9 d9) i9) → J G X 64 [some (rf G 0), some (.int (nI d9)), some (.int (nI i9))] [] ν := by
          intro k
          induction k with
          | zero =>
            intro i9 ν hi hK hR hC hI
            refine j_iload_n C dX4_countColdDays_64 rfl ?_
            refine j_aload_n C dX4_countColdDays_65 rfl ?_
            refine g4_0 C dX4_countColdDays_66 lFX4_10 ?_
            refine g0_0 isH_1 C dX4_countColdDays_69 lFX4_154 ?_
            refine J.top (y := nI (μ 1 0)) (by rw [hK.row (by omega)]) ?_
            first | refine j_icmp_geN (tgt := 111) C dX4_countColdDays_72 (by decide) (by omega) (by omega) (fun c_72 => ?_) (fun c_72 => ?_) | refine j_icmp_ge (tgt := 111) C dX4_countColdDays_72 (by decide) (fun c_72 => ?_) (fun c_72 => ?_)
            · first | refine in1 C dX4_countColdDays_111 (nI_1 _) rfl ?_ | refine in1 C dX4_countColdDays_111 rfl rfl ?_
              refine j_goto (tgt := 28) C dX4_countColdDays_114 (by decide) ?_
              exact ih (d9 + 1) _ _ (by omega) hK (fun f9 hf => by rw [hI f9 hf, sumTo, show i9 = μ 1 0 by omega]; rfl)
            · exact absurd c_72 (by omega)
          | succ k ih2 =>
            intro i9 ν hi hK hR hC hI
            refine j_iload_n C dX4_countColdDays_64 rfl ?_
            refine j_aload_n C dX4_countColdDays_65 rfl ?_
            refine g4_0 C dX4_countColdDays_66 lFX4_10 ?_
            refine g0_0 isH_1 C dX4_countColdDays_69 lFX4_154 ?_
            refine J.top (y := nI (μ 1 0)) (by rw [hK.row (by omega)]) ?_
            first | refine j_icmp_geN (tgt := 111) C dX4_countColdDays_72 (by decide) (by omega) (by omega) (fun c_72 => ?_) (fun c_72 => ?_) | refine j_icmp_ge (tgt := 111) C dX4_countColdDays_72 (by decide) (fun c_72 => ?_) (fun c_72 => ?_)
            · exact absurd c_72 (by omega)
            · have hcl : oCold (sh μ 1) (rotO (μ 1 0) (μ 6) d9) 0 i9 ≤ 20 := (o_b (w := 0) hE hRO (show i9 < μ 1 0 by omega)).2.2.2.2.1
              have hrt : (rotO (μ 1 0) (μ 6) d9) i9 < μ 1 0 := hRO i9 (show i9 < μ 1 0 by omega)
              refine j_aload_n C dX4_countColdDays_75 rfl ?_
              refine g4_4 C dX4_countColdDays_76 lFX4_29 ?_
              refine g3_5 C dX4_countColdDays_79 lFX4_210 ?_
              refine j_iload_n C dX4_countColdDays_82 rfl ?_
              refine j_iald C dX4_countColdDays_83 iA_28 (by omega) ?_
              refine J.top (y := nI (oCold (sh μ 1) (rotO (μ 1 0) (μ 6) d9) 0 i9)) (by rw [hC i9 (by omega)]) ?_
              refine j_if_leN (tgt := 105) C dX4_countColdDays_84 (by decide) (by omega) (fun c_84 => ?_) (fun c_84 => ?_)
              · first | refine in2 C dX4_countColdDays_105 (nI_1 _) rfl ?_ | refine in2 C dX4_countColdDays_105 rfl rfl ?_
                refine j_goto (tgt := 64) C dX4_countColdDays_108 (by decide) ?_
                first
                | exact ih2 (i9 + 1) _ (by omega) hK hR hC (fun f9 hf => by rw [hI f9 hf, sumTo, cdI, if_neg (fun z => by have := z.2; rw [show oCold (sh μ 1) (rotO ((sh μ 1) 0 0) (μ 6) d9) 0 i9 = oCold (sh μ 1) (rotO (μ 1 0) (μ 6) d9) 0 i9 from rfl] at this; omega), Nat.add_zero])
                | exact ih2 (i9 + 1) _ (by omega) (fun q hq => by rw [up_ne (by omega)]; exact hK q hq) (by rw [up_ne (by decide)]; exact hR) (by rw [up_ne (by decide)]; exact hC) (fun f9 hf => by
                    by_cases e : f9 = (rotO (μ 1 0) (μ 6) d9) i9
                    · rw [e, up_at, hI _ hrt, sumTo, cdI, if_pos ⟨rfl, c_84⟩]; rfl
                    · rw [up_off (Or.inr e), hI f9 hf, sumTo, cdI, if_neg (fun z => e z.1.symm), Nat.add_zero])
              · refine j_aload_n C dX4_countColdDays_87 rfl ?_
                refine g4_7 C dX4_countColdDays_88 lFX4_44 ?_
                refine j_aload_n C dX4_countColdDays_91 rfl ?_
                refine g4_1 C dX4_countColdDays_92 lFX4_16 ?_
                refine g0_5 isH_8 C dX4_countColdDays_95 lFX4_102 ?_
                refine j_iload_n C dX4_countColdDays_98 rfl ?_
                refine j_iald C dX4_countColdDays_99 iA_13 (by omega) ?_
                refine J.top (y := nI ((rotO (μ 1 0) (μ 6) d9) i9)) (by show nI (ν 13 i9) = _; rw [hR i9 (by omega)]) ?_
                refine j_dup2 C dX4_countColdDays_100 rfl rfl ?_
                refine j_iald C dX4_countColdDays_101 iA_33 (by omega) ?_
                refine j_iconst (v := nI 1) C dX4_countColdDays_102 (by decide) ?_
                first | refine j_iaddN C dX4_countColdDays_103 ?_ | refine j_iadd C dX4_countColdDays_103 ?_
                refine j_iast C dX4_countColdDays_104 iA_33 (by omega) ?_
                first | refine in2 C dX4_countColdDays_105 (nI_1 _) rfl ?_ | refine in2 C dX4_countColdDays_105 rfl rfl ?_
                refine j_goto (tgt := 64) C dX4_countColdDays_108 (by decide) ?_
                first
                | exact ih2 (i9 + 1) _ (by omega) hK hR hC (fun f9 hf => by rw [hI f9 hf, sumTo, cdI, if_neg (fun z => by have := z.2; rw [show oCold (sh μ 1) (rotO ((sh μ 1) 0 0) (μ 6) d9) 0 i9 = oCold (sh μ 1) (rotO (μ 1 0) (μ 6) d9) 0 i9 from rfl] at this; omega), Nat.add_zero])
                | exact ih2 (i9 + 1) _ (by omega) (fun q hq => by rw [up_ne (by omega)]; exact hK q hq) (by rw [up_ne (by decide)]; exact hR) (by rw [up_ne (by decide)]; exact hC) (fun f9 hf => by
                    by_cases e : f9 = (rotO (μ 1 0) (μ 6) d9) i9
                    · rw [e, up_at, hI _ hrt, sumTo, cdI, if_pos ⟨rfl, c_84⟩]; rfl
                    · rw [up_off (Or.inr e), hI f9 hf, sumTo, cdI, if_neg (fun z => e z.1.symm), Nat.add_zero])
        refine j_iconst (v := nI 0) C dX4_countColdDays_62 (by decide) ?_
        refine sn2 C dX4_countColdDays_63 rfl ?_
        exact loop2 (μ 1 0) 0 _ (by omega) (hKs.trans hv_59.KC) hR0 hC0 (fun f9 hf => by rw [hv_59.1 33 (by omega), rowM_ne (by decide), hI f9 hf]; rfl)
  have loop1 : ∀ k i9 σ x2, i9 + k = μ 1 0 → (∀ j, j < i9 → σ j = 0) → J G X 2 [some (rf G 0), some (.int (nI i9)), x2] [] (rowM μ 33 σ) := by
    intro k
    induction k with
    | zero =>
      intro i9 σ x2 hi hr
      refine j_iload_n C dX4_countColdDays_2 rfl ?_
      refine j_aload_n C dX4_countColdDays_3 rfl ?_
      refine g4_0 C dX4_countColdDays_4 lFX4_10 ?_
      refine g0_0 isH_1 C dX4_countColdDays_7 lFX4_154 ?_
      refine J.top (y := nI (μ 1 0)) (by rw [rowM_ne (by decide)]) ?_
      first | refine j_icmp_geN (tgt := 26) C dX4_countColdDays_10 (by decide) (by omega) (by omega) (fun c_10 => ?_) (fun c_10 => ?_) | refine j_icmp_ge (tgt := 26) C dX4_countColdDays_10 (by decide) (fun c_10 => ?_) (fun c_10 => ?_)
      · refine j_iconst (v := nI 0) C dX4_countColdDays_26 (by decide) ?_
        refine sn1 C dX4_countColdDays_27 rfl ?_
        exact loop (μ 1 0) 0 _ _ (by omega) (fun q hq => by rw [rowM_ne (by omega)]) (fun f9 hf => by rw [rowM_at, hr f9 (by omega)]; rfl)
      · exact absurd c_10 (by omega)
    | succ k ih =>
      intro i9 σ x2 hi hr
      refine j_iload_n C dX4_countColdDays_2 rfl ?_
      refine j_aload_n C dX4_countColdDays_3 rfl ?_
      refine g4_0 C dX4_countColdDays_4 lFX4_10 ?_
      refine g0_0 isH_1 C dX4_countColdDays_7 lFX4_154 ?_
      refine J.top (y := nI (μ 1 0)) (by rw [rowM_ne (by decide)]) ?_
      first | refine j_icmp_geN (tgt := 26) C dX4_countColdDays_10 (by decide) (by omega) (by omega) (fun c_10 => ?_) (fun c_10 => ?_) | refine j_icmp_ge (tgt := 26) C dX4_countColdDays_10 (by decide) (fun c_10 => ?_) (fun c_10 => ?_)
      · exact absurd c_10 (by omega)
      · refine j_aload_n C dX4_countColdDays_13 rfl ?_
        refine g4_7 C dX4_countColdDays_14 lFX4_44 ?_
        refine j_iload_n C dX4_countColdDays_17 rfl ?_
        refine j_iconst (v := nI 0) C dX4_countColdDays_18 (by decide) ?_
        refine j_iast C dX4_countColdDays_19 iA_33 (by omega) ?_
        refine J.mem up_row ?_
        first | refine in1 C dX4_countColdDays_20 (nI_1 _) rfl ?_ | refine in1 C dX4_countColdDays_20 rfl rfl ?_
        refine j_goto (tgt := 2) C dX4_countColdDays_23 (by decide) ?_
        exact ih (i9 + 1) _ _ (by omega) (fun j hj => if q : j = i9 then (by rw [q, u1_at]) else (by rw [u1_ne q]; exact hr j (by omega)))
  refine j_iconst (v := nI 0) C dX4_countColdDays_0 (by decide) ?_
  refine sn1 C dX4_countColdDays_1 rfl ?_
  refine J.mem (rowM_self (a := 33)).symm ?_
  exact loop1 (μ 1 0) 0 _ _ (by omega) (fun j hj => absurd hj (by omega))
set_option maxRecDepth 100000 in
set_option maxHeartbeats 4000000 in
theorem ev_X4_turned {G : GX} {x9 : Int32} {μ : Mem} (hE : EI (sh μ 1)) (hP : PI5 (sh μ 1)) : Ev G mX4_turned 6 [rf G 0, .int x9] μ (PI (OutC (kFl (μ 1 0) x9) (nI (tdN (sh μ 1) (μ 6) x9.toNatClampNeg)) μ)) := by
  refine Ev.of (own := RX4) (n := 0) (by decide) rfl rfl (catOK rfl) (fun X C E => ?_)
  show J G X 0 [some _, some _] [] _
  refine j_aload_n C dX4_turned_0 rfl ?_
  refine g4_0 C dX4_turned_1 lFX4_10 ?_
  refine j_iload_n C dX4_turned_4 rfl ?_
  refine cVe1 C dX4_turned_5 lMX4_83 myX0_hasFloor (ev_X0_hasFloor isH_1) (by omega) (rc0 isH_1) (Nat.le_of_ble_eq_true rfl) ?_
  first | refine j_if_neB (tgt := 17) C dX4_turned_8 (by decide) (fun c_8 => ?_) (fun c_8 => ?_) | refine j_if_neN (tgt := 17) C dX4_turned_8 (by decide) (by omega) (fun c_8 => ?_) (fun c_8 => ?_) | refine j_if_ne (tgt := 17) C dX4_turned_8 (by decide) (fun c_8 => ?_) (fun c_8 => ?_)
  · have hn : μ 1 0 ≤ 6 := hE.1
    obtain ⟨j9, hj, rfl⟩ := isFl_E hE c_8
    refine j_aload_n C dX4_turned_17 rfl ?_
    refine cVv0 C dX4_turned_18 lMX4_151 myX4_countColdDays (ev_X4_countColdDays hE hP) (by omega) rc4 (Nat.le_of_ble_eq_true rfl) (fun μ_18 hv_18 => ?_)
    refine j_aload_n C dX4_turned_21 rfl ?_
    refine g4_7 C dX4_turned_22 lFX4_44 ?_
    refine j_iload_n C dX4_turned_25 rfl ?_
    refine j_iald C dX4_turned_26 iA_33 (by omega) ?_
    exact j_iret C E dX4_turned_27 (outC_ok (if_pos c_8) (by rw [hv_18.2 j9 hj, cl (by omega)]) hv_18.1)
  · refine j_aload_n C dX4_turned_11 rfl ?_
    refine j_iconst (v := (-1)) C dX4_turned_12 (by decide) ?_
    refine cVe1 C dX4_turned_13 lMX4_64 myX4_refuse (ev_X4_refuse (k := 1) (by decide) (by decide)) (by omega) rc4 (Nat.le_of_ble_eq_true rfl) ?_
    exact j_iret C E dX4_turned_16 (outC_no (j := 1) (if_neg c_8) (by decide) (by decide))
set_option maxRecDepth 100000 in
set_option maxHeartbeats 4000000 in
theorem ev_X4_most {G : GX} {μ : Mem} (hE : EI (sh μ 1)) (hP : PI5 (sh μ 1)) : Ev G mX4_most 6 [rf G 0] μ (PI (OutC 0 (nI (maxTo (tdN (sh μ 1) (μ 6)) (μ 1 0))) μ)) := by
  refine Ev.of (own := RX4) (n := 2) (by decide) rfl rfl (catOK rfl) (fun X C E => ?_)
  show J G X 0 [some _, none, none] [] _
  refine j_aload_n C dX4_most_0 rfl ?_
  refine cVv0 C dX4_most_1 lMX4_151 myX4_countColdDays (ev_X4_countColdDays hE hP) (by omega) rc4 (Nat.le_of_ble_eq_true rfl) (fun μ_1 hv_1 => ?_)
  refine j_iconst (v := nI 0) C dX4_most_4 (by decide) ?_
  refine sn1 C dX4_most_5 rfl ?_
  refine j_iconst (v := nI 0) C dX4_most_6 (by decide) ?_
  refine sn2 C dX4_most_7 rfl ?_
  have hn : μ 1 0 ≤ 6 := hE.1
  have loop : ∀ k i9, i9 + k = μ 1 0 → J G X 8 [some (rf G 0), some (.int (nI (maxTo (tdN (sh μ 1) (μ 6)) i9))), some (.int (nI i9))] [] μ_1 := by
    intro k
    induction k with
    | zero =>
      intro i9 hi
      refine j_iload_n C dX4_most_8 rfl ?_
      refine j_aload_n C dX4_most_9 rfl ?_
      refine g4_0 C dX4_most_10 lFX4_10 ?_
      refine g0_0 isH_1 C dX4_most_13 lFX4_154 ?_
      refine J.top (y := nI (μ 1 0)) (by rw [hv_1.1.row (by omega)]) ?_
      first | refine j_icmp_geN (tgt := 36) C dX4_most_16 (by decide) (by omega) (by omega) (fun c_16 => ?_) (fun c_16 => ?_) | refine j_icmp_ge (tgt := 36) C dX4_most_16 (by decide) (fun c_16 => ?_) (fun c_16 => ?_)
      · refine j_iload_n C dX4_most_36 rfl ?_
        exact j_iret C E dX4_most_37 (outC_ok rfl (by rw [show i9 = μ 1 0 by omega]) hv_1.1)
      · exact absurd c_16 (by omega)
    | succ k ih =>
      intro i9 hi
      refine j_iload_n C dX4_most_8 rfl ?_
      refine j_aload_n C dX4_most_9 rfl ?_
      refine g4_0 C dX4_most_10 lFX4_10 ?_
      refine g0_0 isH_1 C dX4_most_13 lFX4_154 ?_
      refine J.top (y := nI (μ 1 0)) (by rw [hv_1.1.row (by omega)]) ?_
      first | refine j_icmp_geN (tgt := 36) C dX4_most_16 (by decide) (by omega) (by omega) (fun c_16 => ?_) (fun c_16 => ?_) | refine j_icmp_ge (tgt := 36) C dX4_most_16 (by decide) (fun c_16 => ?_) (fun c_16 => ?_)
      · exact absurd c_16 (by omega)
      · have hb1 := maxTo_le (f := tdN (sh μ 1) (μ 6)) (B := 36) i9 (fun i _ => tdN_le hE.1)
        have hb2 : tdN (sh μ 1) (μ 6) i9 ≤ 36 := tdN_le hE.1
        refine j_iload_n C dX4_most_19 rfl ?_
        refine j_aload_n C dX4_most_20 rfl ?_
        refine g4_7 C dX4_most_21 lFX4_44 ?_
        refine j_iload_n C dX4_most_24 rfl ?_
        refine j_iald C dX4_most_25 iA_33 (by omega) ?_
        refine J.top (y := nI (tdN (sh μ 1) (μ 6) i9)) (by rw [hv_1.2 i9 (by omega)]) ?_
        refine j_maxN C dX4_most_26 lMX4_157 (by omega) (Nat.le_of_ble_eq_true rfl) (by omega) (by omega) ?_
        refine sn1 C dX4_most_29 rfl ?_
        first | refine in2 C dX4_most_30 (nI_1 _) rfl ?_ | refine in2 C dX4_most_30 rfl rfl ?_
        refine j_goto (tgt := 8) C dX4_most_33 (by decide) ?_
        exact ih (i9 + 1) (by omega)
  exact loop (μ 1 0) 0 (by omega)
