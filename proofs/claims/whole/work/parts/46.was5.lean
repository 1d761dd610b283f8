-- THE REFERENCE: the order laid by and taken again
set_option maxRecDepth 100000 in
set_option maxHeartbeats 4000000 in
theorem ev_X5_asItWas {G : GX} {μ : Mem} : Ev G mX5_asItWas 0 [rf G 38] μ (PV (fun μ' => (∀ q, q ≠ 43 → μ' q = μ q) ∧ eqTo 6 (μ' 43) (μ 59))) := by
  refine Ev.of (own := RX5) (n := 1) (by decide) rfl rfl (catOK rfl) (fun X C E => ?_)
  show J G X 0 [some _, none] [] _
  have loop : ∀ k i9 ν, i9 + k = 6 → (∀ q, q ≠ 43 → ν q = μ q) → (∀ j, j < i9 → ν 43 j = μ 59 j) → J G X 2 [some (rf G 38), some (.int (nI i9))] [] ν := by
    intro k
    induction k with
    | zero =>
      intro i9 ν hi hq9 hw9
      refine j_iload_n C dX5_asItWas_2 rfl ?_
      refine j_bipush (v := nI 6) C dX5_asItWas_3 (by decide) ?_
      first | refine j_icmp_geN (tgt := 26) C dX5_asItWas_5 (by decide) (by omega) (by omega) (fun c_5 => ?_) (fun c_5 => ?_) | refine j_icmp_ge (tgt := 26) C dX5_asItWas_5 (by decide) (fun c_5 => ?_) (fun c_5 => ?_)
      · exact j_vret C E dX5_asItWas_26 ⟨rfl, hq9, fun j hj => hw9 j (by omega)⟩
      · exact absurd c_5 (by omega)
    | succ k ih =>
      intro i9 ν hi hq9 hw9
      refine j_iload_n C dX5_asItWas_2 rfl ?_
      refine j_bipush (v := nI 6) C dX5_asItWas_3 (by decide) ?_
      first | refine j_icmp_geN (tgt := 26) C dX5_asItWas_5 (by decide) (by omega) (by omega) (fun c_5 => ?_) (fun c_5 => ?_) | refine j_icmp_ge (tgt := 26) C dX5_asItWas_5 (by decide) (fun c_5 => ?_) (fun c_5 => ?_)
      · exact absurd c_5 (by omega)
      · refine j_aload_n C dX5_asItWas_8 rfl ?_
        refine g5_5 C dX5_asItWas_9 lFX5_22 ?_
        refine j_iload_n C dX5_asItWas_12 rfl ?_
        refine j_aload_n C dX5_asItWas_13 rfl ?_
        refine g5_27 C dX5_asItWas_14 lFX5_70 ?_
        refine j_iload_n C dX5_asItWas_17 rfl ?_
        refine j_iald C dX5_asItWas_18 iA_59 (by omega) ?_
        refine J.top (y := nI (μ 59 i9)) (by rw [hq9 59 (by decide)]) ?_
        refine j_iast C dX5_asItWas_19 iA_43 (by omega) ?_
        first | refine in1 C dX5_asItWas_20 (nI_1 _) rfl ?_ | refine in1 C dX5_asItWas_20 rfl rfl ?_
        refine j_goto (tgt := 2) C dX5_asItWas_23 (by decide) ?_
        exact ih (i9 + 1) _ (by omega) (fun q h => by rw [up_ne h]; exact hq9 q h) (fun j hj => if e : j = i9 then (by rw [e, up_at]) else (by rw [up_off (Or.inr e)]; exact hw9 j (by omega)))
  refine j_iconst (v := nI 0) C dX5_asItWas_0 (by decide) ?_
  refine sn1 C dX5_asItWas_1 rfl ?_
  exact loop 6 0 _ (by omega) (fun q _ => rfl) (fun j hj => absurd hj (by omega))
set_option maxRecDepth 100000 in
set_option maxHeartbeats 4000000 in
theorem ev_X5_first {G : GX} {μ : Mem} : Ev G mX5_first 0 [rf G 38] μ (PV (fun μ' => (∀ q, q ≠ 43 → q ≠ 59 → μ' q = μ q) ∧ eqTo 6 (μ' 59) (μ 43) ∧ ∀ j, j < 6 → μ' 43 j = j)) := by
  refine Ev.of (own := RX5) (n := 1) (by decide) rfl rfl (catOK rfl) (fun X C E => ?_)
  show J G X 0 [some _, none] [] _
  have loop : ∀ k i9 ν, i9 + k = 6 → (∀ q, q ≠ 43 → q ≠ 59 → ν q = μ q) → (∀ j, j < i9 → ν 59 j = μ 43 j) → (∀ j, j < i9 → ν 43 j = j) → (∀ j, i9 ≤ j → ν 43 j = μ 43 j) → J G X 2 [some (rf G 38), some (.int (nI i9))] [] ν := by
    intro k
    induction k with
    | zero =>
      intro i9 ν hi hq9 hw9 ho9 hr9
      refine j_iload_n C dX5_first_2 rfl ?_
      refine j_bipush (v := nI 6) C dX5_first_3 (by decide) ?_
      first | refine j_icmp_geN (tgt := 33) C dX5_first_5 (by decide) (by omega) (by omega) (fun c_5 => ?_) (fun c_5 => ?_) | refine j_icmp_ge (tgt := 33) C dX5_first_5 (by decide) (fun c_5 => ?_) (fun c_5 => ?_)
      · exact j_vret C E dX5_first_33 ⟨rfl, hq9, fun j hj => hw9 j (by omega), fun j hj => ho9 j (by omega)⟩
      · exact absurd c_5 (by omega)
    | succ k ih =>
      intro i9 ν hi hq9 hw9 ho9 hr9
      refine j_iload_n C dX5_first_2 rfl ?_
      refine j_bipush (v := nI 6) C dX5_first_3 (by decide) ?_
      first | refine j_icmp_geN (tgt := 33) C dX5_first_5 (by decide) (by omega) (by omega) (fun c_5 => ?_) (fun c_5 => ?_) | refine j_icmp_ge (tgt := 33) C dX5_first_5 (by decide) (fun c_5 => ?_) (fun c_5 => ?_)
      · exact absurd c_5 (by omega)
      · refine j_aload_n C dX5_first_8 rfl ?_
        refine g5_27 C dX5_first_9 lFX5_70 ?_
        refine j_iload_n C dX5_first_12 rfl ?_
        refine j_aload_n C dX5_first_13 rfl ?_
        refine g5_5 C dX5_first_14 lFX5_22 ?_
        refine j_iload_n C dX5_first_17 rfl ?_
        refine j_iald C dX5_first_18 iA_43 (by omega) ?_
        refine J.top (y := nI (μ 43 i9)) (by rw [hr9 i9 (by omega)]) ?_
        refine j_iast C dX5_first_19 iA_59 (by omega) ?_
        refine j_aload_n C dX5_first_20 rfl ?_
        refine g5_5 C dX5_first_21 lFX5_22 ?_
        refine j_iload_n C dX5_first_24 rfl ?_
        refine j_iload_n C dX5_first_25 rfl ?_
        refine j_iast C dX5_first_26 iA_43 (by omega) ?_
        first | refine in1 C dX5_first_27 (nI_1 _) rfl ?_ | refine in1 C dX5_first_27 rfl rfl ?_
        refine j_goto (tgt := 2) C dX5_first_30 (by decide) ?_
        exact ih (i9 + 1) _ (by omega) (fun q h1 h2 => by rw [up_ne h1, up_ne h2]; exact hq9 q h1 h2) (fun j hj => if e : j = i9 then (by rw [e, up_ne (by decide), up_at]) else (by rw [up_ne (by decide), up_off (Or.inr e)]; exact hw9 j (by omega))) (fun j hj => if e : j = i9 then (by rw [e, up_at]) else (by rw [up_off (Or.inr e), up_ne (by decide)]; exact ho9 j (by omega))) (fun j hj => by rw [up_off (Or.inr (by omega)), up_ne (by decide)]; exact hr9 j (by omega))
  refine j_iconst (v := nI 0) C dX5_first_0 (by decide) ?_
  refine sn1 C dX5_first_1 rfl ?_
  exact loop 6 0 _ (by omega) (fun q _ _ => rfl) (fun j hj => absurd hj (by omega)) (fun j hj => absurd hj (by omega)) (fun j _ => rfl)
