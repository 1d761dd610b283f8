-- THE REFERENCE: a house taken again; image and on
def AI (μ : Mem) (o i : Nat) (ν : Mem) : Prop := (∀ q, q ≤ 38 ∨ 44 ≤ q → ν q = μ q) ∧ ∀ k f, 1 ≤ k → k ≤ 5 → f < i → ν (38 + k) f = μ o (6 * (k - 1) + f)
theorem AI_next {μ ν : Mem} {o i : Nat} (h : AI μ o i ν) : AI μ o (i + 1) (up (up (up (up (up ν 39 i (μ o i)) 40 i (μ o (6 + i))) 41 i (μ o (12 + i))) 42 i (μ o (18 + i))) 43 i (μ o (24 + i))) := by
  refine ⟨fun q hq => by rw [up_ne (by omega), up_ne (by omega), up_ne (by omega), up_ne (by omega), up_ne (by omega)]; exact h.1 q hq, fun k f h1 h2 h3 => ?_⟩
  have hk : k = 1 ∨ k = 2 ∨ k = 3 ∨ k = 4 ∨ k = 5 := by omega
  by_cases e : f = i
  · subst e
    rcases hk with rfl | rfl | rfl | rfl | rfl
    · show up _ 43 f _ 39 f = _
      rw [up_ne (by decide), up_ne (by decide), up_ne (by decide), up_ne (by decide), up_at, show 6 * (1 - 1) + f = f by omega]
    · show up _ 43 f _ 40 f = _
      rw [up_ne (by decide), up_ne (by decide), up_ne (by decide), up_at, show 6 * (2 - 1) + f = 6 + f by omega]
    · show up _ 43 f _ 41 f = _
      rw [up_ne (by decide), up_ne (by decide), up_at, show 6 * (3 - 1) + f = 12 + f by omega]
    · show up _ 43 f _ 42 f = _
      rw [up_ne (by decide), up_at, show 6 * (4 - 1) + f = 18 + f by omega]
    · show up _ 43 f _ 43 f = _
      rw [up_at, show 6 * (5 - 1) + f = 24 + f by omega]
  · rw [up_off (Or.inr e), up_off (Or.inr e), up_off (Or.inr e), up_off (Or.inr e), up_off (Or.inr e)]
    exact h.2 k f h1 h2 (by omega)
set_option maxRecDepth 100000 in
set_option maxHeartbeats 4000000 in
theorem ev_X5_again {G : GX} {o : Nat} {μ : Mem} (ha_o : isA o 41) (ho : o = 56 ∨ o = 57) : Ev G mX5_again 0 [rf G 38, rf G o] μ (PV (fun μ' => EQ (sh μ' 38) (unp (μ o)) ∧ (∀ q, q < 38 ∨ 44 < q → μ' q = μ q) ∧ ∀ k, k ≠ 0 → μ' 38 k = μ 38 k)) := by
  refine Ev.of (own := RX5) (n := 1) (by decide) rfl rfl (catOK rfl) (fun X C E => ?_)
  show J G X 0 [some _, some _, none] [] _
  have loop2 : ∀ k i9 ν, i9 + k = 10 → (∀ q, q ≤ 38 ∨ 44 < q → ν q = μ q) → (∀ k f, 1 ≤ k → k ≤ 5 → f < 6 → ν (38 + k) f = μ o (6 * (k - 1) + f)) → (∀ j, j < i9 → ν 44 j = μ o (30 + j)) → J G X 73 [some (rf G 38), some (rf G o), some (.int (nI i9))] [] ν := by
    intro k
    induction k with
    | zero =>
      intro i9 ν hi ha hs ht
      refine j_iload_n C dX5_again_73 rfl ?_
      refine j_bipush (v := nI 10) C dX5_again_74 (by decide) ?_
      first | refine j_icmp_geN (tgt := 97) C dX5_again_76 (by decide) (by omega) (by omega) (fun c_76 => ?_) (fun c_76 => ?_) | refine j_icmp_ge (tgt := 97) C dX5_again_76 (by decide) (fun c_76 => ?_) (fun c_76 => ?_)
      · refine j_aload_n C dX5_again_97 rfl ?_
        refine j_aload_n C dX5_again_98 rfl ?_
        refine j_bipush (v := nI 40) C dX5_again_99 (by decide) ?_
        refine j_iald C dX5_again_101 ha_o (by omega) ?_
        refine J.top (y := nI (μ o 40)) (by rw [ha o (by omega)]) ?_
        refine p5_0 C dX5_again_102 lFX5_79 ?_
        exact j_vret C E dX5_again_105 ⟨rfl, ⟨up_at, fun k i a b c => by
              show up ν 38 0 (μ o 40) (38 + k) i = _
              rw [up_ne (by omega), hs k i a b c]
              unfold unp
              rw [if_neg (by omega), if_neg (by omega)], fun i hi => by
              show up ν 38 0 (μ o 40) 44 i = _
              rw [up_ne (by omega), ht i (by omega)]
              rfl⟩, fun q hq => by rw [up_ne (by omega)]; exact ha q (by omega), fun k hk => by rw [up_off (Or.inr hk), ha 38 (by omega)]⟩
      · exact absurd c_76 (by omega)
    | succ k ih =>
      intro i9 ν hi ha hs ht
      refine j_iload_n C dX5_again_73 rfl ?_
      refine j_bipush (v := nI 10) C dX5_again_74 (by decide) ?_
      first | refine j_icmp_geN (tgt := 97) C dX5_again_76 (by decide) (by omega) (by omega) (fun c_76 => ?_) (fun c_76 => ?_) | refine j_icmp_ge (tgt := 97) C dX5_again_76 (by decide) (fun c_76 => ?_) (fun c_76 => ?_)
      · exact absurd c_76 (by omega)
      · refine j_aload_n C dX5_again_79 rfl ?_
        refine g5_6 C dX5_again_80 lFX5_25 ?_
        refine j_iload_n C dX5_again_83 rfl ?_
        refine j_aload_n C dX5_again_84 rfl ?_
        refine j_bipush (v := nI 30) C dX5_again_85 (by decide) ?_
        refine j_iload_n C dX5_again_87 rfl ?_
        first | refine j_iaddN C dX5_again_88 ?_ | refine j_iadd C dX5_again_88 ?_
        refine j_iald C dX5_again_89 ha_o (by omega) ?_
        refine J.top (y := nI (μ o (30 + i9))) (by rw [ha o (by omega)]) ?_
        refine j_iast C dX5_again_90 iA_44 (by omega) ?_
        first | refine in2 C dX5_again_91 (nI_1 _) rfl ?_ | refine in2 C dX5_again_91 rfl rfl ?_
        refine j_goto (tgt := 73) C dX5_again_94 (by decide) ?_
        exact ih (i9 + 1) _ (by omega) (fun q hq => by rw [up_ne (by omega)]; exact ha q hq) (fun k f a b c => by rw [up_ne (by omega)]; exact hs k f a b c) (fun j hj => if q : j = i9 then (by rw [q, up_at]) else (by rw [up_off (Or.inr q)]; exact ht j (by omega)))
  have loop1 : ∀ k i9 ν, i9 + k = 6 → AI μ o i9 ν → J G X 2 [some (rf G 38), some (rf G o), some (.int (nI i9))] [] ν := by
    intro k
    induction k with
    | zero =>
      intro i9 ν hi ha
      refine j_iload_n C dX5_again_2 rfl ?_
      refine j_bipush (v := nI 6) C dX5_again_3 (by decide) ?_
      first | refine j_icmp_geN (tgt := 71) C dX5_again_5 (by decide) (by omega) (by omega) (fun c_5 => ?_) (fun c_5 => ?_) | refine j_icmp_ge (tgt := 71) C dX5_again_5 (by decide) (fun c_5 => ?_) (fun c_5 => ?_)
      · refine j_iconst (v := nI 0) C dX5_again_71 (by decide) ?_
        refine sn2 C dX5_again_72 rfl ?_
        exact loop2 10 0 ν (by omega) (fun q hq => ha.1 q (by omega)) (fun k f a b c => ha.2 k f a b (by omega)) (fun j hj => absurd hj (by omega))
      · exact absurd c_5 (by omega)
    | succ k ih =>
      intro i9 ν hi ha
      refine j_iload_n C dX5_again_2 rfl ?_
      refine j_bipush (v := nI 6) C dX5_again_3 (by decide) ?_
      first | refine j_icmp_geN (tgt := 71) C dX5_again_5 (by decide) (by omega) (by omega) (fun c_5 => ?_) (fun c_5 => ?_) | refine j_icmp_ge (tgt := 71) C dX5_again_5 (by decide) (fun c_5 => ?_) (fun c_5 => ?_)
      · exact absurd c_5 (by omega)
      · refine j_aload_n C dX5_again_8 rfl ?_
        refine g5_1 C dX5_again_9 lFX5_7 ?_
        refine j_iload_n C dX5_again_12 rfl ?_
        refine j_aload_n C dX5_again_13 rfl ?_
        refine j_iload_n C dX5_again_14 rfl ?_
        refine j_iald C dX5_again_15 ha_o (by omega) ?_
        refine J.top (y := nI (μ o (i9))) (by rw [ha.1 o (by omega)]) ?_
        refine j_iast C dX5_again_16 iA_39 (by omega) ?_
        refine j_aload_n C dX5_again_17 rfl ?_
        refine g5_2 C dX5_again_18 lFX5_13 ?_
        refine j_iload_n C dX5_again_21 rfl ?_
        refine j_aload_n C dX5_again_22 rfl ?_
        refine j_bipush (v := nI 6) C dX5_again_23 (by decide) ?_
        refine j_iload_n C dX5_again_25 rfl ?_
        first | refine j_iaddN C dX5_again_26 ?_ | refine j_iadd C dX5_again_26 ?_
        refine j_iald C dX5_again_27 ha_o (by omega) ?_
        refine J.top (y := nI (μ o (6 + i9))) (by rw [up_ne (by omega), ha.1 o (by omega)]) ?_
        refine j_iast C dX5_again_28 iA_40 (by omega) ?_
        refine j_aload_n C dX5_again_29 rfl ?_
        refine g5_3 C dX5_again_30 lFX5_16 ?_
        refine j_iload_n C dX5_again_33 rfl ?_
        refine j_aload_n C dX5_again_34 rfl ?_
        refine j_bipush (v := nI 12) C dX5_again_35 (by decide) ?_
        refine j_iload_n C dX5_again_37 rfl ?_
        first | refine j_iaddN C dX5_again_38 ?_ | refine j_iadd C dX5_again_38 ?_
        refine j_iald C dX5_again_39 ha_o (by omega) ?_
        refine J.top (y := nI (μ o (12 + i9))) (by rw [up_ne (by omega), up_ne (by omega), ha.1 o (by omega)]) ?_
        refine j_iast C dX5_again_40 iA_41 (by omega) ?_
        refine j_aload_n C dX5_again_41 rfl ?_
        refine g5_4 C dX5_again_42 lFX5_19 ?_
        refine j_iload_n C dX5_again_45 rfl ?_
        refine j_aload_n C dX5_again_46 rfl ?_
        refine j_bipush (v := nI 18) C dX5_again_47 (by decide) ?_
        refine j_iload_n C dX5_again_49 rfl ?_
        first | refine j_iaddN C dX5_again_50 ?_ | refine j_iadd C dX5_again_50 ?_
        refine j_iald C dX5_again_51 ha_o (by omega) ?_
        refine J.top (y := nI (μ o (18 + i9))) (by rw [up_ne (by omega), up_ne (by omega), up_ne (by omega), ha.1 o (by omega)]) ?_
        refine j_iast C dX5_again_52 iA_42 (by omega) ?_
        refine j_aload_n C dX5_again_53 rfl ?_
        refine g5_5 C dX5_again_54 lFX5_22 ?_
        refine j_iload_n C dX5_again_57 rfl ?_
        refine j_aload_n C dX5_again_58 rfl ?_
        refine j_bipush (v := nI 24) C dX5_again_59 (by decide) ?_
        refine j_iload_n C dX5_again_61 rfl ?_
        first | refine j_iaddN C dX5_again_62 ?_ | refine j_iadd C dX5_again_62 ?_
        refine j_iald C dX5_again_63 ha_o (by omega) ?_
        refine J.top (y := nI (μ o (24 + i9))) (by rw [up_ne (by omega), up_ne (by omega), up_ne (by omega), up_ne (by omega), ha.1 o (by omega)]) ?_
        refine j_iast C dX5_again_64 iA_43 (by omega) ?_
        first | refine in2 C dX5_again_65 (nI_1 _) rfl ?_ | refine in2 C dX5_again_65 rfl rfl ?_
        refine j_goto (tgt := 2) C dX5_again_68 (by decide) ?_
        exact ih (i9 + 1) _ (by omega) (AI_next ha)
  refine j_iconst (v := nI 0) C dX5_again_0 (by decide) ?_
  refine sn2 C dX5_again_1 rfl ?_
  exact loop1 6 0 _ (by omega) ⟨fun q _ => rfl, fun k f _ _ h => absurd h (by omega)⟩
set_option maxRecDepth 100000 in
set_option maxHeartbeats 4000000 in
theorem ev_X5_image {G : GX} {μ : Mem} : Ev G mX5_image 1 [rf G 38] μ (PI (fun v μ' => v = nI (μ 38 0) ∧ ∃ σ : Nat → Nat, μ' = rowM (up μ 38 23 1) 56 σ ∧ EQ (unp σ) (sh μ 38))) := by
  refine Ev.of (own := RX5) (n := 0) (by decide) rfl rfl (catOK rfl) (fun X C E => ?_)
  show J G X 0 [some _] [] _
  refine j_aload_n C dX5_image_0 rfl ?_
  refine j_iconst (v := nI 1) C dX5_image_1 (by decide) ?_
  refine p5_23 C dX5_image_2 lFX5_217 (Or.inr rfl) ?_
  refine j_aload_n C dX5_image_5 rfl ?_
  refine j_aload_n C dX5_image_6 rfl ?_
  refine g5_24 C dX5_image_7 lFX5_61 ?_
  refine cVv1 C dX5_image_10 lMX5_122 myX5_keep_ (ev_X5_keep_ iA_56 (Or.inl rfl)) (by omega) rc5 (Nat.le_of_ble_eq_true rfl) (fun μ_10 hv_10 => ?_)
  obtain ⟨σ, rfl, hσ⟩ := hv_10
  refine j_aload_n C dX5_image_13 rfl ?_
  refine g5_0 C dX5_image_14 lFX5_79 ?_
  refine J.top (y := nI (μ 38 0)) (by rw [rowM_ne (by decide), up_off (Or.inr (by decide))]) ?_
  exact j_iret C E dX5_image_17 ⟨_, rfl, rfl, σ, rfl, hσ.trans (up38_EQ (by decide))⟩
set_option maxRecDepth 100000 in
set_option maxHeartbeats 4000000 in
theorem ev_X5_on {G : GX} {μ : Mem} (ht : μ 38 23 ≤ 1) : Ev G mX5_on 1 [rf G 38] μ (PI (OutG 55 (if μ 38 23 = 0 then 3 else 0) (nI (μ 56 40)) μ (fun μ' => EQ (sh μ' 38) (unp (μ 56)) ∧ (∀ q, q < 38 ∨ 44 < q → μ' q = μ q) ∧ ∀ k, k ≠ 0 → μ' 38 k = μ 38 k))) := by
  refine Ev.of (own := RX5) (n := 0) (by decide) rfl rfl (catOK rfl) (fun X C E => ?_)
  show J G X 0 [some _] [] _
  refine j_aload_n C dX5_on_0 rfl ?_
  refine g5_23 C dX5_on_1 lFX5_217 ?_
  refine j_if_neN (tgt := 14) C dX5_on_4 (by decide) (by omega) (fun c_4 => ?_) (fun c_4 => ?_)
  · refine j_aload_n C dX5_on_14 rfl ?_
    refine j_aload_n C dX5_on_15 rfl ?_
    refine g5_24 C dX5_on_16 lFX5_61 ?_
    refine cVv1 C dX5_on_19 lMX5_126 myX5_again (ev_X5_again iA_56 (Or.inl rfl)) (by omega) rc5 (Nat.le_of_ble_eq_true rfl) (fun μ_19 hv_19 => ?_)
    refine j_aload_n C dX5_on_22 rfl ?_
    refine g5_0 C dX5_on_23 lFX5_79 ?_
    refine J.top (y := nI (μ 56 40)) (congrArg nI hv_19.1.1) ?_
    exact j_iret C E dX5_on_26 (outG_ok (if_neg c_4) rfl hv_19)
  · refine j_aload_n C dX5_on_7 rfl ?_
    refine j_bipush (v := (-3)) C dX5_on_8 (by decide) ?_
    refine cVe1 C dX5_on_10 lMX5_75 myX5_no (ev_X5_no (k := 3) (by decide) (by decide)) (by omega) rc5 (Nat.le_of_ble_eq_true rfl) ?_
    exact j_iret C E dX5_on_13 (outG_no (j := 3) (if_pos c_4) (by decide) (by decide))
