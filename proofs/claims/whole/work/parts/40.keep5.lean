-- THE REFERENCE: the house laid by, and taken again
/-- a row of 41 numbers read as a house -/
def unp (σ : Nat → Nat) : Mem := fun k i => if k = 0 then σ 40 else if k = 6 then σ (30 + i) else σ (6 * (k - 1) + i)
def kp1 (μ : Mem) (i : Nat) (σ : Nat → Nat) : Prop := ∀ k f, 1 ≤ k → k ≤ 5 → f < i → σ (6 * (k - 1) + f) = μ (38 + k) f
theorem kp1_next {μ : Mem} {i : Nat} {σ : Nat → Nat} (hi : i < 6) (h : kp1 μ i σ) : kp1 μ (i + 1) (u1 (u1 (u1 (u1 (u1 σ i (μ 39 i)) (6 + i) (μ 40 i)) (12 + i) (μ 41 i)) (18 + i) (μ 42 i)) (24 + i) (μ 43 i)) := by
  intro k f h1 h2 h3
  have hk : k = 1 ∨ k = 2 ∨ k = 3 ∨ k = 4 ∨ k = 5 := by omega
  by_cases e : f = i
  · subst e
    rcases hk with rfl | rfl | rfl | rfl | rfl
    · show _ = μ 39 f
      rw [show 6 * (1 - 1) + f = f by omega, u1_ne (by omega), u1_ne (by omega), u1_ne (by omega), u1_ne (by omega), u1_at]
    · show _ = μ 40 f
      rw [show 6 * (2 - 1) + f = 6 + f by omega, u1_ne (by omega), u1_ne (by omega), u1_ne (by omega), u1_at]
    · show _ = μ 41 f
      rw [show 6 * (3 - 1) + f = 12 + f by omega, u1_ne (by omega), u1_ne (by omega), u1_at]
    · show _ = μ 42 f
      rw [show 6 * (4 - 1) + f = 18 + f by omega, u1_ne (by omega), u1_at]
    · show _ = μ 43 f
      rw [show 6 * (5 - 1) + f = 24 + f by omega, u1_at]
  · have hh := h k f h1 h2 (by omega)
    rw [u1_ne (by omega), u1_ne (by omega), u1_ne (by omega), u1_ne (by omega), u1_ne (by omega)]
    exact hh
set_option maxRecDepth 100000 in
set_option maxHeartbeats 4000000 in
theorem ev_X5_keep_ {G : GX} {o : Nat} {μ : Mem} (ha_o : isA o 41) (ho : o = 56 ∨ o = 57) : Ev G mX5_keep_ 0 [rf G 38, rf G o] μ (PV (fun μ' => ∃ σ : Nat → Nat, μ' = rowM μ o σ ∧ EQ (unp σ) (sh μ 38))) := by
  refine Ev.of (own := RX5) (n := 1) (by decide) rfl rfl (catOK rfl) (fun X C E => ?_)
  show J G X 0 [some _, some _, none] [] _
  have loop2 : ∀ k i9 σ, i9 + k = 10 → kp1 μ 6 σ → (∀ j, j < i9 → σ (30 + j) = μ 44 j) → J G X 73 [some (rf G 38), some (rf G o), some (.int (nI i9))] [] (rowM μ o σ) := by
    intro k
    induction k with
    | zero =>
      intro i9 σ hi hs ht
      refine j_iload_n C dX5_keep__73 rfl ?_
      refine j_bipush (v := nI 10) C dX5_keep__74 (by decide) ?_
      first | refine j_icmp_geN (tgt := 97) C dX5_keep__76 (by decide) (by omega) (by omega) (fun c_76 => ?_) (fun c_76 => ?_) | refine j_icmp_ge (tgt := 97) C dX5_keep__76 (by decide) (fun c_76 => ?_) (fun c_76 => ?_)
      · refine j_aload_n C dX5_keep__97 rfl ?_
        refine j_bipush (v := nI 40) C dX5_keep__98 (by decide) ?_
        refine j_aload_n C dX5_keep__100 rfl ?_
        refine g5_0 C dX5_keep__101 lFX5_79 ?_
        refine J.top (y := nI (μ 38 0)) (by rw [rowM_ne (by omega)]) ?_
        refine j_iast C dX5_keep__104 ha_o (by omega) ?_
        refine J.mem up_row ?_
        exact j_vret C E dX5_keep__105 ⟨rfl, _, rfl, by show u1 σ 40 (μ 38 0) 40 = μ 38 0; exact u1_at, fun k i a b c => by
              have : unp (u1 σ 40 (μ 38 0)) k i = σ (6 * (k - 1) + i) := by
                unfold unp
                rw [if_neg (by omega), if_neg (by omega), u1_ne (by omega)]
              rw [this]
              exact hs k i a b c, fun i hi => by
              show u1 σ 40 (μ 38 0) (30 + i) = _
              rw [u1_ne (by omega)]
              exact ht i (by omega)⟩
      · exact absurd c_76 (by omega)
    | succ k ih =>
      intro i9 σ hi hs ht
      refine j_iload_n C dX5_keep__73 rfl ?_
      refine j_bipush (v := nI 10) C dX5_keep__74 (by decide) ?_
      first | refine j_icmp_geN (tgt := 97) C dX5_keep__76 (by decide) (by omega) (by omega) (fun c_76 => ?_) (fun c_76 => ?_) | refine j_icmp_ge (tgt := 97) C dX5_keep__76 (by decide) (fun c_76 => ?_) (fun c_76 => ?_)
      · exact absurd c_76 (by omega)
      · refine j_aload_n C dX5_keep__79 rfl ?_
        refine j_bipush (v := nI 30) C dX5_keep__80 (by decide) ?_
        refine j_iload_n C dX5_keep__82 rfl ?_
        first | refine j_iaddN C dX5_keep__83 ?_ | refine j_iadd C dX5_keep__83 ?_
        refine j_aload_n C dX5_keep__84 rfl ?_
        refine g5_6 C dX5_keep__85 lFX5_25 ?_
        refine j_iload_n C dX5_keep__88 rfl ?_
        refine j_iald C dX5_keep__89 iA_44 (by omega) ?_
        refine J.top (y := nI (μ 44 i9)) (by rw [rowM_ne (by omega)]) ?_
        refine j_iast C dX5_keep__90 ha_o (by omega) ?_
        refine J.mem up_row ?_
        first | refine in2 C dX5_keep__91 (nI_1 _) rfl ?_ | refine in2 C dX5_keep__91 rfl rfl ?_
        refine j_goto (tgt := 73) C dX5_keep__94 (by decide) ?_
        exact ih (i9 + 1) _ (by omega) (fun k f a b c => by rw [u1_ne (by omega)]; exact hs k f a b c) (fun j hj => if q : j = i9 then (by rw [q, u1_at]) else (by rw [u1_ne (by omega)]; exact ht j (by omega)))
  have loop1 : ∀ k i9 σ, i9 + k = 6 → kp1 μ i9 σ → J G X 2 [some (rf G 38), some (rf G o), some (.int (nI i9))] [] (rowM μ o σ) := by
    intro k
    induction k with
    | zero =>
      intro i9 σ hi hs
      refine j_iload_n C dX5_keep__2 rfl ?_
      refine j_bipush (v := nI 6) C dX5_keep__3 (by decide) ?_
      first | refine j_icmp_geN (tgt := 71) C dX5_keep__5 (by decide) (by omega) (by omega) (fun c_5 => ?_) (fun c_5 => ?_) | refine j_icmp_ge (tgt := 71) C dX5_keep__5 (by decide) (fun c_5 => ?_) (fun c_5 => ?_)
      · refine j_iconst (v := nI 0) C dX5_keep__71 (by decide) ?_
        refine sn2 C dX5_keep__72 rfl ?_
        exact loop2 10 0 σ (by omega) (fun k f a b c => hs k f a b (by omega)) (fun j hj => absurd hj (by omega))
      · exact absurd c_5 (by omega)
    | succ k ih =>
      intro i9 σ hi hs
      refine j_iload_n C dX5_keep__2 rfl ?_
      refine j_bipush (v := nI 6) C dX5_keep__3 (by decide) ?_
      first | refine j_icmp_geN (tgt := 71) C dX5_keep__5 (by decide) (by omega) (by omega) (fun c_5 => ?_) (fun c_5 => ?_) | refine j_icmp_ge (tgt := 71) C dX5_keep__5 (by decide) (fun c_5 => ?_) (fun c_5 => ?_)
      · exact absurd c_5 (by omega)
      · refine j_aload_n C dX5_keep__8 rfl ?_
        refine j_iload_n C dX5_keep__9 rfl ?_
        refine j_aload_n C dX5_keep__10 rfl ?_
        refine g5_1 C dX5_keep__11 lFX5_7 ?_
        refine j_iload_n C dX5_keep__14 rfl ?_
        refine j_iald C dX5_keep__15 iA_39 (by omega) ?_
        refine J.top (y := nI (μ 39 i9)) (by rw [rowM_ne (by omega)]) ?_
        refine j_iast C dX5_keep__16 ha_o (by omega) ?_
        refine J.mem up_row ?_
        refine j_aload_n C dX5_keep__17 rfl ?_
        refine j_bipush (v := nI 6) C dX5_keep__18 (by decide) ?_
        refine j_iload_n C dX5_keep__20 rfl ?_
        first | refine j_iaddN C dX5_keep__21 ?_ | refine j_iadd C dX5_keep__21 ?_
        refine j_aload_n C dX5_keep__22 rfl ?_
        refine g5_2 C dX5_keep__23 lFX5_13 ?_
        refine j_iload_n C dX5_keep__26 rfl ?_
        refine j_iald C dX5_keep__27 iA_40 (by omega) ?_
        refine J.top (y := nI (μ 40 i9)) (by rw [rowM_ne (by omega)]) ?_
        refine j_iast C dX5_keep__28 ha_o (by omega) ?_
        refine J.mem up_row ?_
        refine j_aload_n C dX5_keep__29 rfl ?_
        refine j_bipush (v := nI 12) C dX5_keep__30 (by decide) ?_
        refine j_iload_n C dX5_keep__32 rfl ?_
        first | refine j_iaddN C dX5_keep__33 ?_ | refine j_iadd C dX5_keep__33 ?_
        refine j_aload_n C dX5_keep__34 rfl ?_
        refine g5_3 C dX5_keep__35 lFX5_16 ?_
        refine j_iload_n C dX5_keep__38 rfl ?_
        refine j_iald C dX5_keep__39 iA_41 (by omega) ?_
        refine J.top (y := nI (μ 41 i9)) (by rw [rowM_ne (by omega)]) ?_
        refine j_iast C dX5_keep__40 ha_o (by omega) ?_
        refine J.mem up_row ?_
        refine j_aload_n C dX5_keep__41 rfl ?_
        refine j_bipush (v := nI 18) C dX5_keep__42 (by decide) ?_
        refine j_iload_n C dX5_keep__44 rfl ?_
        first | refine j_iaddN C dX5_keep__45 ?_ | refine j_iadd C dX5_keep__45 ?_
        refine j_aload_n C dX5_keep__46 rfl ?_
        refine g5_4 C dX5_keep__47 lFX5_19 ?_
        refine j_iload_n C dX5_keep__50 rfl ?_
        refine j_iald C dX5_keep__51 iA_42 (by omega) ?_
        refine J.top (y := nI (μ 42 i9)) (by rw [rowM_ne (by omega)]) ?_
        refine j_iast C dX5_keep__52 ha_o (by omega) ?_
        refine J.mem up_row ?_
        refine j_aload_n C dX5_keep__53 rfl ?_
        refine j_bipush (v := nI 24) C dX5_keep__54 (by decide) ?_
        refine j_iload_n C dX5_keep__56 rfl ?_
        first | refine j_iaddN C dX5_keep__57 ?_ | refine j_iadd C dX5_keep__57 ?_
        refine j_aload_n C dX5_keep__58 rfl ?_
        refine g5_5 C dX5_keep__59 lFX5_22 ?_
        refine j_iload_n C dX5_keep__62 rfl ?_
        refine j_iald C dX5_keep__63 iA_43 (by omega) ?_
        refine J.top (y := nI (μ 43 i9)) (by rw [rowM_ne (by omega)]) ?_
        refine j_iast C dX5_keep__64 ha_o (by omega) ?_
        refine J.mem up_row ?_
        first | refine in2 C dX5_keep__65 (nI_1 _) rfl ?_ | refine in2 C dX5_keep__65 rfl rfl ?_
        refine j_goto (tgt := 2) C dX5_keep__68 (by decide) ?_
        exact ih (i9 + 1) _ (by omega) (kp1_next (by omega) hs)
  refine j_iconst (v := nI 0) C dX5_keep__0 (by decide) ?_
  refine sn2 C dX5_keep__1 rfl ?_
  refine J.mem (rowM_self (a := o)).symm ?_
  exact loop1 6 0 _ (by omega) (fun k f _ _ h => absurd h (by omega))
