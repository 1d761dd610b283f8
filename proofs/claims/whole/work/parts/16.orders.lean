-- ORDERS
def rowM (μ : Mem) (a : Nat) (ρ : Nat → Nat) : Mem := fun q => if q = a then ρ else μ q
theorem rowM_at {μ : Mem} {a : Nat} {ρ : Nat → Nat} : rowM μ a ρ a = ρ := if_pos rfl
theorem rowM_ne {μ : Mem} {a q : Nat} {ρ : Nat → Nat} (h : q ≠ a) : rowM μ a ρ q = μ q := if_neg h
theorem rowM_self {μ : Mem} {a : Nat} : rowM μ a (μ a) = μ := by funext q; by_cases h : q = a; (subst h; exact rowM_at); exact rowM_ne h
theorem rowM_rowM {μ : Mem} {a : Nat} {ρ σ : Nat → Nat} : rowM (rowM μ a ρ) a σ = rowM μ a σ := by funext q; by_cases h : q = a; (subst h; rw [rowM_at, rowM_at]); rw [rowM_ne h, rowM_ne h, rowM_ne h]
theorem up_row {μ : Mem} {a i v : Nat} {ρ : Nat → Nat} : up (rowM μ a ρ) a i v = rowM μ a (u1 ρ i v) := by
  funext q j
  by_cases h : q = a
  · subst h; rw [rowM_at]; simp [up, u1, rowM_at]
  · rw [rowM_ne h]; simp [up, h, rowM_ne h]
def sw (ρ : Nat → Nat) (a b : Nat) : Nat → Nat := fun k => if k = b then ρ a else if k = a then ρ b else ρ k
theorem sw_u1 {ρ : Nat → Nat} {a b : Nat} : u1 (u1 ρ a (ρ b)) b (ρ a) = sw ρ a b := rfl
/-- the place behind the last rising one; 0: none rises -/
def frR (ρ : Nat → Nat) : Nat → Nat
  | 0 => 0
  | r + 1 => if ρ (r + 1) < ρ r then frR ρ r else r + 1
def fgG (ρ : Nat → Nat) (i : Nat) : Nat → Nat
  | 0 => 0
  | g + 1 => if i < g + 1 ∧ ρ (g + 1) < ρ i then fgG ρ i g else g + 1
def rv : Nat → (Nat → Nat) → Nat → Nat → Nat → Nat
  | 0, ρ, _, _ => ρ
  | k + 1, ρ, lo, hi => if lo < hi then rv k (sw ρ lo hi) (lo + 1) (hi - 1) else ρ
def nxF (n : Nat) (ρ : Nat → Nat) : Nat → Nat := rv 6 (sw ρ (frR ρ (n - 1) - 1) (fgG ρ (frR ρ (n - 1) - 1) (n - 1))) (frR ρ (n - 1) - 1 + 1) (n - 1)
theorem frR_le (ρ : Nat → Nat) : ∀ r, frR ρ r ≤ r
  | 0 => Nat.le_refl 0
  | r + 1 => by
    rw [frR]
    split
    · have := frR_le ρ r; omega
    · omega
theorem fgG_le (ρ : Nat → Nat) (i : Nat) : ∀ g, fgG ρ i g ≤ g
  | 0 => Nat.le_refl 0
  | g + 1 => by
    rw [fgG]
    split
    · have := fgG_le ρ i g; omega
    · omega
theorem im1 (r : Nat) : nI r + Int32.ofInt (-1) = nI r - nI 1 := by
  rw [Int32.sub_eq_add_neg]
  rfl
theorem im1s (r : Nat) : nI (r + 1) + Int32.ofInt (-1) = nI r := by
  rw [im1, pk_sub (by omega)]
  rfl
set_option maxRecDepth 100000 in
set_option maxHeartbeats 4000000 in
theorem ev_X1_exchange {G : GX} {μ : Mem} {ρ : Nat → Nat} {a b : Nat} (ha : a < 6) (hb : b < 6) : Ev G mX1_exchange 0 [rf G 30, .int (nI a), .int (nI b)] (rowM μ 31 ρ) (PVe (rowM μ 31 (sw ρ a b))) := by
  refine Ev.of (own := RX1) (n := 1) (by decide) rfl rfl (catOK rfl) (fun X C E => ?_)
  show J G X 0 [some _, some _, some _, none] [] _
  refine j_aload_n C dX1_exchange_0 rfl ?_
  refine g1_0 C dX1_exchange_1 lFX1_9 ?_
  refine j_iload_n C dX1_exchange_4 rfl ?_
  refine j_iald C dX1_exchange_5 iA_31 (by omega) ?_
  refine J.top (y := nI (ρ a)) (by rw [rowM_at]) ?_
  refine sn3 C dX1_exchange_6 rfl ?_
  refine j_aload_n C dX1_exchange_7 rfl ?_
  refine g1_0 C dX1_exchange_8 lFX1_9 ?_
  refine j_iload_n C dX1_exchange_11 rfl ?_
  refine j_aload_n C dX1_exchange_12 rfl ?_
  refine g1_0 C dX1_exchange_13 lFX1_9 ?_
  refine j_iload_n C dX1_exchange_16 rfl ?_
  refine j_iald C dX1_exchange_17 iA_31 (by omega) ?_
  refine J.top (y := nI (ρ b)) (by rw [rowM_at]) ?_
  refine j_iast C dX1_exchange_18 iA_31 (by omega) ?_
  refine J.mem up_row ?_
  refine j_aload_n C dX1_exchange_19 rfl ?_
  refine g1_0 C dX1_exchange_20 lFX1_9 ?_
  refine j_iload_n C dX1_exchange_23 rfl ?_
  refine j_iload_n C dX1_exchange_24 rfl ?_
  refine j_iast C dX1_exchange_25 iA_31 (by omega) ?_
  refine J.mem up_row ?_
  exact j_vret C E dX1_exchange_26 ⟨rfl, rfl⟩
set_option maxRecDepth 100000 in
set_option maxHeartbeats 4000000 in
theorem ev_X1_advance {G : GX} {μ : Mem} (hn : μ 30 1 ≤ 6) (ho : ∀ i, i < μ 30 1 → μ 31 i < 6) : Ev G mX1_advance 1 [rf G 30] μ (PI (fun v μ' => (frR (μ 31) ((μ 30 1) - 1) = 0 ∧ v = nI 0 ∧ μ' = μ) ∨ (0 < frR (μ 31) ((μ 30 1) - 1) ∧ v = nI 1 ∧ μ' = rowM μ 31 (nxF (μ 30 1) (μ 31))))) := by
  refine Ev.of (own := RX1) (n := 4) (by decide) rfl rfl (catOK rfl) (fun X C E => ?_)
  show J G X 0 [some _, none, none, none, none] [] _
  have l3 : ∀ k (ρ : Nat → Nat) (lo hi : Nat) (x1 x2 : Option Value), lo < 8 → hi ≤ lo + k → hi < 6 → (rv k ρ lo hi = nxF (μ 30 1) (μ 31)) → 0 < frR (μ 31) ((μ 30 1) - 1) → noL [some (rf G 30), x1, x2] 3 = true → J G X 91 [some (rf G 30), x1, x2, some (.int (nI lo)), some (.int (nI hi))] [] (rowM μ 31 ρ) := by
    intro k
    induction k with
    | zero =>
      intro ρ lo hi x1 x2 h0 h1 h2 h3 h4 h5
      rw [rv] at h3
      refine j_iload_n C dX1_advance_91 rfl ?_
      refine j_iload C dX1_advance_92 rfl ?_
      first | refine j_icmp_geN (tgt := 113) C dX1_advance_94 (by decide) (by omega) (by omega) (fun c_94 => ?_) (fun c_94 => ?_) | refine j_icmp_ge (tgt := 113) C dX1_advance_94 (by decide) (fun c_94 => ?_) (fun c_94 => ?_)
      · refine j_iconst (v := nI 1) C dX1_advance_113 (by decide) ?_
        exact j_zret C E dX1_advance_114 rfl ⟨_, rfl, Or.inr ⟨h4, rfl, by rw [h3]⟩⟩
      · exact absurd c_94 (by omega)
    | succ k ih =>
      intro ρ lo hi x1 x2 h0 h1 h2 h3 h4 h5
      rw [rv] at h3
      refine j_iload_n C dX1_advance_91 rfl ?_
      refine j_iload C dX1_advance_92 rfl ?_
      first | refine j_icmp_geN (tgt := 113) C dX1_advance_94 (by decide) (by omega) (by omega) (fun c_94 => ?_) (fun c_94 => ?_) | refine j_icmp_ge (tgt := 113) C dX1_advance_94 (by decide) (fun c_94 => ?_) (fun c_94 => ?_)
      · rw [if_neg (by omega)] at h3
        refine j_iconst (v := nI 1) C dX1_advance_113 (by decide) ?_
        exact j_zret C E dX1_advance_114 rfl ⟨_, rfl, Or.inr ⟨h4, rfl, by rw [h3]⟩⟩
      · rw [if_pos (by omega)] at h3
        refine j_aload_n C dX1_advance_97 rfl ?_
        refine j_iload_n C dX1_advance_98 rfl ?_
        refine j_iload C dX1_advance_99 rfl ?_
        refine cVw2 C dX1_advance_101 lMX1_25 myX1_exchange (ev_X1_exchange (by omega) (by omega)) (by omega) rc1 (Nat.le_of_ble_eq_true rfl) ?_
        refine in3 C dX1_advance_104 (nI_1 _) h5 ?_
        obtain ⟨hj, rfl⟩ : ∃ z, hi = z + 1 := ⟨hi - 1, by omega⟩
        refine in4 C dX1_advance_107 (im1s _) rfl ?_
        refine j_goto (tgt := 91) C dX1_advance_110 (by decide) ?_
        exact ih _ (lo + 1) hj x1 x2 (by omega) (by omega) (by omega) h3 h4 h5
  have p73 : ∀ i g, frR (μ 31) ((μ 30 1) - 1) = i + 1 → g = fgG (μ 31) i ((μ 30 1) - 1) → J G X 73 [some (rf G 30), some (.int (nI i)), some (.int (nI g)), none, none] [] μ := by
    intro i g hi hg
    have h1 := frR_le (μ 31) ((μ 30 1) - 1)
    have h2 := fgG_le (μ 31) i ((μ 30 1) - 1)
    refine j_aload_n C dX1_advance_73 rfl ?_
    refine j_iload_n C dX1_advance_74 rfl ?_
    refine j_iload_n C dX1_advance_75 rfl ?_
    refine J.mem (rowM_self (a := 31)).symm ?_
    refine cVw2 C dX1_advance_76 lMX1_25 myX1_exchange (ev_X1_exchange (by omega) (by omega)) (by omega) rc1 (Nat.le_of_ble_eq_true rfl) ?_
    refine j_iload_n C dX1_advance_79 rfl ?_
    refine j_iconst (v := nI 1) C dX1_advance_80 (by decide) ?_
    first | refine j_iaddN C dX1_advance_81 ?_ | refine j_iadd C dX1_advance_81 ?_
    refine sn3 C dX1_advance_82 rfl ?_
    refine j_aload_n C dX1_advance_83 rfl ?_
    refine g1_1 C dX1_advance_84 lFX1_15 ?_
    refine J.top (y := nI (μ 30 1)) (by rw [rowM_ne (by decide)]) ?_
    refine j_iconst (v := nI 1) C dX1_advance_87 (by decide) ?_
    first | refine j_isubN C dX1_advance_88 (by omega) ?_ | refine j_isub C dX1_advance_88 ?_
    refine sl4 C dX1_advance_89 rfl ?_
    exact l3 6 _ (i + 1) ((μ 30 1) - 1) _ _ (by omega) (by omega) (by omega) (by rw [nxF, hi, hg, Nat.add_sub_cancel]) (by omega) rfl
  have l2 : ∀ g i, frR (μ 31) ((μ 30 1) - 1) = i + 1 → g < 6 → g ≤ (μ 30 1) - 1 → fgG (μ 31) i ((μ 30 1) - 1) = fgG (μ 31) i g → J G X 47 [some (rf G 30), some (.int (nI i)), some (.int (nI g)), none, none] [] μ := by
    intro g
    induction g with
    | zero =>
      intro i hi h6 h1 h2
      have h3 := frR_le (μ 31) ((μ 30 1) - 1)
      refine j_iload_n C dX1_advance_47 rfl ?_
      refine j_iload_n C dX1_advance_48 rfl ?_
      first | refine j_icmp_leN (tgt := 73) C dX1_advance_49 (by decide) (by omega) (by omega) (fun c_49 => ?_) (fun c_49 => ?_) | refine j_icmp_le (tgt := 73) C dX1_advance_49 (by decide) (fun c_49 => ?_) (fun c_49 => ?_)
      · exact p73 i 0 hi (by rw [h2, fgG])
      · exact absurd c_49 (by omega)
    | succ g ih =>
      intro i hi h6 h1 h2
      have h3 := frR_le (μ 31) ((μ 30 1) - 1)
      have b1 := ho (g + 1) (by omega)
      have b2 := ho i (by omega)
      refine j_iload_n C dX1_advance_47 rfl ?_
      refine j_iload_n C dX1_advance_48 rfl ?_
      first | refine j_icmp_leN (tgt := 73) C dX1_advance_49 (by decide) (by omega) (by omega) (fun c_49 => ?_) (fun c_49 => ?_) | refine j_icmp_le (tgt := 73) C dX1_advance_49 (by decide) (fun c_49 => ?_) (fun c_49 => ?_)
      · exact p73 i (g + 1) hi (by rw [h2, fgG, if_neg (fun q => by have := q.1; omega)])
      · refine j_aload_n C dX1_advance_52 rfl ?_
        refine g1_0 C dX1_advance_53 lFX1_9 ?_
        refine j_iload_n C dX1_advance_56 rfl ?_
        refine j_iald C dX1_advance_57 iA_31 (by omega) ?_
        refine j_aload_n C dX1_advance_58 rfl ?_
        refine g1_0 C dX1_advance_59 lFX1_9 ?_
        refine j_iload_n C dX1_advance_62 rfl ?_
        refine j_iald C dX1_advance_63 iA_31 (by omega) ?_
        first | refine j_icmp_geN (tgt := 73) C dX1_advance_64 (by decide) (by omega) (by omega) (fun c_64 => ?_) (fun c_64 => ?_) | refine j_icmp_ge (tgt := 73) C dX1_advance_64 (by decide) (fun c_64 => ?_) (fun c_64 => ?_)
        · exact p73 i (g + 1) hi (by rw [h2, fgG, if_neg (fun q => by have := q.2; omega)])
        · refine in2 C dX1_advance_67 (im1s _) rfl ?_
          refine j_goto (tgt := 47) C dX1_advance_70 (by decide) ?_
          exact ih i hi (by omega) (by omega) (by rw [h2, fgG, if_pos ⟨by omega, c_64⟩])
  have p40 : ∀ i, frR (μ 31) ((μ 30 1) - 1) = i + 1 → J G X 40 [some (rf G 30), some (.int (nI i)), none, none, none] [] μ := by
    intro i hi
    have h1 := frR_le (μ 31) ((μ 30 1) - 1)
    refine j_aload_n C dX1_advance_40 rfl ?_
    refine g1_1 C dX1_advance_41 lFX1_15 ?_
    refine j_iconst (v := nI 1) C dX1_advance_44 (by decide) ?_
    first | refine j_isubN C dX1_advance_45 (by omega) ?_ | refine j_isub C dX1_advance_45 ?_
    refine sn2 C dX1_advance_46 rfl ?_
    exact l2 ((μ 30 1) - 1) i hi (by omega) (by omega) rfl
  have l1 : ∀ r, r < 6 → r ≤ (μ 30 1) - 1 → frR (μ 31) ((μ 30 1) - 1) = frR (μ 31) r → ∀ x, x = nI r - nI 1 → J G X 7 [some (rf G 30), some (.int x), none, none, none] [] μ := by
    intro r
    induction r with
    | zero =>
      intro h6 h1 h2 x hx
      have hneg : x < 0 := by rw [hx]; decide
      refine j_iload_n C dX1_advance_7 rfl ?_
      refine j_if_lt (tgt := 34) C dX1_advance_8 (by decide) (fun c_8 => ?_) (fun c_8 => ?_)
      · refine j_iload_n C dX1_advance_34 rfl ?_
        refine j_if_ge (tgt := 40) C dX1_advance_35 (by decide) (fun c_35 => ?_) (fun c_35 => ?_)
        · exact absurd hneg (Int32.not_lt.mpr c_35)
        · refine j_iconst (v := nI 0) C dX1_advance_38 (by decide) ?_
          exact j_zret C E dX1_advance_39 rfl ⟨_, rfl, Or.inl ⟨by rw [h2, frR], rfl, rfl⟩⟩
      · exact absurd hneg c_8
    | succ r ih =>
      intro h6 h1 h2 x hx
      rw [pk_sub (by omega), Nat.add_sub_cancel] at hx
      subst hx
      have b1 := ho (r + 1) (by omega)
      have b2 := ho r (by omega)
      refine j_iload_n C dX1_advance_7 rfl ?_
      refine j_if_ltN (tgt := 34) C dX1_advance_8 (by decide) (by omega) ?_
      refine j_aload_n C dX1_advance_11 rfl ?_
      refine g1_0 C dX1_advance_12 lFX1_9 ?_
      refine j_iload_n C dX1_advance_15 rfl ?_
      refine j_iald C dX1_advance_16 iA_31 (by omega) ?_
      refine j_aload_n C dX1_advance_17 rfl ?_
      refine g1_0 C dX1_advance_18 lFX1_9 ?_
      refine j_iload_n C dX1_advance_21 rfl ?_
      refine j_iconst (v := nI 1) C dX1_advance_22 (by decide) ?_
      first | refine j_iaddN C dX1_advance_23 ?_ | refine j_iadd C dX1_advance_23 ?_
      refine j_iald C dX1_advance_24 iA_31 (by omega) ?_
      first | refine j_icmp_leN (tgt := 34) C dX1_advance_25 (by decide) (by omega) (by omega) (fun c_25 => ?_) (fun c_25 => ?_) | refine j_icmp_le (tgt := 34) C dX1_advance_25 (by decide) (fun c_25 => ?_) (fun c_25 => ?_)
      · refine j_iload_n C dX1_advance_34 rfl ?_
        refine j_if_geN (tgt := 40) C dX1_advance_35 (by decide) (by omega) ?_
        exact p40 r (by rw [h2, frR, if_neg (by omega)])
      · refine in1 C dX1_advance_28 (im1 _) rfl ?_
        refine j_goto (tgt := 7) C dX1_advance_31 (by decide) ?_
        exact ih (by omega) (by omega) (by rw [h2, frR, if_pos c_25]) _ rfl
  rcases Nat.eq_zero_or_pos (μ 30 1) with h0 | h0
  · refine j_aload_n C dX1_advance_0 rfl ?_
    refine g1_1 C dX1_advance_1 lFX1_15 ?_
    rw [h0]
    refine j_iconst (v := nI 2) C dX1_advance_4 (by decide) ?_
    refine j_isub C dX1_advance_5 ?_
    refine sn1 C dX1_advance_6 rfl ?_
    refine j_iload_n C dX1_advance_7 rfl ?_
    refine j_if_lt (tgt := 34) C dX1_advance_8 (by decide) (fun c_8 => ?_) (fun c_8 => ?_)
    · refine j_iload_n C dX1_advance_34 rfl ?_
      refine j_if_ge (tgt := 40) C dX1_advance_35 (by decide) (fun c_35 => ?_) (fun c_35 => ?_)
      · exact absurd c_35 (by decide)
      · refine j_iconst (v := nI 0) C dX1_advance_38 (by decide) ?_
        exact j_zret C E dX1_advance_39 rfl ⟨_, rfl, Or.inl ⟨by rw [h0, frR], rfl, rfl⟩⟩
    · exact absurd (by decide) c_8
  · refine j_aload_n C dX1_advance_0 rfl ?_
    refine g1_1 C dX1_advance_1 lFX1_15 ?_
    refine j_iconst (v := nI 2) C dX1_advance_4 (by decide) ?_
    refine j_isub C dX1_advance_5 ?_
    refine sn1 C dX1_advance_6 rfl ?_
    refine l1 ((μ 30 1) - 1) (by omega) (by omega) rfl _ ?_
    rcases Nat.lt_or_ge 1 (μ 30 1) with q | q
    · rw [pk_sub (by omega), pk_sub (by omega)]
      rfl
    · rw [show (μ 30 1) = 1 by omega]
      decide
set_option maxRecDepth 100000 in
set_option maxHeartbeats 4000000 in
theorem ev_X1_begin {G : GX} {μ : Mem} {n : Nat} (hn : n ≤ 6) : Ev G mX1_begin 0 [rf G 30, .int (nI n)] μ (PV (fun μ' => ∃ ρ : Nat → Nat, μ' = rowM (up μ 30 1 n) 31 ρ ∧ ∀ i, i < n → ρ i = i)) := by
  refine Ev.of (own := RX1) (n := 1) (by decide) rfl rfl (catOK rfl) (fun X C E => ?_)
  show J G X 0 [some _, some _, none] [] _
  have loop : ∀ k i ρ, i + k = n → (∀ j, j < i → ρ j = j) → J G X 7 [some (rf G 30), some (.int (nI n)), some (.int (nI i))] [] (rowM (up μ 30 1 n) 31 ρ) := by
    intro k
    induction k with
    | zero =>
      intro i ρ hi hr
      refine j_iload_n C dX1_begin_7 rfl ?_
      refine j_aload_n C dX1_begin_8 rfl ?_
      refine g1_1 C dX1_begin_9 lFX1_15 ?_
      refine J.top (y := nI n) (by rw [rowM_ne (by decide), up_at]) ?_
      first | refine j_icmp_geN (tgt := 28) C dX1_begin_12 (by decide) (by omega) (by omega) (fun c_12 => ?_) (fun c_12 => ?_) | refine j_icmp_ge (tgt := 28) C dX1_begin_12 (by decide) (fun c_12 => ?_) (fun c_12 => ?_)
      · exact j_vret C E dX1_begin_28 ⟨rfl, ρ, rfl, fun j hj => hr j (by omega)⟩
      · exact absurd c_12 (by omega)
    | succ k ih =>
      intro i ρ hi hr
      refine j_iload_n C dX1_begin_7 rfl ?_
      refine j_aload_n C dX1_begin_8 rfl ?_
      refine g1_1 C dX1_begin_9 lFX1_15 ?_
      refine J.top (y := nI n) (by rw [rowM_ne (by decide), up_at]) ?_
      first | refine j_icmp_geN (tgt := 28) C dX1_begin_12 (by decide) (by omega) (by omega) (fun c_12 => ?_) (fun c_12 => ?_) | refine j_icmp_ge (tgt := 28) C dX1_begin_12 (by decide) (fun c_12 => ?_) (fun c_12 => ?_)
      · exact absurd c_12 (by omega)
      · refine j_aload_n C dX1_begin_15 rfl ?_
        refine g1_0 C dX1_begin_16 lFX1_9 ?_
        refine j_iload_n C dX1_begin_19 rfl ?_
        refine j_iload_n C dX1_begin_20 rfl ?_
        refine j_iast C dX1_begin_21 iA_31 (by omega) ?_
        refine J.mem up_row ?_
        first | refine in2 C dX1_begin_22 (nI_1 _) rfl ?_ | refine in2 C dX1_begin_22 rfl rfl ?_
        refine j_goto (tgt := 7) C dX1_begin_25 (by decide) ?_
        exact ih (i + 1) _ (by omega) (fun j hj => if q : j = i then (by rw [q, u1_at]) else (by rw [u1_ne q]; exact hr j (by omega)))
  refine j_aload_n C dX1_begin_0 rfl ?_
  refine j_iload_n C dX1_begin_1 rfl ?_
  refine p1_1 C dX1_begin_2 lFX1_15 ?_
  refine j_iconst (v := nI 0) C dX1_begin_5 (by decide) ?_
  refine sn2 C dX1_begin_6 rfl ?_
  refine J.mem (rowM_self (a := 31)).symm ?_
  exact loop n 0 _ (by omega) (fun j hj => absurd hj (by omega))
set_option maxRecDepth 100000 in
set_option maxHeartbeats 4000000 in
theorem ev_X1_copyTo {G : GX} {μ : Mem} {o : Nat} (hn : μ 30 1 ≤ 6) (ha_o : isA o 6) : Ev G mX1_copyTo 1 [rf G 30, rf G o] μ (PVe (cp1 μ o 31 (μ 30 1))) := by
  refine Ev.of (own := RX1) (n := 0) (by decide) rfl rfl (catOK rfl) (fun X C E => ?_)
  show J G X 0 [some _, some _] [] _
  refine j_aload_n C dX1_copyTo_0 rfl ?_
  refine g1_0 C dX1_copyTo_1 lFX1_9 ?_
  refine j_iconst (v := nI 0) C dX1_copyTo_4 (by decide) ?_
  refine j_aload_n C dX1_copyTo_5 rfl ?_
  refine j_iconst (v := nI 0) C dX1_copyTo_6 (by decide) ?_
  refine j_aload_n C dX1_copyTo_7 rfl ?_
  refine g1_1 C dX1_copyTo_8 lFX1_15 ?_
  refine j_acopy C dX1_copyTo_11 lMX1_19 iA_31 ha_o (by omega) (by omega) (by omega) (Nat.le_of_ble_eq_true rfl) ?_
  exact j_vret C E dX1_copyTo_14 ⟨rfl, rfl⟩
