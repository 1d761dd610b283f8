-- THE REFERENCE: the next order
theorem frR_up {ρ : Nat → Nat} : ∀ (r i : Nat), frR ρ r = i + 1 → ¬ ρ (i + 1) < ρ i
  | 0, i, h => by rw [frR] at h; omega
  | r + 1, i, h => by
    rw [frR] at h
    split at h
    · exact frR_up r i h
    · rename_i q
      have e : r = i := by omega
      rw [← e]
      exact q
set_option maxRecDepth 100000 in
set_option maxHeartbeats 4000000 in
theorem ev_X5_next {G : GX} {μ : Mem} (hn : μ 38 0 ≤ 6) (ho : ∀ i, i < μ 38 0 → μ 43 i < 6) : Ev G mX5_next 0 [rf G 38] μ (PI (fun v μ' => (frR (μ 43) ((μ 38 0) - 1) = 0 ∧ v = nI 0 ∧ μ' = μ) ∨ (0 < frR (μ 43) ((μ 38 0) - 1) ∧ v = nI 1 ∧ μ' = rowM μ 43 (nxF (μ 38 0) (μ 43))))) := by
  refine Ev.of (own := RX5) (n := 5) (by decide) rfl rfl (catOK rfl) (fun X C E => ?_)
  show J G X 0 [some _, none, none, none, none, none] [] _
  have l3 : ∀ k (ρ : Nat → Nat) (lo hi : Nat) (x1 x2 x3 : Int32), lo < 8 → hi ≤ lo + k → hi < 6 → (rv k ρ lo hi = nxF (μ 38 0) (μ 43)) → 0 < frR (μ 43) ((μ 38 0) - 1) → J G X 107 [some (rf G 38), some (.int x1), some (.int x2), some (.int x3), some (.int (nI lo)), some (.int (nI hi))] [] (rowM μ 43 ρ) := by
    intro k
    induction k with
    | zero =>
      intro ρ lo hi x1 x2 x3 h0 h1 h2 h3 h4
      rw [rv] at h3
      refine j_iload C dX5_next_107 rfl ?_
      refine j_iload C dX5_next_109 rfl ?_
      first | refine j_icmp_geN (tgt := 153) C dX5_next_111 (by decide) (by omega) (by omega) (fun c_111 => ?_) (fun c_111 => ?_) | refine j_icmp_ge (tgt := 153) C dX5_next_111 (by decide) (fun c_111 => ?_) (fun c_111 => ?_)
      · refine j_iconst (v := nI 1) C dX5_next_153 (by decide) ?_
        exact j_zret C E dX5_next_154 rfl ⟨_, rfl, Or.inr ⟨h4, rfl, by rw [h3]⟩⟩
      · exact absurd c_111 (by omega)
    | succ k ih =>
      intro ρ lo hi x1 x2 x3 h0 h1 h2 h3 h4
      rw [rv] at h3
      refine j_iload C dX5_next_107 rfl ?_
      refine j_iload C dX5_next_109 rfl ?_
      first | refine j_icmp_geN (tgt := 153) C dX5_next_111 (by decide) (by omega) (by omega) (fun c_111 => ?_) (fun c_111 => ?_) | refine j_icmp_ge (tgt := 153) C dX5_next_111 (by decide) (fun c_111 => ?_) (fun c_111 => ?_)
      · rw [if_neg (by omega)] at h3
        refine j_iconst (v := nI 1) C dX5_next_153 (by decide) ?_
        exact j_zret C E dX5_next_154 rfl ⟨_, rfl, Or.inr ⟨h4, rfl, by rw [h3]⟩⟩
      · rw [if_pos (by omega)] at h3
        refine j_aload_n C dX5_next_114 rfl ?_
        refine g5_5 C dX5_next_115 lFX5_22 ?_
        refine j_iload C dX5_next_118 rfl ?_
        refine j_iald C dX5_next_120 iA_43 (by omega) ?_
        refine J.top (y := nI (ρ lo)) (by rw [rowM_at]) ?_
        refine sn3 C dX5_next_121 rfl ?_
        refine j_aload_n C dX5_next_122 rfl ?_
        refine g5_5 C dX5_next_123 lFX5_22 ?_
        refine j_iload C dX5_next_126 rfl ?_
        refine j_aload_n C dX5_next_128 rfl ?_
        refine g5_5 C dX5_next_129 lFX5_22 ?_
        refine j_iload C dX5_next_132 rfl ?_
        refine j_iald C dX5_next_134 iA_43 (by omega) ?_
        refine J.top (y := nI (ρ hi)) (by rw [rowM_at]) ?_
        refine j_iast C dX5_next_135 iA_43 (by omega) ?_
        refine J.mem up_row ?_
        refine j_aload_n C dX5_next_136 rfl ?_
        refine g5_5 C dX5_next_137 lFX5_22 ?_
        refine j_iload C dX5_next_140 rfl ?_
        refine j_iload_n C dX5_next_142 rfl ?_
        refine j_iast C dX5_next_143 iA_43 (by omega) ?_
        refine J.mem up_row ?_
        refine in4 C dX5_next_144 (nI_1 _) rfl ?_
        obtain ⟨hj, rfl⟩ : ∃ z, hi = z + 1 := ⟨hi - 1, by omega⟩
        refine in5 C dX5_next_147 (im1s _) rfl ?_
        refine j_goto (tgt := 107) C dX5_next_150 (by decide) ?_
        exact ih (sw ρ lo (hj + 1)) (lo + 1) hj x1 x2 _ (by omega) (by omega) (by omega) h3 h4
  have p68 : ∀ i g, frR (μ 43) ((μ 38 0) - 1) = i + 1 → i + 1 ≤ g → g = fgG (μ 43) i ((μ 38 0) - 1) → J G X 68 [some (rf G 38), some (.int (nI i)), some (.int (nI g)), none, none, none] [] μ := by
    intro i g hi hig hg
    have h1 := frR_le (μ 43) ((μ 38 0) - 1)
    have h2 := fgG_le (μ 43) i ((μ 38 0) - 1)
    refine J.mem (rowM_self (a := 43)).symm ?_
    refine j_aload_n C dX5_next_68 rfl ?_
    refine g5_5 C dX5_next_69 lFX5_22 ?_
    refine j_iload_n C dX5_next_72 rfl ?_
    refine j_iald C dX5_next_73 iA_43 (by omega) ?_
    refine J.top (y := nI ((μ 43) i)) (by rw [rowM_at]) ?_
    refine sn3 C dX5_next_74 rfl ?_
    refine j_aload_n C dX5_next_75 rfl ?_
    refine g5_5 C dX5_next_76 lFX5_22 ?_
    refine j_iload_n C dX5_next_79 rfl ?_
    refine j_aload_n C dX5_next_80 rfl ?_
    refine g5_5 C dX5_next_81 lFX5_22 ?_
    refine j_iload_n C dX5_next_84 rfl ?_
    refine j_iald C dX5_next_85 iA_43 (by omega) ?_
    refine J.top (y := nI ((μ 43) g)) (by rw [rowM_at]) ?_
    refine j_iast C dX5_next_86 iA_43 (by omega) ?_
    refine J.mem up_row ?_
    refine j_aload_n C dX5_next_87 rfl ?_
    refine g5_5 C dX5_next_88 lFX5_22 ?_
    refine j_iload_n C dX5_next_91 rfl ?_
    refine j_iload_n C dX5_next_92 rfl ?_
    refine j_iast C dX5_next_93 iA_43 (by omega) ?_
    refine J.mem up_row ?_
    refine j_iload_n C dX5_next_94 rfl ?_
    refine j_iconst (v := nI 1) C dX5_next_95 (by decide) ?_
    first | refine j_iaddN C dX5_next_96 ?_ | refine j_iadd C dX5_next_96 ?_
    refine sl4 C dX5_next_97 rfl ?_
    refine j_aload_n C dX5_next_99 rfl ?_
    refine g5_0 C dX5_next_100 lFX5_79 ?_
    refine J.top (y := nI (μ 38 0)) (by rw [rowM_ne (by decide)]) ?_
    refine j_iconst (v := nI 1) C dX5_next_103 (by decide) ?_
    first | refine j_isubN C dX5_next_104 (by omega) ?_ | refine j_isub C dX5_next_104 ?_
    refine sl5 C dX5_next_105 rfl ?_
    exact l3 6 (sw (μ 43) i g) (i + 1) ((μ 38 0) - 1) _ _ _ (by omega) (by omega) (by omega) (by rw [nxF, hi, hg, Nat.add_sub_cancel]) (by omega)
  have l2 : ∀ g i, frR (μ 43) ((μ 38 0) - 1) = i + 1 → i + 1 ≤ g → g < 6 → g ≤ (μ 38 0) - 1 → fgG (μ 43) i ((μ 38 0) - 1) = fgG (μ 43) i g → J G X 47 [some (rf G 38), some (.int (nI i)), some (.int (nI g)), none, none, none] [] μ := by
    intro g
    induction g with
    | zero => intro i hi hig; exact absurd hig (by omega)
    | succ g ih =>
      intro i hi hig h6 h1 h2
      have h3 := frR_le (μ 43) ((μ 38 0) - 1)
      have b1 := ho (g + 1) (by omega)
      have b2 := ho i (by omega)
      refine j_aload_n C dX5_next_47 rfl ?_
      refine g5_5 C dX5_next_48 lFX5_22 ?_
      refine j_iload_n C dX5_next_51 rfl ?_
      refine j_iald C dX5_next_52 iA_43 (by omega) ?_
      refine j_aload_n C dX5_next_53 rfl ?_
      refine g5_5 C dX5_next_54 lFX5_22 ?_
      refine j_iload_n C dX5_next_57 rfl ?_
      refine j_iald C dX5_next_58 iA_43 (by omega) ?_
      first | refine j_icmp_geN (tgt := 68) C dX5_next_59 (by decide) (by omega) (by omega) (fun c_59 => ?_) (fun c_59 => ?_) | refine j_icmp_ge (tgt := 68) C dX5_next_59 (by decide) (fun c_59 => ?_) (fun c_59 => ?_)
      · exact p68 i (g + 1) hi hig (by rw [h2, fgG, if_neg (fun q => by have := q.2; omega)])
      · have hrg : i + 1 ≤ g := by
          rcases Nat.lt_or_ge i g with q | q
          · omega
          · have e : i = g := by omega
            exact absurd (show μ 43 (i + 1) < μ 43 i by rw [e]; rw [e] at c_59; exact c_59) (frR_up _ _ hi)
        refine in2 C dX5_next_62 (im1s _) rfl ?_
        refine j_goto (tgt := 47) C dX5_next_65 (by decide) ?_
        exact ih i hi hrg (by omega) (by omega) (by rw [h2, fgG, if_pos ⟨by omega, c_59⟩])
  have p40 : ∀ i, frR (μ 43) ((μ 38 0) - 1) = i + 1 → J G X 40 [some (rf G 38), some (.int (nI i)), none, none, none, none] [] μ := by
    intro i hi
    have h1 := frR_le (μ 43) ((μ 38 0) - 1)
    refine j_aload_n C dX5_next_40 rfl ?_
    refine g5_0 C dX5_next_41 lFX5_79 ?_
    refine j_iconst (v := nI 1) C dX5_next_44 (by decide) ?_
    first | refine j_isubN C dX5_next_45 (by omega) ?_ | refine j_isub C dX5_next_45 ?_
    refine sn2 C dX5_next_46 rfl ?_
    exact l2 ((μ 38 0) - 1) i hi (by omega) (by omega) (by omega) rfl
  have l1 : ∀ r, r < 6 → r ≤ (μ 38 0) - 1 → frR (μ 43) ((μ 38 0) - 1) = frR (μ 43) r → ∀ x, x = nI r - nI 1 → J G X 7 [some (rf G 38), some (.int x), none, none, none, none] [] μ := by
    intro r
    induction r with
    | zero =>
      intro h6 h1 h2 x hx
      have hneg : x < 0 := by rw [hx]; decide
      refine j_iload_n C dX5_next_7 rfl ?_
      refine j_if_lt (tgt := 34) C dX5_next_8 (by decide) (fun c_8 => ?_) (fun c_8 => ?_)
      · refine j_iload_n C dX5_next_34 rfl ?_
        refine j_if_ge (tgt := 40) C dX5_next_35 (by decide) (fun c_35 => ?_) (fun c_35 => ?_)
        · exact absurd hneg (Int32.not_lt.mpr c_35)
        · refine j_iconst (v := nI 0) C dX5_next_38 (by decide) ?_
          exact j_zret C E dX5_next_39 rfl ⟨_, rfl, Or.inl ⟨by rw [h2, frR], rfl, rfl⟩⟩
      · exact absurd hneg c_8
    | succ r ih =>
      intro h6 h1 h2 x hx
      rw [pk_sub (by omega), Nat.add_sub_cancel] at hx
      subst hx
      have b1 := ho (r + 1) (by omega)
      have b2 := ho r (by omega)
      refine j_iload_n C dX5_next_7 rfl ?_
      refine j_if_ltN (tgt := 34) C dX5_next_8 (by decide) (by omega) ?_
      refine j_aload_n C dX5_next_11 rfl ?_
      refine g5_5 C dX5_next_12 lFX5_22 ?_
      refine j_iload_n C dX5_next_15 rfl ?_
      refine j_iald C dX5_next_16 iA_43 (by omega) ?_
      refine j_aload_n C dX5_next_17 rfl ?_
      refine g5_5 C dX5_next_18 lFX5_22 ?_
      refine j_iload_n C dX5_next_21 rfl ?_
      refine j_iconst (v := nI 1) C dX5_next_22 (by decide) ?_
      first | refine j_iaddN C dX5_next_23 ?_ | refine j_iadd C dX5_next_23 ?_
      refine j_iald C dX5_next_24 iA_43 (by omega) ?_
      first | refine j_icmp_leN (tgt := 34) C dX5_next_25 (by decide) (by omega) (by omega) (fun c_25 => ?_) (fun c_25 => ?_) | refine j_icmp_le (tgt := 34) C dX5_next_25 (by decide) (fun c_25 => ?_) (fun c_25 => ?_)
      · refine j_iload_n C dX5_next_34 rfl ?_
        refine j_if_geN (tgt := 40) C dX5_next_35 (by decide) (by omega) ?_
        exact p40 r (by rw [h2, frR, if_neg (by omega)])
      · refine in1 C dX5_next_28 (im1 _) rfl ?_
        refine j_goto (tgt := 7) C dX5_next_31 (by decide) ?_
        exact ih (by omega) (by omega) (by rw [h2, frR, if_pos c_25]) _ rfl
  rcases Nat.eq_zero_or_pos (μ 38 0) with h0 | h0
  · refine j_aload_n C dX5_next_0 rfl ?_
    refine g5_0 C dX5_next_1 lFX5_79 ?_
    rw [h0]
    refine j_iconst (v := nI 2) C dX5_next_4 (by decide) ?_
    refine j_isub C dX5_next_5 ?_
    refine sn1 C dX5_next_6 rfl ?_
    refine j_iload_n C dX5_next_7 rfl ?_
    refine j_if_lt (tgt := 34) C dX5_next_8 (by decide) (fun c_8 => ?_) (fun c_8 => ?_)
    · refine j_iload_n C dX5_next_34 rfl ?_
      refine j_if_ge (tgt := 40) C dX5_next_35 (by decide) (fun c_35 => ?_) (fun c_35 => ?_)
      · exact absurd c_35 (by decide)
      · refine j_iconst (v := nI 0) C dX5_next_38 (by decide) ?_
        exact j_zret C E dX5_next_39 rfl ⟨_, rfl, Or.inl ⟨by rw [h0, frR], rfl, rfl⟩⟩
    · exact absurd (by decide) c_8
  · refine j_aload_n C dX5_next_0 rfl ?_
    refine g5_0 C dX5_next_1 lFX5_79 ?_
    refine j_iconst (v := nI 2) C dX5_next_4 (by decide) ?_
    refine j_isub C dX5_next_5 ?_
    refine sn1 C dX5_next_6 rfl ?_
    refine l1 ((μ 38 0) - 1) (by omega) (by omega) rfl _ ?_
    rcases Nat.lt_or_ge 1 (μ 38 0) with q | q
    · rw [pk_sub (by omega), pk_sub (by omega)]
      rfl
    · rw [show (μ 38 0) = 1 by omega]
      decide
