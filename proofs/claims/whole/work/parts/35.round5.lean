-- THE REFERENCE'S ROUND
def Lo5 (ν μ : Mem) : Prop := ∀ q, (q < 38 ∨ 51 < q ∨ (38 < q ∧ q < 45)) → ν q = μ q
theorem NM_lo {μ0 : Mem} {cm b0 b1 b2 : Nat} {t mi wa se ic sd : Nat → Nat} : Lo5 (NM μ0 cm b0 b1 b2 t mi wa se ic sd) μ0 := fun q hq => NM_off hq
section ROUND5
variable {G : GX} {f : Nat} {μ ν : Mem}
theorem e5_goes (hE : EI (sh μ 38)) (hq : Lo5 ν μ) {a b : Nat} (ha : a ≤ 9) (hb : b ≤ 9) : Ev G mX5_goes 1 [rf G 38, .int (nI a), .int (nI b), .int (nI (μ 44 6))] ν (PIe (nI (tGoes (sh μ 38 6 6) (sh μ 38 6 7) a b)) ν) := by
  have e := hq 44 (by omega)
  have := ev_X5_goes (G := G) (μ := ν) (a9 := a) (b9 := b) (g9 := μ 44 6) ha hb hE.set.2.2.2.2.2.2.1 (by rw [e]; exact hE.set.2.2.2.2.2.2.2.1)
  rw [e] at this
  exact this
theorem e5_comes (hE : EI (sh μ 38)) (hq : Lo5 ν μ) (hf : f < μ 38 0) {c : Nat} (hc : c < 2 ^ 30) : Ev G mX5_comes 0 [rf G 38, .int (nI f), .int (nI c)] ν (PIe (nI (vCome (sh μ 38) f c)) ν) := by
  have h1 := hE.2.1 f hf
  have h6 : μ 38 0 ≤ 6 := hE.1
  have e1 := hq 39 (by omega)
  have e3 := hq 41 (by omega)
  have := ev_X5_comes (G := G) (μ := ν) (f9 := f) (t9 := c) (by omega) (by rw [e1]; exact h1.1) (by rw [e3]; exact h1.2.2.2.1) hc
  rw [e1, e3] at this
  exact this
theorem e5_serves (hE : EI (sh μ 38)) (hq : Lo5 ν μ) (hf : f < μ 38 0) {n : Nat} (hn : n ≤ 20) : Ev G mX5_serves 0 [rf G 38, .int (nI f), .int (nI n)] ν (PIe (nI (tServes (sh μ 38 1 f) (sh μ 38 4 f) n)) ν) := by
  have h1 := hE.2.1 f hf
  have h6 : μ 38 0 ≤ 6 := hE.1
  have e1 := hq 39 (by omega)
  have e4 := hq 42 (by omega)
  have := ev_X5_serves (G := G) (μ := ν) (f9 := f) (n9 := n) (by omega) (by rw [e1]; exact h1.1) (by rw [e4]; exact h1.2.2.2.2) hn
  rw [e1, e4] at this
  exact this
end ROUND5
theorem tk_cases (k a b c : Nat) : (k < a ∧ tkV k a b c = nI 0) ∨ (¬ k < a ∧ 0 < b ∧ tkV k a b c = nI 1) ∨ (¬ k < a ∧ b = 0 ∧ 0 < c ∧ tkV k a b c = nI 2) ∨ (¬ k < a ∧ b = 0 ∧ c = 0 ∧ tkV k a b c = -1) := by
  unfold tkV
  by_cases h1 : k < a
  · exact Or.inl ⟨h1, if_pos h1⟩
  · by_cases h2 : 0 < b
    · exact Or.inr (Or.inl ⟨h1, h2, by rw [if_neg h1, if_pos h2]⟩)
    · by_cases h3 : 0 < c
      · exact Or.inr (Or.inr (Or.inl ⟨h1, by omega, h3, by rw [if_neg h1, if_neg h2, if_pos h3]⟩))
      · exact Or.inr (Or.inr (Or.inr ⟨h1, by omega, by omega, by rw [if_neg h1, if_neg h2, if_neg h3]⟩))
theorem bLess_0 {e k a s : Nat} : bLess 0 e k a s = 0 := by unfold bLess; omega
theorem bLess_next {p e k a s : Nat} (he : e = 1 ∨ e = 3) : bLess (p + 1) e k a s = bLess p e k a s + (if min (p * e + e) (a - k + s) - min (p * e) (a - k + s) = 0 then 1 else 0) := by
  rcases he with rfl | rfl
  · unfold bLess bEaten
    rw [if_neg (by decide), if_neg (by decide)]
    split <;> omega
  · unfold bLess bEaten
    rw [if_pos rfl, if_pos rfl]
    split <;> omega
set_option maxRecDepth 100000 in
set_option maxHeartbeats 4000000 in
theorem j5_buns {G : GX} {X : XC} {μ0 : Mem} {cm i m9 e9 k9 a9 s9 : Nat} {mi wa se ic sd : Nat → Nat} {t0 t1 t2 t3 t4 t5 t6 t7 : Nat} {r : Nat → Nat} {l1 l2 l3 l4 l5 l7 l8 l9 : Option Value} (C : Cx G X RX5 cX5_round 2) (he : e9 = 1 ∨ e9 = 3) (hi : i < μ0 38 0) (hn : μ0 38 0 ≤ 6) (hm : m9 ≤ 20) (ha : a9 ≤ 60) (hs : s9 ≤ 120) (h49 : μ0 44 9 ≤ 20) (hkz : i + 1 = μ0 38 0 → k9 = 0) (hkn : ¬ i + 1 = μ0 38 0 → k9 = μ0 44 9) (b1 b2 : Nat) (hb : b1 + b2 = s9) (x11 x12 x13 x14 : Option Value)
    (kont : ∀ x12 x13 x14 b1 b2, b1 + b2 + ((min (m9 * e9) (a9 - k9 + s9)) - (a9 - k9)) = s9 → J G X 553 [some (rf G 38), l1, l2, l3, l4, l5, some (.int (nI i)), l7, l8, l9, some (.int (nI e9)), some (.int (nI m9)), x12, x13, x14] [] (NM μ0 cm (a9 - min (min (m9 * e9) (a9 - k9 + s9)) (a9 - k9)) b1 b2 (TT t0 t1 t2 t3 t4 (t5 + bLess m9 e9 k9 a9 s9) t6 t7 r) mi wa (u1 se i m9) (u1 ic i (min (min (m9 * e9) (a9 - k9 + s9)) (a9 - k9))) sd)) :
    J G X 438 [some (rf G 38), l1, l2, l3, l4, l5, some (.int (nI i)), l7, l8, l9, some (.int (nI e9)), x11, x12, x13, x14] [] (NM μ0 cm a9 b1 b2 (TT t0 t1 t2 t3 t4 t5 t6 t7 r) mi wa (u1 se i m9) (u1 ic i 0) sd) := by
  have outer : ∀ k p9 x12 x13 x14 b1 b2, p9 + k = m9 → b1 + b2 + ((min (p9 * e9) (a9 - k9 + s9)) - (a9 - k9)) = s9 → J G X 441 [some (rf G 38), l1, l2, l3, l4, l5, some (.int (nI i)), l7, l8, l9, some (.int (nI e9)), some (.int (nI p9)), x12, x13, x14] [] (NM μ0 cm (a9 - min (min (p9 * e9) (a9 - k9 + s9)) (a9 - k9)) b1 b2 (TT t0 t1 t2 t3 t4 (t5 + bLess p9 e9 k9 a9 s9) t6 t7 r) mi wa (u1 se i m9) (u1 ic i (min (min (p9 * e9) (a9 - k9 + s9)) (a9 - k9))) sd) := by
    intro k
    induction k with
    | zero =>
      intro p9 x12 x13 x14 b1 b2 hk hb
      refine j_iload C dX5_round_441 rfl ?_
      refine j_aload_n C dX5_round_443 rfl ?_
      refine g5_11 C dX5_round_444 lFX5_40 ?_
      refine j_iload C dX5_round_447 rfl ?_
      refine na49h C dX5_round_449 (by omega) ?_
      first | refine j_icmp_geN (tgt := 553) C dX5_round_450 (by decide) (by omega) (by omega) (fun c_450 => ?_) (fun c_450 => ?_) | refine j_icmp_ge (tgt := 553) C dX5_round_450 (by decide) (fun c_450 => ?_) (fun c_450 => ?_)
      · have ep9 : p9 = m9 := by omega
        subst ep9
        exact kont x12 x13 x14 b1 b2 hb
      · exact absurd c_450 (by omega)
    | succ k ihp =>
      intro p9 x12 x13 x14 b1 b2 hk hb
      refine j_iload C dX5_round_441 rfl ?_
      refine j_aload_n C dX5_round_443 rfl ?_
      refine g5_11 C dX5_round_444 lFX5_40 ?_
      refine j_iload C dX5_round_447 rfl ?_
      refine na49h C dX5_round_449 (by omega) ?_
      first | refine j_icmp_geN (tgt := 553) C dX5_round_450 (by decide) (by omega) (by omega) (fun c_450 => ?_) (fun c_450 => ?_) | refine j_icmp_ge (tgt := 553) C dX5_round_450 (by decide) (fun c_450 => ?_) (fun c_450 => ?_)
      · exact absurd c_450 (by omega)
      · refine j_iconst (v := nI 0) C dX5_round_453 (by decide) ?_
        refine sl12 C dX5_round_454 rfl ?_
        refine j_iconst (v := nI 0) C dX5_round_456 (by decide) ?_
        refine sl13 C dX5_round_457 rfl ?_
        have inner : ∀ k kk x14 b1 b2, kk + k = e9 → b1 + b2 + ((min (p9 * e9 + kk) (a9 - k9 + s9)) - (a9 - k9)) = s9 → J G X 459 [some (rf G 38), l1, l2, l3, l4, l5, some (.int (nI i)), l7, l8, l9, some (.int (nI e9)), some (.int (nI p9)), some (.int (nI ((min (p9 * e9 + kk) (a9 - k9 + s9)) - (min (p9 * e9) (a9 - k9 + s9))))), some (.int (nI kk)), x14] [] (NM μ0 cm (a9 - min (min (p9 * e9 + kk) (a9 - k9 + s9)) (a9 - k9)) b1 b2 (TT t0 t1 t2 t3 t4 (t5 + bLess p9 e9 k9 a9 s9) t6 t7 r) mi wa (u1 se i m9) (u1 ic i (min (min (p9 * e9 + kk) (a9 - k9 + s9)) (a9 - k9))) sd) := by
          intro k2
          induction k2 with
          | zero =>
            intro kk x14 b1 b2 hk hb
            refine j_iload C dX5_round_459 rfl ?_
            refine j_iload C dX5_round_461 rfl ?_
            first | refine j_icmp_geN (tgt := 532) C dX5_round_463 (by decide) (by omega) (by omega) (fun c_463 => ?_) (fun c_463 => ?_) | refine j_icmp_ge (tgt := 532) C dX5_round_463 (by decide) (fun c_463 => ?_) (fun c_463 => ?_)
            · have ek9 : kk = e9 := by omega
              subst ek9
              have hsm : (p9 + 1) * kk = p9 * kk + kk := Nat.succ_mul p9 kk
              have hbn := bLess_next (p := p9) (k := k9) (a := a9) (s := s9) he
              refine j_iload C dX5_round_532 rfl ?_
              first | refine j_if_neB (tgt := 547) C dX5_round_534 (by decide) (fun c_534 => ?_) (fun c_534 => ?_) | refine j_if_neN (tgt := 547) C dX5_round_534 (by decide) (by omega) (fun c_534 => ?_) (fun c_534 => ?_) | refine j_if_ne (tgt := 547) C dX5_round_534 (by decide) (fun c_534 => ?_) (fun c_534 => ?_)
              · rw [if_neg c_534, Nat.add_zero] at hbn
                first | refine in11 C dX5_round_547 (nI_1 _) rfl ?_ | refine in11 C dX5_round_547 rfl rfl ?_
                refine j_goto (tgt := 441) C dX5_round_550 (by decide) ?_
                have z9 := ihp (p9 + 1) (some (.int (nI (min (p9 * kk + kk) (a9 - k9 + s9) - min (p9 * kk) (a9 - k9 + s9))))) (some (.int (nI kk))) x14 b1 b2 (by omega) (by rw [hsm]; omega)
                rw [hsm, hbn] at z9
                exact z9
              · rw [if_pos c_534] at hbn
                refine j_aload_n C dX5_round_537 rfl ?_
                refine g5_8 C dX5_round_538 lFX5_31 ?_
                refine j_iconst (v := nI 5) C dX5_round_541 (by decide) ?_
                refine j_dup2 C dX5_round_542 rfl rfl ?_
                refine na46_5 C dX5_round_543 ?_
                refine j_iconst (v := nI 1) C dX5_round_544 (by decide) ?_
                first | refine j_iaddN C dX5_round_545 ?_ | refine j_iadd C dX5_round_545 ?_
                refine ns46_5 C dX5_round_546 ?_
                first | refine in11 C dX5_round_547 (nI_1 _) rfl ?_ | refine in11 C dX5_round_547 rfl rfl ?_
                refine j_goto (tgt := 441) C dX5_round_550 (by decide) ?_
                have z9 := ihp (p9 + 1) (some (.int (nI (min (p9 * kk + kk) (a9 - k9 + s9) - min (p9 * kk) (a9 - k9 + s9))))) (some (.int (nI kk))) x14 b1 b2 (by omega) (by rw [hsm]; omega)
                rw [hsm, hbn] at z9
                exact z9
            · exact absurd c_463 (by omega)
          | succ k2 ihk =>
            intro kk x14 b1 b2 hk hb
            refine j_iload C dX5_round_459 rfl ?_
            refine j_iload C dX5_round_461 rfl ?_
            first | refine j_icmp_geN (tgt := 532) C dX5_round_463 (by decide) (by omega) (by omega) (fun c_463 => ?_) (fun c_463 => ?_) | refine j_icmp_ge (tgt := 532) C dX5_round_463 (by decide) (fun c_463 => ?_) (fun c_463 => ?_)
            · exact absurd c_463 (by omega)
            · refine j_aload_n C dX5_round_466 rfl ?_
              refine j_iload C dX5_round_467 rfl ?_
              refine j_aload_n C dX5_round_469 rfl ?_
              refine g5_0N C dX5_round_470 lFX5_79 ?_
              refine j_iconst (v := nI 1) C dX5_round_473 (by decide) ?_
              refine j_isubN C dX5_round_474 (by omega) ?_
              first | refine j_icmp_neN (tgt := 482) C dX5_round_475 (by decide) (by omega) (by omega) (fun c_475 => ?_) (fun c_475 => ?_) | refine j_icmp_ne (tgt := 482) C dX5_round_475 (by decide) (fun c_475 => ?_) (fun c_475 => ?_)
              · have hkl : k9 = μ0 44 9 := hkn (by omega)
                refine j_iconst (v := nI 0) C dX5_round_482 (by decide) ?_
                refine cVe1 C dX5_round_483 lMX5_160 myX5_takes (ev_X5_takes (by omega) (by show a9 - _ ≤ 200; omega) (by show b1 ≤ 200; omega) (by show b2 ≤ 200; omega) (by show μ0 44 9 ≤ 20; exact h49)) (by omega) rc5 (Nat.le_of_ble_eq_true rfl) ?_
                refine J.top (y := tkV k9 (a9 - min (min (p9 * e9 + kk) (a9 - k9 + s9)) (a9 - k9)) b1 b2) (by rw [hkl]; rfl) ?_
                rcases tk_cases k9 (a9 - min (min (p9 * e9 + kk) (a9 - k9 + s9)) (a9 - k9)) b1 b2 with ⟨q1, q2⟩ | ⟨q1, q3, q2⟩ | ⟨q1, q3, q4, q2⟩ | ⟨q1, q3, q4, q2⟩
                · refine J.top q2 ?_
                  refine sl14 C dX5_round_486 rfl ?_
                  refine j_iload C dX5_round_488 rfl ?_
                  refine j_if_ge (tgt := 496) C dX5_round_490 (by decide) (fun c_490 => ?_) (fun c_490 => absurd (by decide) c_490)
                  · refine j_aload_n C dX5_round_496 rfl ?_
                    refine g5_7 C dX5_round_497 lFX5_28 ?_
                    refine j_iload C dX5_round_500 rfl ?_
                    refine j_dup2 C dX5_round_502 rfl rfl ?_
                    refine na45_0 C dX5_round_503 ?_
                    refine j_iconst (v := nI 1) C dX5_round_504 (by decide) ?_
                    refine j_isubN C dX5_round_505 (by omega) ?_
                    refine ns45_0 C dX5_round_506 ?_
                    first | refine in12 C dX5_round_507 (nI_1 _) rfl ?_ | refine in12 C dX5_round_507 rfl rfl ?_
                    refine j_iload C dX5_round_510 rfl ?_
                    refine j_if_neN (tgt := 526) C dX5_round_512 (by decide) (by omega) (fun c_512 => ?_) (fun c_512 => ?_)
                    · exact absurd rfl c_512
                    · refine j_aload_n C dX5_round_515 rfl ?_
                      refine g5_12 C dX5_round_516 lFX5_43 ?_
                      refine j_iload C dX5_round_519 rfl ?_
                      refine j_dup2 C dX5_round_521 rfl rfl ?_
                      refine na50h C dX5_round_522 (by omega) ?_
                      refine j_iconst (v := nI 1) C dX5_round_523 (by decide) ?_
                      first | refine j_iaddN C dX5_round_524 ?_ | refine j_iadd C dX5_round_524 ?_
                      refine ns50h C dX5_round_525 (by omega) ?_
                      first | refine in13 C dX5_round_526 (nI_1 _) rfl ?_ | refine in13 C dX5_round_526 rfl rfl ?_
                      refine j_goto (tgt := 459) C dX5_round_529 (by decide) ?_
                      rw [show ((min (p9 * e9 + kk) (a9 - k9 + s9)) - (min (p9 * e9) (a9 - k9 + s9))) + 1 = (min (p9 * e9 + (kk + 1)) (a9 - k9 + s9)) - (min (p9 * e9) (a9 - k9 + s9)) by omega]
                      rw [show a9 - min (min (p9 * e9 + kk) (a9 - k9 + s9)) (a9 - k9) - 1 = a9 - min (min (p9 * e9 + (kk + 1)) (a9 - k9 + s9)) (a9 - k9) by omega, show min (min (p9 * e9 + kk) (a9 - k9 + s9)) (a9 - k9) + 1 = min (min (p9 * e9 + (kk + 1)) (a9 - k9 + s9)) (a9 - k9) by omega]
                      exact ihk (kk + 1) _ b1 b2 (by omega) (by omega)
                · refine J.top q2 ?_
                  refine sl14 C dX5_round_486 rfl ?_
                  refine j_iload C dX5_round_488 rfl ?_
                  refine j_if_ge (tgt := 496) C dX5_round_490 (by decide) (fun c_490 => ?_) (fun c_490 => absurd (by decide) c_490)
                  · refine j_aload_n C dX5_round_496 rfl ?_
                    refine g5_7 C dX5_round_497 lFX5_28 ?_
                    refine j_iload C dX5_round_500 rfl ?_
                    refine j_dup2 C dX5_round_502 rfl rfl ?_
                    refine na45_1 C dX5_round_503 ?_
                    refine j_iconst (v := nI 1) C dX5_round_504 (by decide) ?_
                    refine j_isubN C dX5_round_505 (by omega) ?_
                    refine ns45_1 C dX5_round_506 ?_
                    first | refine in12 C dX5_round_507 (nI_1 _) rfl ?_ | refine in12 C dX5_round_507 rfl rfl ?_
                    refine j_iload C dX5_round_510 rfl ?_
                    refine j_if_neN (tgt := 526) C dX5_round_512 (by decide) (by omega) (fun c_512 => ?_) (fun c_512 => ?_)
                    · first | refine in13 C dX5_round_526 (nI_1 _) rfl ?_ | refine in13 C dX5_round_526 rfl rfl ?_
                      refine j_goto (tgt := 459) C dX5_round_529 (by decide) ?_
                      rw [show ((min (p9 * e9 + kk) (a9 - k9 + s9)) - (min (p9 * e9) (a9 - k9 + s9))) + 1 = (min (p9 * e9 + (kk + 1)) (a9 - k9 + s9)) - (min (p9 * e9) (a9 - k9 + s9)) by omega]
                      rw [show a9 - min (min (p9 * e9 + kk) (a9 - k9 + s9)) (a9 - k9) = a9 - min (min (p9 * e9 + (kk + 1)) (a9 - k9 + s9)) (a9 - k9) by omega, show min (min (p9 * e9 + kk) (a9 - k9 + s9)) (a9 - k9) = min (min (p9 * e9 + (kk + 1)) (a9 - k9 + s9)) (a9 - k9) by omega]
                      exact ihk (kk + 1) _ (b1 - 1) b2 (by omega) (by omega)
                    · exact absurd c_512 (by omega)
                · refine J.top q2 ?_
                  refine sl14 C dX5_round_486 rfl ?_
                  refine j_iload C dX5_round_488 rfl ?_
                  refine j_if_ge (tgt := 496) C dX5_round_490 (by decide) (fun c_490 => ?_) (fun c_490 => absurd (by decide) c_490)
                  · refine j_aload_n C dX5_round_496 rfl ?_
                    refine g5_7 C dX5_round_497 lFX5_28 ?_
                    refine j_iload C dX5_round_500 rfl ?_
                    refine j_dup2 C dX5_round_502 rfl rfl ?_
                    refine na45_2 C dX5_round_503 ?_
                    refine j_iconst (v := nI 1) C dX5_round_504 (by decide) ?_
                    refine j_isubN C dX5_round_505 (by omega) ?_
                    refine ns45_2 C dX5_round_506 ?_
                    first | refine in12 C dX5_round_507 (nI_1 _) rfl ?_ | refine in12 C dX5_round_507 rfl rfl ?_
                    refine j_iload C dX5_round_510 rfl ?_
                    refine j_if_neN (tgt := 526) C dX5_round_512 (by decide) (by omega) (fun c_512 => ?_) (fun c_512 => ?_)
                    · first | refine in13 C dX5_round_526 (nI_1 _) rfl ?_ | refine in13 C dX5_round_526 rfl rfl ?_
                      refine j_goto (tgt := 459) C dX5_round_529 (by decide) ?_
                      rw [show ((min (p9 * e9 + kk) (a9 - k9 + s9)) - (min (p9 * e9) (a9 - k9 + s9))) + 1 = (min (p9 * e9 + (kk + 1)) (a9 - k9 + s9)) - (min (p9 * e9) (a9 - k9 + s9)) by omega]
                      rw [show a9 - min (min (p9 * e9 + kk) (a9 - k9 + s9)) (a9 - k9) = a9 - min (min (p9 * e9 + (kk + 1)) (a9 - k9 + s9)) (a9 - k9) by omega, show min (min (p9 * e9 + kk) (a9 - k9 + s9)) (a9 - k9) = min (min (p9 * e9 + (kk + 1)) (a9 - k9 + s9)) (a9 - k9) by omega]
                      exact ihk (kk + 1) _ b1 (b2 - 1) (by omega) (by omega)
                    · exact absurd c_512 (by omega)
                · refine J.top q2 ?_
                  refine sl14 C dX5_round_486 rfl ?_
                  refine j_iload C dX5_round_488 rfl ?_
                  refine j_if_ge (tgt := 496) C dX5_round_490 (by decide) (fun c_490 => absurd c_490 (by decide)) (fun c_490 => ?_)
                  · refine j_goto (tgt := 526) C dX5_round_493 (by decide) ?_
                    first | refine in13 C dX5_round_526 (nI_1 _) rfl ?_ | refine in13 C dX5_round_526 rfl rfl ?_
                    refine j_goto (tgt := 459) C dX5_round_529 (by decide) ?_
                    rw [show (min (p9 * e9 + kk) (a9 - k9 + s9)) = (min (p9 * e9 + (kk + 1)) (a9 - k9 + s9)) by omega]
                    exact ihk (kk + 1) _ b1 b2 (by omega) (by omega)
              · have hkl : k9 = 0 := hkz (by omega)
                refine j_iconst (v := nI 1) C dX5_round_478 (by decide) ?_
                refine j_goto (tgt := 483) C dX5_round_479 (by decide) ?_
                refine cVe1 C dX5_round_483 lMX5_160 myX5_takes (ev_X5_takes (by omega) (by show a9 - _ ≤ 200; omega) (by show b1 ≤ 200; omega) (by show b2 ≤ 200; omega) (by show μ0 44 9 ≤ 20; exact h49)) (by omega) rc5 (Nat.le_of_ble_eq_true rfl) ?_
                refine J.top (y := tkV k9 (a9 - min (min (p9 * e9 + kk) (a9 - k9 + s9)) (a9 - k9)) b1 b2) (by rw [hkl]; rfl) ?_
                rcases tk_cases k9 (a9 - min (min (p9 * e9 + kk) (a9 - k9 + s9)) (a9 - k9)) b1 b2 with ⟨q1, q2⟩ | ⟨q1, q3, q2⟩ | ⟨q1, q3, q4, q2⟩ | ⟨q1, q3, q4, q2⟩
                · refine J.top q2 ?_
                  refine sl14 C dX5_round_486 rfl ?_
                  refine j_iload C dX5_round_488 rfl ?_
                  refine j_if_ge (tgt := 496) C dX5_round_490 (by decide) (fun c_490 => ?_) (fun c_490 => absurd (by decide) c_490)
                  · refine j_aload_n C dX5_round_496 rfl ?_
                    refine g5_7 C dX5_round_497 lFX5_28 ?_
                    refine j_iload C dX5_round_500 rfl ?_
                    refine j_dup2 C dX5_round_502 rfl rfl ?_
                    refine na45_0 C dX5_round_503 ?_
                    refine j_iconst (v := nI 1) C dX5_round_504 (by decide) ?_
                    refine j_isubN C dX5_round_505 (by omega) ?_
                    refine ns45_0 C dX5_round_506 ?_
                    first | refine in12 C dX5_round_507 (nI_1 _) rfl ?_ | refine in12 C dX5_round_507 rfl rfl ?_
                    refine j_iload C dX5_round_510 rfl ?_
                    refine j_if_neN (tgt := 526) C dX5_round_512 (by decide) (by omega) (fun c_512 => ?_) (fun c_512 => ?_)
                    · exact absurd rfl c_512
                    · refine j_aload_n C dX5_round_515 rfl ?_
                      refine g5_12 C dX5_round_516 lFX5_43 ?_
                      refine j_iload C dX5_round_519 rfl ?_
                      refine j_dup2 C dX5_round_521 rfl rfl ?_
                      refine na50h C dX5_round_522 (by omega) ?_
                      refine j_iconst (v := nI 1) C dX5_round_523 (by decide) ?_
                      first | refine j_iaddN C dX5_round_524 ?_ | refine j_iadd C dX5_round_524 ?_
                      refine ns50h C dX5_round_525 (by omega) ?_
                      first | refine in13 C dX5_round_526 (nI_1 _) rfl ?_ | refine in13 C dX5_round_526 rfl rfl ?_
                      refine j_goto (tgt := 459) C dX5_round_529 (by decide) ?_
                      rw [show ((min (p9 * e9 + kk) (a9 - k9 + s9)) - (min (p9 * e9) (a9 - k9 + s9))) + 1 = (min (p9 * e9 + (kk + 1)) (a9 - k9 + s9)) - (min (p9 * e9) (a9 - k9 + s9)) by omega]
                      rw [show a9 - min (min (p9 * e9 + kk) (a9 - k9 + s9)) (a9 - k9) - 1 = a9 - min (min (p9 * e9 + (kk + 1)) (a9 - k9 + s9)) (a9 - k9) by omega, show min (min (p9 * e9 + kk) (a9 - k9 + s9)) (a9 - k9) + 1 = min (min (p9 * e9 + (kk + 1)) (a9 - k9 + s9)) (a9 - k9) by omega]
                      exact ihk (kk + 1) _ b1 b2 (by omega) (by omega)
                · refine J.top q2 ?_
                  refine sl14 C dX5_round_486 rfl ?_
                  refine j_iload C dX5_round_488 rfl ?_
                  refine j_if_ge (tgt := 496) C dX5_round_490 (by decide) (fun c_490 => ?_) (fun c_490 => absurd (by decide) c_490)
                  · refine j_aload_n C dX5_round_496 rfl ?_
                    refine g5_7 C dX5_round_497 lFX5_28 ?_
                    refine j_iload C dX5_round_500 rfl ?_
                    refine j_dup2 C dX5_round_502 rfl rfl ?_
                    refine na45_1 C dX5_round_503 ?_
                    refine j_iconst (v := nI 1) C dX5_round_504 (by decide) ?_
                    refine j_isubN C dX5_round_505 (by omega) ?_
                    refine ns45_1 C dX5_round_506 ?_
                    first | refine in12 C dX5_round_507 (nI_1 _) rfl ?_ | refine in12 C dX5_round_507 rfl rfl ?_
                    refine j_iload C dX5_round_510 rfl ?_
                    refine j_if_neN (tgt := 526) C dX5_round_512 (by decide) (by omega) (fun c_512 => ?_) (fun c_512 => ?_)
                    · first | refine in13 C dX5_round_526 (nI_1 _) rfl ?_ | refine in13 C dX5_round_526 rfl rfl ?_
                      refine j_goto (tgt := 459) C dX5_round_529 (by decide) ?_
                      rw [show ((min (p9 * e9 + kk) (a9 - k9 + s9)) - (min (p9 * e9) (a9 - k9 + s9))) + 1 = (min (p9 * e9 + (kk + 1)) (a9 - k9 + s9)) - (min (p9 * e9) (a9 - k9 + s9)) by omega]
                      rw [show a9 - min (min (p9 * e9 + kk) (a9 - k9 + s9)) (a9 - k9) = a9 - min (min (p9 * e9 + (kk + 1)) (a9 - k9 + s9)) (a9 - k9) by omega, show min (min (p9 * e9 + kk) (a9 - k9 + s9)) (a9 - k9) = min (min (p9 * e9 + (kk + 1)) (a9 - k9 + s9)) (a9 - k9) by omega]
                      exact ihk (kk + 1) _ (b1 - 1) b2 (by omega) (by omega)
                    · exact absurd c_512 (by omega)
                · refine J.top q2 ?_
                  refine sl14 C dX5_round_486 rfl ?_
                  refine j_iload C dX5_round_488 rfl ?_
                  refine j_if_ge (tgt := 496) C dX5_round_490 (by decide) (fun c_490 => ?_) (fun c_490 => absurd (by decide) c_490)
                  · refine j_aload_n C dX5_round_496 rfl ?_
                    refine g5_7 C dX5_round_497 lFX5_28 ?_
                    refine j_iload C dX5_round_500 rfl ?_
                    refine j_dup2 C dX5_round_502 rfl rfl ?_
                    refine na45_2 C dX5_round_503 ?_
                    refine j_iconst (v := nI 1) C dX5_round_504 (by decide) ?_
                    refine j_isubN C dX5_round_505 (by omega) ?_
                    refine ns45_2 C dX5_round_506 ?_
                    first | refine in12 C dX5_round_507 (nI_1 _) rfl ?_ | refine in12 C dX5_round_507 rfl rfl ?_
                    refine j_iload C dX5_round_510 rfl ?_
                    refine j_if_neN (tgt := 526) C dX5_round_512 (by decide) (by omega) (fun c_512 => ?_) (fun c_512 => ?_)
                    · first | refine in13 C dX5_round_526 (nI_1 _) rfl ?_ | refine in13 C dX5_round_526 rfl rfl ?_
                      refine j_goto (tgt := 459) C dX5_round_529 (by decide) ?_
                      rw [show ((min (p9 * e9 + kk) (a9 - k9 + s9)) - (min (p9 * e9) (a9 - k9 + s9))) + 1 = (min (p9 * e9 + (kk + 1)) (a9 - k9 + s9)) - (min (p9 * e9) (a9 - k9 + s9)) by omega]
                      rw [show a9 - min (min (p9 * e9 + kk) (a9 - k9 + s9)) (a9 - k9) = a9 - min (min (p9 * e9 + (kk + 1)) (a9 - k9 + s9)) (a9 - k9) by omega, show min (min (p9 * e9 + kk) (a9 - k9 + s9)) (a9 - k9) = min (min (p9 * e9 + (kk + 1)) (a9 - k9 + s9)) (a9 - k9) by omega]
                      exact ihk (kk + 1) _ b1 (b2 - 1) (by omega) (by omega)
                    · exact absurd c_512 (by omega)
                · refine J.top q2 ?_
                  refine sl14 C dX5_round_486 rfl ?_
                  refine j_iload C dX5_round_488 rfl ?_
                  refine j_if_ge (tgt := 496) C dX5_round_490 (by decide) (fun c_490 => absurd c_490 (by decide)) (fun c_490 => ?_)
                  · refine j_goto (tgt := 526) C dX5_round_493 (by decide) ?_
                    first | refine in13 C dX5_round_526 (nI_1 _) rfl ?_ | refine in13 C dX5_round_526 rfl rfl ?_
                    refine j_goto (tgt := 459) C dX5_round_529 (by decide) ?_
                    rw [show (min (p9 * e9 + kk) (a9 - k9 + s9)) = (min (p9 * e9 + (kk + 1)) (a9 - k9 + s9)) by omega]
                    exact ihk (kk + 1) _ b1 b2 (by omega) (by omega)
        have z9 := inner e9 0 x14 b1 b2 (by omega) (by rw [Nat.add_zero]; exact hb)
        rw [Nat.add_zero, Nat.sub_self] at z9
        exact z9
  refine j_iconst (v := nI 0) C dX5_round_438 (by decide) ?_
  refine sl11 C dX5_round_439 rfl ?_
  have z9 := outer m9 0 x12 x13 x14 b1 b2 (by omega) (by rw [Nat.zero_mul]; omega)
  rw [Nat.zero_mul, Nat.zero_min, Nat.zero_min, bLess_0, Nat.add_zero, Nat.sub_zero] at z9
  exact z9
