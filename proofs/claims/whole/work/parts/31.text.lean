-- THE READER: a whole text
theorem slen_3 {c : Nat} (h : 0 < slen c) : 3 ≤ slen c := by
  rcases slen_0.mp h with rfl | rfl | rfl | rfl | rfl | rfl | rfl <;> decide
theorem bad_le {L : Nat → Nat} {n a w : Nat} (ha : a < n) (h : bad L n a w) : w ≤ n := by
  rcases h with ⟨-, h⟩ | ⟨-, i, h1, h2, h3, h4, -⟩
  · omega
  · by_cases e : i = 1
    · omega
    · have := (h4 (i - 1) (by omega) (by omega)).1
      omega
theorem badA_le {L : Nat → Nat} {n w : Nat} : ∀ (k a : Nat), badA L n w k a → w ≤ n
  | 0, _, h => h.elim
  | k + 1, a, h => by
    rcases h.2 with q | q
    · exact bad_le h.1 q
    · exact badA_le k _ q.2
theorem bad_uniq {L : Nat → Nat} {n a w w' : Nat} (h : bad L n a w) (h' : bad L n a w') : w = w' := by
  rcases h with ⟨p1, p2⟩ | ⟨p1, i, i1, i2, i3, i4, i5⟩ <;> rcases h' with ⟨r1, r2⟩ | ⟨r1, j, j1, j2, j3, j4, j5⟩
  · omega
  · omega
  · omega
  · rcases Nat.lt_trichotomy i j with q | q | q
    · have := j4 i i1 q
      rcases i5 with z | z
      · omega
      · exact absurd this.2 z
    · omega
    · have := i4 j j1 q
      rcases j5 with z | z
      · omega
      · exact absurd this.2 z
theorem bad_WF {L : Nat → Nat} {n a w : Nat} (h : bad L n a w) (hW : WF L n a) : False := by
  rcases h with ⟨p1, p2⟩ | ⟨p1, i, i1, i2, i3, i4, i5⟩
  · have := hW.1; omega
  · have := hW.2.1
    rcases i5 with z | z
    · omega
    · exact z (hW.2.2 i i1 i2)
theorem badA_uniq {L : Nat → Nat} {n w w' : Nat} : ∀ (k k' a : Nat), badA L n w k a → badA L n w' k' a → w = w'
  | 0, _, _, h, _ => h.elim
  | _, 0, _, _, h => h.elim
  | k + 1, k' + 1, a, h, h' => by
    rcases h.2 with p | p <;> rcases h'.2 with r | r
    · exact bad_uniq p r
    · exact (bad_WF p r.1).elim
    · exact (bad_WF r p.1).elim
    · exact badA_uniq k k' _ p.2 r.2
theorem good_bad {L : Nat → Nat} {n w : Nat} : ∀ (k k' a : Nat), good L n k a → badA L n w k' a → False
  | _, 0, _, _, h => h
  | 0, k' + 1, a, g, h => absurd h.1 (Nat.not_lt.mpr g)
  | k + 1, k' + 1, a, g, h => by
    rcases g with g | ⟨g1, g2, g3⟩
    · exact absurd h.1 (Nat.not_lt.mpr g)
    · rcases h.2 with p | p
      · exact bad_WF p g2
      · exact good_bad k k' _ g3 p.2
/-- what comes of the statements from a on: v, and the house F if all are as they must be -/
def runA (L : Nat → Nat) (n : Nat) : Nat → Nat → Mem → Nat → Int32 → Mem → Prop
  | 0, a, E, c, v, F => n ≤ a ∧ v = nI c ∧ F = E
  | k + 1, a, E, c, v, F => (n ≤ a ∧ v = nI c ∧ F = E) ∨ (a < n ∧ ((okE L a E ∧ runA L n k (a + slen (L a)) (apE L a E) (c + 1) v F) ∨ (¬ okE L a E ∧ v = -2000 - nI a)))
/-- what is told by a wrong letter -/
def FW (L : Nat → Nat) (n : Nat) (v : Int32) : Prop := (n = 0 ∧ v = nI 0) ∨ (0 < n ∧ ((good L n n 0 ∧ v = -1) ∨ ∃ w, badA L n w n 0 ∧ v = nI w))
set_option maxRecDepth 100000 in
set_option maxHeartbeats 4000000 in
theorem ev_X2_firstWrong {G : GX} {μ : Mem} (hn : μ 34 1 ≤ 96) (hL9 : ∀ j, j < 96 → μ 35 j ≤ 255) : Ev G mX2_firstWrongLetter 2 [rf G 34] μ (PI (fun v μ' => μ' = μ ∧ FW (μ 35) (μ 34 1) v)) := by
  refine Ev.of (own := RX2) (n := 3) (by decide) rfl rfl (catOK rfl) (fun X C E => ?_)
  show J G X 0 [some _, none, none, none] [] _
  refine j_aload_n C dX2_firstWrongLetter_0 rfl ?_
  refine g2_1 C dX2_firstWrongLetter_1 lFX2_15 ?_
  first | refine j_if_neB (tgt := 9) C dX2_firstWrongLetter_4 (by decide) (fun c_4 => ?_) (fun c_4 => ?_) | refine j_if_neN (tgt := 9) C dX2_firstWrongLetter_4 (by decide) (by omega) (fun c_4 => ?_) (fun c_4 => ?_) | refine j_if_ne (tgt := 9) C dX2_firstWrongLetter_4 (by decide) (fun c_4 => ?_) (fun c_4 => ?_)
  · refine j_iconst (v := nI 0) C dX2_firstWrongLetter_9 (by decide) ?_
    refine sn1 C dX2_firstWrongLetter_10 rfl ?_
    have outer : ∀ k a9 x2 x3, a9 ≤ μ 34 1 → μ 34 1 ≤ a9 + k → (∀ v9, ((good (μ 35) (μ 34 1) k a9 ∧ v9 = -1) ∨ ∃ w9, badA (μ 35) (μ 34 1) w9 k a9 ∧ v9 = nI w9) → FW (μ 35) (μ 34 1) v9) → J G X 11 [some (rf G 34), some (.int (nI a9)), x2, x3] [] μ := by
      intro k
      induction k with
      | zero =>
        intro a9 x2 x3 ha9 hk hc9
        refine j_iload_n C dX2_firstWrongLetter_11 rfl ?_
        refine j_aload_n C dX2_firstWrongLetter_12 rfl ?_
        refine g2_1 C dX2_firstWrongLetter_13 lFX2_15 ?_
        first | refine j_icmp_geN (tgt := 91) C dX2_firstWrongLetter_16 (by decide) (by omega) (by omega) (fun c_16 => ?_) (fun c_16 => ?_) | refine j_icmp_ge (tgt := 91) C dX2_firstWrongLetter_16 (by decide) (fun c_16 => ?_) (fun c_16 => ?_)
        · refine j_iconst (v := (-1)) C dX2_firstWrongLetter_91 (by decide) ?_
          exact j_iret C E dX2_firstWrongLetter_92 ⟨_, rfl, rfl, hc9 _ (Or.inl ⟨(by show μ 34 1 ≤ a9; omega), rfl⟩)⟩
        · exact absurd c_16 (by omega)
      | succ k ih =>
        intro a9 x2 x3 ha9 hk hc9
        refine j_iload_n C dX2_firstWrongLetter_11 rfl ?_
        refine j_aload_n C dX2_firstWrongLetter_12 rfl ?_
        refine g2_1 C dX2_firstWrongLetter_13 lFX2_15 ?_
        first | refine j_icmp_geN (tgt := 91) C dX2_firstWrongLetter_16 (by decide) (by omega) (by omega) (fun c_16 => ?_) (fun c_16 => ?_) | refine j_icmp_ge (tgt := 91) C dX2_firstWrongLetter_16 (by decide) (fun c_16 => ?_) (fun c_16 => ?_)
        · refine j_iconst (v := (-1)) C dX2_firstWrongLetter_91 (by decide) ?_
          exact j_iret C E dX2_firstWrongLetter_92 ⟨_, rfl, rfl, hc9 _ (Or.inl ⟨Or.inl c_16, rfl⟩)⟩
        · have hl9 := hL9 a9 (by omega)
          refine j_aload_n C dX2_firstWrongLetter_19 rfl ?_
          refine g2_0 C dX2_firstWrongLetter_20 lFX2_9 ?_
          refine j_iload_n C dX2_firstWrongLetter_23 rfl ?_
          refine j_iald C dX2_firstWrongLetter_24 iA_35 (by omega) ?_
          refine cSe1 C dX2_firstWrongLetter_25 lMX2_27 myX2_lengthOfStatement (ev_X2_len (by omega)) (by omega) (Nat.le_of_ble_eq_true rfl) ?_
          refine sn2 C dX2_firstWrongLetter_28 rfl ?_
          refine j_iload_n C dX2_firstWrongLetter_29 rfl ?_
          have hs9 := slen_b (μ 35 a9)
          first | refine j_if_neB (tgt := 35) C dX2_firstWrongLetter_30 (by decide) (fun c_30 => ?_) (fun c_30 => ?_) | refine j_if_neN (tgt := 35) C dX2_firstWrongLetter_30 (by decide) (by omega) (fun c_30 => ?_) (fun c_30 => ?_) | refine j_if_ne (tgt := 35) C dX2_firstWrongLetter_30 (by decide) (fun c_30 => ?_) (fun c_30 => ?_)
          · refine j_iconst (v := nI 1) C dX2_firstWrongLetter_35 (by decide) ?_
            refine sn3 C dX2_firstWrongLetter_36 rfl ?_
            have hp9 : 0 < slen (μ 35 a9) := Nat.pos_of_ne_zero c_30
            have h39 := slen_3 hp9
            have inner : ∀ j i9, i9 + j = slen (μ 35 a9) → 1 ≤ i9 → (∀ q, 1 ≤ q → q < i9 → a9 + q < μ 34 1 ∧ mayS (μ 35) a9 q (slen (μ 35 a9))) → J G X 37 [some (rf G 34), some (.int (nI a9)), some (.int (nI (slen (μ 35 a9)))), some (.int (nI i9))] [] μ := by
              intro j9
              induction j9 with
              | zero =>
                intro i9 hi hi1 hq9
                refine j_iload_n C dX2_firstWrongLetter_37 rfl ?_
                refine j_iload_n C dX2_firstWrongLetter_38 rfl ?_
                first | refine j_icmp_geN (tgt := 72) C dX2_firstWrongLetter_39 (by decide) (by omega) (by omega) (fun c_39 => ?_) (fun c_39 => ?_) | refine j_icmp_ge (tgt := 72) C dX2_firstWrongLetter_39 (by decide) (fun c_39 => ?_) (fun c_39 => ?_)
                · refine j_iload_n C dX2_firstWrongLetter_72 rfl ?_
                  refine j_iconst (v := nI 1) C dX2_firstWrongLetter_73 (by decide) ?_
                  refine j_aload_n C dX2_firstWrongLetter_74 rfl ?_
                  refine g2_0 C dX2_firstWrongLetter_75 lFX2_9 ?_
                  refine j_iload_n C dX2_firstWrongLetter_78 rfl ?_
                  refine j_iald C dX2_firstWrongLetter_79 iA_35 (by omega) ?_
                  refine cSe1 C dX2_firstWrongLetter_80 lMX2_27 myX2_lengthOfStatement (ev_X2_len (by omega)) (by omega) (Nat.le_of_ble_eq_true rfl) ?_
                  refine j_maxN C dX2_firstWrongLetter_83 lMX2_31 (by omega) (Nat.le_of_ble_eq_true rfl) (by omega) (by omega) ?_
                  refine J.top (y := nI (slen (μ 35 a9))) (by rw [Nat.max_eq_right (by omega)]) ?_
                  first | refine j_iaddN C dX2_firstWrongLetter_86 ?_ | refine j_iadd C dX2_firstWrongLetter_86 ?_
                  refine sn1 C dX2_firstWrongLetter_87 rfl ?_
                  have hW : WF (μ 35) (μ 34 1) a9 := ⟨hp9, (by have := (hq9 (slen (μ 35 a9) - 1) (by omega) (by omega)).1; omega), fun q h1 h2 => (hq9 q h1 (by omega)).2⟩
                  refine j_goto (tgt := 11) C dX2_firstWrongLetter_88 (by decide) ?_
                  exact ih (a9 + slen (μ 35 a9)) _ _ hW.2.1 (by omega) (fun v9 h9 => hc9 v9 (by
                    rcases h9 with ⟨g1, g2⟩ | ⟨w9, g1, g2⟩
                    · exact Or.inl ⟨Or.inr ⟨c_16, hW, g1⟩, g2⟩
                    · exact Or.inr ⟨w9, ⟨c_16, Or.inr ⟨hW, g1⟩⟩, g2⟩))
                · exact absurd c_39 (by omega)
              | succ j9 ij9 =>
                intro i9 hi hi1 hq9
                refine j_iload_n C dX2_firstWrongLetter_37 rfl ?_
                refine j_iload_n C dX2_firstWrongLetter_38 rfl ?_
                first | refine j_icmp_geN (tgt := 72) C dX2_firstWrongLetter_39 (by decide) (by omega) (by omega) (fun c_39 => ?_) (fun c_39 => ?_) | refine j_icmp_ge (tgt := 72) C dX2_firstWrongLetter_39 (by decide) (fun c_39 => ?_) (fun c_39 => ?_)
                · exact absurd c_39 (by omega)
                · refine j_iload_n C dX2_firstWrongLetter_42 rfl ?_
                  refine j_iload_n C dX2_firstWrongLetter_43 rfl ?_
                  first | refine j_iaddN C dX2_firstWrongLetter_44 ?_ | refine j_iadd C dX2_firstWrongLetter_44 ?_
                  refine j_aload_n C dX2_firstWrongLetter_45 rfl ?_
                  refine g2_1 C dX2_firstWrongLetter_46 lFX2_15 ?_
                  first | refine j_icmp_geN (tgt := 62) C dX2_firstWrongLetter_49 (by decide) (by omega) (by omega) (fun c_49 => ?_) (fun c_49 => ?_) | refine j_icmp_ge (tgt := 62) C dX2_firstWrongLetter_49 (by decide) (fun c_49 => ?_) (fun c_49 => ?_)
                  · refine j_iload_n C dX2_firstWrongLetter_62 rfl ?_
                    refine j_iload_n C dX2_firstWrongLetter_63 rfl ?_
                    first | refine j_iaddN C dX2_firstWrongLetter_64 ?_ | refine j_iadd C dX2_firstWrongLetter_64 ?_
                    exact j_iret C E dX2_firstWrongLetter_65 (by first | exact ⟨_, rfl, rfl, hc9 _ (Or.inr ⟨a9 + i9, ⟨c_16, Or.inl (Or.inr ⟨hp9, i9, hi1, c_39, rfl, hq9, Or.inl c_49⟩)⟩, rfl⟩)⟩ | exact ⟨_, rfl, rfl, hc9 _ (Or.inr ⟨a9 + i9, ⟨c_16, Or.inl (Or.inr ⟨hp9, i9, hi1, c_39, rfl, hq9, Or.inr c_59⟩)⟩, rfl⟩)⟩)
                  · refine j_aload_n C dX2_firstWrongLetter_52 rfl ?_
                    refine j_iload_n C dX2_firstWrongLetter_53 rfl ?_
                    refine j_iload_n C dX2_firstWrongLetter_54 rfl ?_
                    refine j_iload_n C dX2_firstWrongLetter_55 rfl ?_
                    refine cVi3 C dX2_firstWrongLetter_56 lMX2_37 myX2_mayStand (ev_X2_mayStand hn (fun j hj => hL9 j (by omega)) (by omega) hi1 c_39 hs9) (by omega) rc2 (Nat.le_of_ble_eq_true rfl) (fun v_56 μ_56 hv_56 => ?_)
                    haveI : Decidable (mayS (μ 35) a9 i9 (slen (μ 35 a9))) := Classical.propDecidable _
                    refine J.top (y := b2i (mayS (μ 35) a9 i9 (slen (μ 35 a9)))) (by rcases hv_56.2 with ⟨m9, e9⟩ | ⟨m9, e9⟩; (rw [e9, b2i_t m9]); rw [e9, b2i_f m9]) ?_
                    refine J.mem hv_56.1 ?_
                    first | refine j_if_neB (tgt := 66) C dX2_firstWrongLetter_59 (by decide) (fun c_59 => ?_) (fun c_59 => ?_) | refine j_if_neN (tgt := 66) C dX2_firstWrongLetter_59 (by decide) (by omega) (fun c_59 => ?_) (fun c_59 => ?_) | refine j_if_ne (tgt := 66) C dX2_firstWrongLetter_59 (by decide) (fun c_59 => ?_) (fun c_59 => ?_)
                    · first | refine in3 C dX2_firstWrongLetter_66 (nI_1 _) rfl ?_ | refine in3 C dX2_firstWrongLetter_66 rfl rfl ?_
                      refine j_goto (tgt := 37) C dX2_firstWrongLetter_69 (by decide) ?_
                      exact ij9 (i9 + 1) (by omega) (by omega) (fun q h1 h2 => if e9 : q = i9 then (by subst e9; exact ⟨by omega, c_59⟩) else hq9 q h1 (by omega))
                    · refine j_iload_n C dX2_firstWrongLetter_62 rfl ?_
                      refine j_iload_n C dX2_firstWrongLetter_63 rfl ?_
                      first | refine j_iaddN C dX2_firstWrongLetter_64 ?_ | refine j_iadd C dX2_firstWrongLetter_64 ?_
                      exact j_iret C E dX2_firstWrongLetter_65 (by first | exact ⟨_, rfl, rfl, hc9 _ (Or.inr ⟨a9 + i9, ⟨c_16, Or.inl (Or.inr ⟨hp9, i9, hi1, c_39, rfl, hq9, Or.inl c_49⟩)⟩, rfl⟩)⟩ | exact ⟨_, rfl, rfl, hc9 _ (Or.inr ⟨a9 + i9, ⟨c_16, Or.inl (Or.inr ⟨hp9, i9, hi1, c_39, rfl, hq9, Or.inr c_59⟩)⟩, rfl⟩)⟩)
            exact inner (slen (μ 35 a9) - 1) 1 (by omega) (by omega) (fun q h1 h2 => absurd h1 (by omega))
          · refine j_iload_n C dX2_firstWrongLetter_33 rfl ?_
            exact j_iret C E dX2_firstWrongLetter_34 ⟨_, rfl, rfl, hc9 _ (Or.inr ⟨a9, ⟨c_16, Or.inl (Or.inl ⟨c_30, rfl⟩)⟩, rfl⟩)⟩
    exact outer (μ 34 1) 0 _ _ (by omega) (by omega) (fun v9 h9 => Or.inr ⟨Nat.pos_of_ne_zero c_4, h9⟩)
  · refine j_iconst (v := nI 0) C dX2_firstWrongLetter_7 (by decide) ?_
    exact j_iret C E dX2_firstWrongLetter_8 ⟨_, rfl, rfl, Or.inl ⟨c_4, rfl⟩⟩
def RI (L : Nat → Nat) (n : Nat) (E : Mem) (v : Int32) (F : Mem) : Prop := (n = 0 ∧ v = -1000) ∨ (0 < n ∧ ((good L n n 0 ∧ runA L n n 0 E 0 v F) ∨ ∃ w, badA L n w n 0 ∧ v = -1000 - nI w))
set_option maxRecDepth 100000 in
set_option maxHeartbeats 4000000 in
theorem ev_X2_readInto {G : GX} {μ : Mem} (hn : μ 34 1 ≤ 96) (hL9 : ∀ j, j < 96 → μ 35 j ≤ 255) (hE : EI (sh μ 8)) (hP : PI5 (sh μ 8)) : Ev G mX2_readInto 4 [rf G 34, rf G 8] μ (PI (fun v μ' => RI (μ 35) (μ 34 1) (sh μ 8) v (sh μ' 8) ∧ FR8 μ μ')) := by
  refine Ev.of (own := RX2) (n := 3) (by decide) rfl rfl (catOK rfl) (fun X C E => ?_)
  show J G X 0 [some _, some _, none, none, none] [] _
  refine j_aload_n C dX2_readInto_0 rfl ?_
  refine cVi0 C dX2_readInto_1 lMX2_19 myX2_firstWrongLetter (ev_X2_firstWrong hn hL9) (by omega) rc2 (Nat.le_of_ble_eq_true rfl) (fun v_1 μ_1 hv_1 => ?_)
  refine J.mem hv_1.1 ?_
  have hv9 := hv_1.2
  refine sn2 C dX2_readInto_4 rfl ?_
  refine j_iload_n C dX2_readInto_5 rfl ?_
  refine j_if_lt (tgt := 15) C dX2_readInto_6 (by decide) (fun c_6 => ?_) (fun c_6 => ?_)
  · refine j_iconst (v := nI 0) C dX2_readInto_15 (by decide) ?_
    refine sn3 C dX2_readInto_16 rfl ?_
    refine j_iconst (v := nI 0) C dX2_readInto_17 (by decide) ?_
    refine sl4 C dX2_readInto_18 rfl ?_
    have hg9 : 0 < μ 34 1 ∧ good (μ 35) (μ 34 1) (μ 34 1) 0 := by
      rcases hv9 with ⟨g1, g2⟩ | ⟨g1, ⟨g2, g3⟩ | ⟨w9, g2, g3⟩⟩
      · rw [g2] at c_6; exact absurd c_6 (by decide)
      · exact ⟨g1, g2⟩
      · rw [g3] at c_6
        exact absurd (nI_0le (by have := badA_le _ _ g2; omega)) (Int32.not_le.mpr c_6)
    have outer : ∀ k a9 c9 x2 ν, a9 ≤ μ 34 1 → μ 34 1 ≤ a9 + k → good (μ 35) (μ 34 1) k a9 → c9 ≤ a9 → EI (sh ν 8) → PI5 (sh ν 8) → FR8 μ ν → (∀ v9 ν9, runA (μ 35) (μ 34 1) k a9 (sh ν 8) c9 v9 (sh ν9 8) → FR8 μ ν9 → RI (μ 35) (μ 34 1) (sh μ 8) v9 (sh ν9 8)) → J G X 20 [some (rf G 34), some (rf G 8), some (.int x2), some (.int (nI c9)), some (.int (nI a9))] [] ν := by
      intro k
      induction k with
      | zero =>
        intro a9 c9 x2 ν ha9 hk hg9 hca hE9 hP9 hf9 hc9
        have r34 : ν 34 = μ 34 := hf9 34 (by omega)
        refine j_iload C dX2_readInto_20 rfl ?_
        refine j_aload_n C dX2_readInto_22 rfl ?_
        refine g2_1 C dX2_readInto_23 lFX2_15 ?_
        refine J.top (y := nI (μ 34 1)) (by rw [r34]) ?_
        first | refine j_icmp_geN (tgt := 71) C dX2_readInto_26 (by decide) (by omega) (by omega) (fun c_26 => ?_) (fun c_26 => ?_) | refine j_icmp_ge (tgt := 71) C dX2_readInto_26 (by decide) (fun c_26 => ?_) (fun c_26 => ?_)
        · refine j_iload_n C dX2_readInto_71 rfl ?_
          exact j_iret C E dX2_readInto_72 ⟨_, rfl, hc9 _ _ ⟨by omega, rfl, rfl⟩ hf9, hf9⟩
        · exact absurd c_26 (by omega)
      | succ k ih =>
        intro a9 c9 x2 ν ha9 hk hg9 hca hE9 hP9 hf9 hc9
        have r34 : ν 34 = μ 34 := hf9 34 (by omega)
        have r35 : ν 35 = μ 35 := hf9 35 (by omega)
        refine j_iload C dX2_readInto_20 rfl ?_
        refine j_aload_n C dX2_readInto_22 rfl ?_
        refine g2_1 C dX2_readInto_23 lFX2_15 ?_
        refine J.top (y := nI (μ 34 1)) (by rw [r34]) ?_
        first | refine j_icmp_geN (tgt := 71) C dX2_readInto_26 (by decide) (by omega) (by omega) (fun c_26 => ?_) (fun c_26 => ?_) | refine j_icmp_ge (tgt := 71) C dX2_readInto_26 (by decide) (fun c_26 => ?_) (fun c_26 => ?_)
        · refine j_iload_n C dX2_readInto_71 rfl ?_
          exact j_iret C E dX2_readInto_72 ⟨_, rfl, hc9 _ _ (Or.inl ⟨c_26, rfl, rfl⟩) hf9, hf9⟩
        · have hW : WF (μ 35) (μ 34 1) a9 := by rcases hg9 with q | q; (exact absurd c_26 (by omega)); exact q.2.1
          have hg9 : good (μ 35) (μ 34 1) k (a9 + slen (μ 35 a9)) := by rcases hg9 with q | q; (exact absurd c_26 (by omega)); exact q.2.2
          have hs9 := slen_b (μ 35 a9)
          have h39 := slen_3 hW.1
          refine j_aload_n C dX2_readInto_29 rfl ?_
          refine j_iload C dX2_readInto_30 rfl ?_
          refine j_aload_n C dX2_readInto_32 rfl ?_
          refine cVi2 C dX2_readInto_33 lMX2_23 myX2_apply (ev_X2_apply (by rw [r34]; exact hn) (fun j hj => by rw [r35]; exact hL9 j hj) (by rw [r34, r35]; exact hW) hE9.1 hP9) (by omega) rc2 (Nat.le_of_ble_eq_true rfl) (fun v_33 μ_33 hv_33 => ?_)
          rw [r35] at hv_33
          rcases hv_33 with ⟨g1, rfl, g3, g4⟩ | ⟨g1, rfl, g4⟩
          · refine j_if_ne (tgt := 46) C dX2_readInto_36 (by decide) (fun c_36 => ?_) (fun c_36 => absurd c_36 (by decide))
            have f9 : FR8 μ μ_33 := hf9.trans g4
            have m34 : μ_33 34 = μ 34 := f9 34 (by omega)
            have m35 : μ_33 35 = μ 35 := f9 35 (by omega)
            first | refine in3 C dX2_readInto_46 (nI_1 _) rfl ?_ | refine in3 C dX2_readInto_46 rfl rfl ?_
            refine j_iload C dX2_readInto_49 rfl ?_
            refine j_iconst (v := nI 1) C dX2_readInto_51 (by decide) ?_
            refine j_aload_n C dX2_readInto_52 rfl ?_
            refine g2_0 C dX2_readInto_53 lFX2_9 ?_
            refine j_iload C dX2_readInto_56 rfl ?_
            refine j_iald C dX2_readInto_58 iA_35 (by omega) ?_
            refine J.top (y := nI (μ 35 a9)) (by rw [m35]) ?_
            refine cSe1 C dX2_readInto_59 lMX2_27 myX2_lengthOfStatement (ev_X2_len (by have := hL9 a9 (by omega); omega)) (by omega) (Nat.le_of_ble_eq_true rfl) ?_
            refine j_maxN C dX2_readInto_62 lMX2_31 (by omega) (Nat.le_of_ble_eq_true rfl) (by omega) (by omega) ?_
            refine J.top (y := nI (slen (μ 35 a9))) (by rw [Nat.max_eq_right (by omega)]) ?_
            first | refine j_iaddN C dX2_readInto_65 ?_ | refine j_iadd C dX2_readInto_65 ?_
            refine sl4 C dX2_readInto_66 rfl ?_
            refine j_goto (tgt := 20) C dX2_readInto_68 (by decide) ?_
            have hok := apE_ok hW hE9 hP9 g1
            exact ih (a9 + slen (μ 35 a9)) (c9 + 1) _ μ_33 hW.2.1 (by omega) hg9 (by omega) (by rw [g3]; exact hok.1) (by rw [g3]; exact hok.2) f9 (fun v9 ν9 h9 hf => hc9 v9 ν9 (Or.inr ⟨c_26, Or.inl ⟨g1, by rw [← g3]; exact h9⟩⟩) hf)
          · refine j_if_ne (tgt := 46) C dX2_readInto_36 (by decide) (fun c_36 => absurd rfl c_36) (fun c_36 => ?_)
            have f9 : FR8 μ μ_33 := hf9.trans g4
            refine j_sipush (v := (-2000)) C dX2_readInto_39 (by decide) ?_
            refine j_iload C dX2_readInto_42 rfl ?_
            refine j_isub C dX2_readInto_44 ?_
            exact j_iret C E dX2_readInto_45 ⟨_, rfl, hc9 _ _ (Or.inr ⟨c_26, Or.inr ⟨g1, rfl⟩⟩) f9, f9⟩
    exact outer (μ 34 1) 0 0 _ μ (by omega) (by omega) hg9.2 (by omega) hE hP (FR8.refl _) (fun v9 ν9 h9 hf => Or.inr ⟨hg9.1, Or.inl ⟨hg9.2, h9⟩⟩)
  · refine j_sipush (v := (-1000)) C dX2_readInto_9 (by decide) ?_
    refine j_iload_n C dX2_readInto_12 rfl ?_
    refine j_isub C dX2_readInto_13 ?_
    exact j_iret C E dX2_readInto_14 (by
        rcases hv9 with ⟨g1, g2⟩ | ⟨g1, ⟨g2, g3⟩ | ⟨w9, g2, g3⟩⟩
        · exact ⟨_, rfl, Or.inl ⟨g1, by rw [g2]; decide⟩, FR8.refl _⟩
        · exact absurd (by rw [g3]; decide) c_6
        · exact ⟨_, rfl, Or.inr ⟨g1, Or.inr ⟨w9, g2, by rw [g3]⟩⟩, FR8.refl _⟩)
