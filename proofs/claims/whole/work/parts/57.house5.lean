-- THE REFERENCE READS: a house; like houses and one text give one answer
theorem okE_EQ {L : Nat → Nat} {a : Nat} {E F : Mem} (h : EQ E F) : okE L a E ↔ okE L a F := by
  unfold okE
  rw [h.1]
theorem adE_EQ {E F : Mem} {k l p t : Nat} (h : EQ E F) : EQ (adE E k l p t) (adE F k l p t) := by
  unfold adE
  rw [h.1]
  exact EQ_up (EQ_up (EQ_up (EQ_up (EQ_up (EQ_up h)))))
theorem sw_EQ {E F : Mem} {a b : Nat} (h : EQ E F) (h6 : E 0 0 ≤ 6) : EQ (rowM E 5 (swR (E 5) (E 0 0) a b)) (rowM F 5 (swR (F 5) (F 0 0) a b)) := by
  have e5 : eqTo (E 0 0) (E 5) (F 5) := fun i hi => h.2.1 5 i (by decide) (by decide) (by omega)
  have h0 : E 0 0 = F 0 0 := h.1
  refine ⟨by rw [rowM_ne (by decide), rowM_ne (by decide)]; exact h.1, fun k i q1 q2 q3 => ?_, fun i hi => by rw [rowM_ne (by decide), rowM_ne (by decide)]; exact h.2.2 i hi⟩
  by_cases q : k = 5
  · rw [q, rowM_at, rowM_at, swR_at, swR_at, ← h0, plc_eq (E 0 0) e5, plc_eq (E 0 0) e5, h.2.1 5 i (by decide) (by decide) q3]
  · rw [rowM_ne q, rowM_ne q]; exact h.2.1 k i q1 q2 q3
theorem apE_EQ {L : Nat → Nat} {a : Nat} {E F : Mem} (h : EQ E F) (h6 : E 0 0 ≤ 6) : EQ (apE L a E) (apE L a F) := by
  unfold apE
  (repeat' split) <;> first | exact adE_EQ h | exact EQ_up (EQ_up (EQ_up h)) | exact EQ_up (EQ_up h) | exact EQ_up h | exact sw_EQ h h6
/-- one text, two like houses: one answer, and like houses -/
theorem runA_one {L : Nat → Nat} {n : Nat} : ∀ (k k' a : Nat) (E E' : Mem) (c : Nat) (v v' : Int32) (F F' : Mem), EQ E E' → EI E → PI5 E → good L n k a → n ≤ a + k → n ≤ a + k' → n ≤ 96 → c ≤ a → runA L n k a E c v F → runA L n k' a E' c v' F' → v = v' ∧ (0 < v → EQ F F')
  | k, k', a, E, E', c, v, v', F, F', h, hE, hP, g, hk, hk', h96, hc, r, r' => by
    by_cases hn : n ≤ a
    · have r1 : v = nI c ∧ F = E := by
        cases k with
        | zero => exact r.2
        | succ k => rcases r with ⟨_, r⟩ | ⟨q, _⟩
                    · exact r
                    · omega
      have r2 : v' = nI c ∧ F' = E' := by
        cases k' with
        | zero => exact r'.2
        | succ k' => rcases r' with ⟨_, r⟩ | ⟨q, _⟩
                     · exact r
                     · omega
      exact ⟨by rw [r1.1, r2.1], fun _ => by rw [r1.2, r2.2]; exact h⟩
    · cases k with
      | zero => omega
      | succ k =>
        cases k' with
        | zero => omega
        | succ k' =>
          rcases g with g | ⟨g1, g2, g3⟩
          · omega
          · have h3 := slen_3 g2.1
            have h4 := g2.2.1
            rcases r with ⟨q, _⟩ | ⟨_, ⟨q1, q2⟩ | ⟨q1, q2⟩⟩
            · omega
            · rcases r' with ⟨q, _⟩ | ⟨_, ⟨q3, q4⟩ | ⟨q3, q4⟩⟩
              · omega
              · have := apE_ok g2 hE hP q1
                exact runA_one k k' _ _ _ _ v v' F F' (apE_EQ h hE.1) this.1 this.2 g3 (by omega) (by omega) h96 (by omega) q2 q4
              · exact absurd ((okE_EQ h).mp q1) q3
            · rcases r' with ⟨q, _⟩ | ⟨_, ⟨q3, q4⟩ | ⟨q3, q4⟩⟩
              · omega
              · exact absurd ((okE_EQ h).mpr q3) q1
              · refine ⟨by rw [q2, q4], fun q5 => absurd q5 ?_⟩
                rw [q2]
                exact Int32.not_lt.mpr (Int32.le_of_lt (neg_2000 (by omega)))
theorem HO_one {L : Nat → Nat} {n : Nat} {E E' : Mem} {v v' : Int32} {F F' : Mem} (h : EQ E E') (hE : EI E) (hP : PI5 E) (h96 : n ≤ 96) (r : HO L n E v F) (r' : HO L n E' v' F') : v = v' ∧ EQ F F' := by
  rcases r with ⟨a1, a2, a3⟩ | ⟨a1, w, a2, a3, a4⟩ | ⟨a1, a2, E9, F9, a3, a4, a5⟩
  · rcases r' with ⟨b1, b2, b3⟩ | ⟨b1, w', b2, b3, b4⟩ | ⟨b1, b2, E9', F9', b3, b4, b5⟩
    · exact ⟨by rw [a2, b2], (a3.trans h).trans b3.symm⟩
    · omega
    · omega
  · rcases r' with ⟨b1, b2, b3⟩ | ⟨b1, w', b2, b3, b4⟩ | ⟨b1, b2, E9', F9', b3, b4, b5⟩
    · omega
    · have := badA_uniq _ _ _ a2 b2
      exact ⟨by rw [a3, b3, this], (a4.trans h).trans b4.symm⟩
    · exact (good_bad _ _ _ b2 a2).elim
  · rcases r' with ⟨b1, b2, b3⟩ | ⟨b1, w', b2, b3, b4⟩ | ⟨b1, b2, E9', F9', b3, b4, b5⟩
    · omega
    · exact (good_bad _ _ _ a2 b2).elim
    · have hv := runA_one n n 0 E9 E9' 0 v v' F9 F9' ((a3.trans h).trans b3.symm) (EI.eq a3.symm hE) (PI5.eq a3.symm hE hP) a2 (by omega) (by omega) h96 (by omega) a4 b4
      refine ⟨hv.1, ?_⟩
      rcases a5 with ⟨a5, a6⟩ | ⟨a5, a6⟩
      · rcases b5 with ⟨b5, b6⟩ | ⟨b5, b6⟩
        · exact (a6.trans (hv.2 a5)).trans b6.symm
        · rw [hv.1] at a5; exact absurd a5 (Int32.not_lt.mpr (Int32.le_of_lt b5))
      · rcases b5 with ⟨b5, b6⟩ | ⟨b5, b6⟩
        · rw [hv.1] at a5; exact absurd a5 (Int32.not_lt.mpr (Int32.le_of_lt b5))
        · exact (a6.trans h).trans b6.symm
/-- the second reading's frame: what is laid by stands in row 57 -/
def FH (μ ν : Mem) (σ : Nat → Nat) : Prop := (∀ q, q < 38 ∨ (44 < q ∧ q ≠ 53 ∧ q ≠ 57) → ν q = μ q) ∧ ν 57 = σ ∧ ∀ k, k ≠ 0 → k ≠ 18 → ν 38 k = μ 38 k
theorem FH_T {μ ν ν' : Mem} {σ : Nat → Nat} (h : FH μ ν σ) (g : FT ν ν') : FH μ ν' σ :=
  ⟨fun q hq => (g.1 q (by omega)).trans (h.1 q hq), (g.1 57 (by omega)).trans h.2.1, fun k a b => (g.2 k a b).trans (h.2.2 k a b)⟩
theorem FH_at {μ ν : Mem} {σ : Nat → Nat} {a : Nat} (h : FH μ ν σ) : FH μ (up ν 38 18 a) σ :=
  ⟨fun q hq => (up_ne (by omega)).trans (h.1 q hq), (up_ne (by decide)).trans h.2.1, fun k a b => (up_off (Or.inr b)).trans (h.2.2 k a b)⟩
theorem EQ_at {ν : Mem} {a : Nat} : EQ (sh (up ν 38 18 a) 38) (sh ν 38) := up38_EQ (by decide)
theorem EQ_r57 {ν : Mem} {σ : Nat → Nat} : EQ (sh (rowM ν 57 σ) 38) (sh ν 38) := ⟨congrFun (rowM_ne (μ := ν) (a := 57) (q := 38) (ρ := σ) (by decide)) 0, fun k i q1 q2 _ => congrFun (rowM_ne (μ := ν) (a := 57) (q := 38 + k) (ρ := σ) (by omega)) i, fun i _ => congrFun (rowM_ne (μ := ν) (a := 57) (q := 44) (ρ := σ) (by decide)) i⟩
theorem EQ_16 {ν : Mem} {a : Nat} : EQ (sh (up ν 38 16 a) 38) (sh ν 38) := up38_EQ (by decide)
/-- the whole call's frame -/
def FO (μ ν : Mem) : Prop := (∀ q, q < 38 ∨ (44 < q ∧ q ≠ 53 ∧ q ≠ 57) → ν q = μ q) ∧ (∀ k, k ≠ 0 → k ≠ 16 → k ≠ 18 → ν 38 k = μ 38 k) ∧ ν 38 16 = 0
theorem FO_16 {μ ν : Mem} (h : ∀ q, q < 38 ∨ (44 < q ∧ q ≠ 53 ∧ q ≠ 57) → ν q = μ q) (g : ∀ k, k ≠ 0 → k ≠ 18 → ν 38 k = μ 38 k) : FO μ (up ν 38 16 0) :=
  ⟨fun q hq => (up_ne (by omega)).trans (h q hq), fun k a b c => (up_off (Or.inr b)).trans (g k a c), up_at⟩
set_option maxRecDepth 100000 in
set_option maxHeartbeats 4000000 in
theorem ev_X5_house {G : GX} {μ : Mem} (h96 : (μ 38 16) ≤ 96) (h255 : ∀ j, j < 96 → μ 52 j ≤ 255) (hE : EI (sh μ 38)) (hP : PI5 (sh μ 38)) : Ev G mX5_house 5 [rf G 38] μ (PI (fun v μ' => HO (μ 52) (μ 38 16) (sh μ 38) v (sh μ' 38) ∧ FO μ μ')) := by
  refine Ev.of (own := RX5) (n := 3) (by decide) rfl rfl (catOK rfl) (fun X C E => ?_)
  show J G X 0 [some _, none, none, none] [] _
  have p53 : ∀ w9 ν x2 x3, FD μ ν w9 → (∀ F, EQ F (sh μ 38) → ∀ v, v = -1000 - nI w9 → HO (μ 52) (μ 38 16) (sh μ 38) v F) → J G X 53 [some (rf G 38), some (.int (nI 0)), x2, x3] [] ν := by
    intro w9 ν x2 x3 hF hh
    refine j_iload_n C dX5_house_53 rfl ?_
    refine j_if_neN (tgt := 71) C dX5_house_54 (by decide) (by decide) (fun q9 => absurd rfl q9) (fun _ => ?_)
    · refine j_aload_n C dX5_house_57 rfl ?_
      refine j_iconst (v := nI 0) C dX5_house_58 (by decide) ?_
      refine p5_16 C dX5_house_59 lFX5_87 ?_
      refine j_sipush (v := (-1000)) C dX5_house_62 (by decide) ?_
      refine j_aload_n C dX5_house_65 rfl ?_
      refine g5_18 C dX5_house_66 lFX5_90 ?_
      refine J.top (y := nI w9) (by rw [up_off (Or.inr (by decide)), hF.2.2]) ?_
      refine j_isub C dX5_house_69 ?_
      exact j_iret C E dX5_house_70 ⟨_, rfl, hh _ (EQ_16.trans (FD_EQ hF)) _ rfl, FO_16 (fun q hq => hF.1 q (by omega) (by omega)) (fun k _ hk => hF.2.1 k hk)⟩
  have loop2 : ∀ σ, EQ (unp σ) (sh μ 38) → good (μ 52) (μ 38 16) (μ 38 16) 0 → 0 < (μ 38 16) → ∀ k a9 E9 c9 x3 ν, (μ 38 16) ≤ a9 + k → a9 ≤ (μ 38 16) → FH μ ν σ → ν 38 18 = a9 → EQ (sh ν 38) E9 → EI E9 → PI5 E9 → good (μ 52) (μ 38 16) k a9 → (∀ v F, runA (μ 52) (μ 38 16) k a9 E9 c9 v F → runA (μ 52) (μ 38 16) (μ 38 16) 0 (sh μ 38) 0 v F) → (c9 ≤ a9 ∧ (c9 = 0 → a9 = 0)) → J G X 86 [some (rf G 38), some (.int (nI 1)), some (.int (nI c9)), x3] [] ν := by
    intro σ hσ hgd hn0 k
    induction k with
    | zero =>
      intro a9 E9 c9 x3 ν hk ha hF h18 hQ hE9 hP9 hg hR hc
      refine j_aload_n C dX5_house_86 rfl ?_
      refine g5_18 C dX5_house_87 lFX5_90 ?_
      refine J.top (y := nI a9) (by rw [h18]) ?_
      refine j_aload_n C dX5_house_90 rfl ?_
      refine g5_16 C dX5_house_91 lFX5_87 ?_
      refine J.top (y := nI (μ 38 16)) (by rw [hF.2.2 16 (by decide) (by decide)]) ?_
      first | refine j_icmp_geN (tgt := 142) C dX5_house_94 (by decide) (by omega) (by omega) (fun c_94 => ?_) (fun c_94 => ?_) | refine j_icmp_ge (tgt := 142) C dX5_house_94 (by decide) (fun c_94 => ?_) (fun c_94 => ?_)
      · refine j_aload_n C dX5_house_142 rfl ?_
        refine j_iconst (v := nI 0) C dX5_house_143 (by decide) ?_
        refine p5_16 C dX5_house_144 lFX5_87 ?_
        refine j_iload_n C dX5_house_147 rfl ?_
        exact j_iret C E dX5_house_148 ⟨_, rfl, Or.inr (Or.inr ⟨hn0, hgd, _, _, EQ.refl _, hR (nI c9) E9 ⟨by omega, rfl, rfl⟩, Or.inl ⟨(nI_ltI (a := 0) (by decide) (by omega)).mpr (by omega), EQ_16.trans hQ⟩⟩), FO_16 hF.1 hF.2.2⟩
      · exact absurd c_94 (by omega)
    | succ k ih =>
      intro a9 E9 c9 x3 ν hk ha hF h18 hQ hE9 hP9 hg hR hc
      refine j_aload_n C dX5_house_86 rfl ?_
      refine g5_18 C dX5_house_87 lFX5_90 ?_
      refine J.top (y := nI a9) (by rw [h18]) ?_
      refine j_aload_n C dX5_house_90 rfl ?_
      refine g5_16 C dX5_house_91 lFX5_87 ?_
      refine J.top (y := nI (μ 38 16)) (by rw [hF.2.2 16 (by decide) (by decide)]) ?_
      first | refine j_icmp_geN (tgt := 142) C dX5_house_94 (by decide) (by omega) (by omega) (fun c_94 => ?_) (fun c_94 => ?_) | refine j_icmp_ge (tgt := 142) C dX5_house_94 (by decide) (fun c_94 => ?_) (fun c_94 => ?_)
      · refine j_aload_n C dX5_house_142 rfl ?_
        refine j_iconst (v := nI 0) C dX5_house_143 (by decide) ?_
        refine p5_16 C dX5_house_144 lFX5_87 ?_
        refine j_iload_n C dX5_house_147 rfl ?_
        exact j_iret C E dX5_house_148 ⟨_, rfl, Or.inr (Or.inr ⟨hn0, hgd, _, _, EQ.refl _, hR (nI c9) E9 (Or.inl ⟨by omega, rfl, rfl⟩), Or.inl ⟨(nI_ltI (a := 0) (by decide) (by omega)).mpr (by omega), EQ_16.trans hQ⟩⟩), FO_16 hF.1 hF.2.2⟩
      · obtain ⟨_, hW, hg3⟩ := hg.resolve_left (by omega)
        have h52 : ν 52 = μ 52 := hF.1 52 (by omega)
        have h16 : ν 38 16 = μ 38 16 := hF.2.2 16 (by decide) (by decide)
        have hEν := EI.eq hQ.symm hE9
        have hPν := PI5.eq hQ.symm hE9 hP9
        have hz3 := slen_3 hW.1
        have hz4 := hW.2.1
        refine j_aload_n C dX5_house_97 rfl ?_
        refine g5_18 C dX5_house_98 lFX5_90 ?_
        refine J.top (y := nI a9) (by rw [h18]) ?_
        refine sn3 C dX5_house_101 rfl ?_
        refine j_aload_n C dX5_house_102 rfl ?_
        refine j_iconst (v := nI 1) C dX5_house_103 (by decide) ?_
        refine cVi1 C dX5_house_104 lMX5_118 myX5_statement (ev_X5_stT h18 (by rw [h16]; exact h96) (by rw [h52]; exact h255) (by rw [h52, h16]; exact hW) hEν hPν) (by omega) rc5 (Nat.le_of_ble_eq_true rfl) (fun v_s μ_s hv_s => ?_)
        rw [h52] at hv_s
        obtain ⟨hT, hw, hres⟩ := hv_s
        have hFs := FH_T hF hT
        rcases hres with ⟨hok, rfl, hQ2⟩ | ⟨hok, rfl⟩
        · have h59 : μ 52 (a9 + slen (μ 52 a9) - 1) = 59 := by
            have := hW.2.2 (slen (μ 52 a9) - 1) (by omega) (by omega)
            rw [mayS_last rfl, show a9 + (slen (μ 52 a9) - 1) = a9 + slen (μ 52 a9) - 1 by omega] at this
            exact this
          refine j_if_neN (tgt := 129) C dX5_house_107 (by decide) (by decide) (fun _ => ?_) (fun q9 => absurd q9 (by decide))
          · refine j_aload_n C dX5_house_129 rfl ?_
            refine j_bipush (v := nI 59) C dX5_house_130 (by decide) ?_
            refine cVe1 C dX5_house_132 lMX5_93 myX5_is (ev_X5_isY (L := μ 52) (n9 := μ 38 16) (a9 := a9 + slen (μ 52 a9) - 1) (by rw [hFs.1 52 (by omega)]) (by rw [hFs.2.2 16 (by decide) (by decide)]) (by omega) h96 h255 (by decide) (by omega) (by omega) h59) (by omega) rc5 (Nat.le_of_ble_eq_true rfl) ?_
            refine j_pop C dX5_house_135 rfl ?_
            refine in2 C dX5_house_136 (nI_1 _) rfl ?_
            refine j_goto (tgt := 86) C dX5_house_139 (by decide) ?_
            have hap := apE_ok hW hE9 hP9 ((okE_EQ hQ).mp hok)
            exact ih _ (apE (μ 52) a9 E9) (c9 + 1) _ _ (by omega) (by omega) (FH_at hFs) (by rw [up_at]; omega) ((EQ_at.trans hQ2).trans (apE_EQ hQ hEν.1)) hap.1 hap.2 hg3 (fun v F r => hR v F (Or.inr ⟨by omega, Or.inl ⟨(okE_EQ hQ).mp hok, r⟩⟩)) (by omega)
        · refine j_if_neN (tgt := 129) C dX5_house_107 (by decide) (by decide) (fun q9 => absurd rfl q9) (fun _ => ?_)
          · refine j_aload_n C dX5_house_110 rfl ?_
            refine j_aload_n C dX5_house_111 rfl ?_
            refine g5_25 C dX5_house_112 lFX5_64 ?_
            refine cVv1 C dX5_house_115 lMX5_126 myX5_again (ev_X5_again iA_57 (Or.inr rfl)) (by omega) rc5 (Nat.le_of_ble_eq_true rfl) (fun μ_g hv_g => ?_)
            refine j_aload_n C dX5_house_118 rfl ?_
            refine j_iconst (v := nI 0) C dX5_house_119 (by decide) ?_
            refine p5_16 C dX5_house_120 lFX5_87 ?_
            refine j_sipush (v := (-2000)) C dX5_house_123 (by decide) ?_
            refine j_iload_n C dX5_house_126 rfl ?_
            refine j_isub C dX5_house_127 ?_
            exact j_iret C E dX5_house_128 ⟨_, rfl, Or.inr (Or.inr ⟨hn0, hgd, _, _, EQ.refl _, hR _ E9 (Or.inr ⟨by omega, Or.inr ⟨fun q9 => hok ((okE_EQ hQ).mpr q9), rfl⟩⟩), Or.inr ⟨neg_2000 (by omega), by
                      have := hv_g.1
                      rw [hFs.2.1] at this
                      exact (EQ_16.trans this).trans hσ⟩⟩), FO_16 (fun q hq => (hv_g.2.1 q (by omega)).trans (hFs.1 q hq)) (fun k a b => (hv_g.2.2 k a).trans (hFs.2.2 k a b))⟩
  have p71 : ∀ x2 x3 ν w9, FD μ ν w9 → good (μ 52) (μ 38 16) (μ 38 16) 0 → 0 < (μ 38 16) → J G X 53 [some (rf G 38), some (.int (nI 1)), x2, x3] [] ν := by
    intro x2 x3 ν w9 hF hgd hn0
    refine j_iload_n C dX5_house_53 rfl ?_
    refine j_if_neN (tgt := 71) C dX5_house_54 (by decide) (by decide) (fun _ => ?_) (fun q9 => absurd q9 (by decide))
    · refine j_aload_n C dX5_house_71 rfl ?_
      refine j_aload_n C dX5_house_72 rfl ?_
      refine g5_25 C dX5_house_73 lFX5_64 ?_
      refine cVv1 C dX5_house_76 lMX5_122 myX5_keep_ (ev_X5_keep_ iA_57 (Or.inr rfl)) (by omega) rc5 (Nat.le_of_ble_eq_true rfl) (fun μ_k hv_k => ?_)
      obtain ⟨σ, rfl, hσ⟩ := hv_k
      refine j_aload_n C dX5_house_79 rfl ?_
      refine j_iconst (v := nI 0) C dX5_house_80 (by decide) ?_
      refine p5_18 C dX5_house_81 lFX5_90 ?_
      refine j_iconst (v := nI 0) C dX5_house_84 (by decide) ?_
      refine sn2 C dX5_house_85 rfl ?_
      exact loop2 σ (hσ.trans (FD_EQ hF)) hgd hn0 (μ 38 16) 0 (sh μ 38) 0 _ _ (by omega) (by omega) ⟨fun q hq => (up_ne (by omega)).trans ((rowM_ne (by omega)).trans (hF.1 q (by omega) (by omega))), (up_ne (by decide)).trans rowM_at, fun k a b => (up_off (Or.inr b)).trans ((congrFun (rowM_ne (by decide)) k).trans (hF.2.1 k b))⟩ up_at (EQ_at.trans (EQ_r57.trans (FD_EQ hF))) hE hP hgd (fun v F r => r) ⟨by omega, fun _ => rfl⟩
  have loop1 : ∀ k a9 ν, (μ 38 16) ≤ a9 + k → a9 < (μ 38 16) → FD μ ν a9 → (∀ w, badA (μ 52) (μ 38 16) w k a9 → badA (μ 52) (μ 38 16) w (μ 38 16) 0) → (good (μ 52) (μ 38 16) k a9 → good (μ 52) (μ 38 16) (μ 38 16) 0) → J G X 7 [some (rf G 38), some (.int (nI 1)), none, none] [] ν := by
    intro k
    induction k with
    | zero => intro a9 ν hk ha; exact absurd ha (by omega)
    | succ k ih =>
      intro a9 ν hk ha hF hb hg
      have h52 : ν 52 = μ 52 := hF.1 52 (by decide) (by decide)
      have h16 : ν 38 16 = μ 38 16 := hF.2.1 16 (by decide)
      refine j_iload_n C dX5_house_7 rfl ?_
      refine j_if_eqN (tgt := 53) C dX5_house_8 (by decide) (by decide) (fun q9 => absurd q9 (by decide)) (fun _ => ?_)
      · refine j_aload_n C dX5_house_11 rfl ?_
        refine j_iconst (v := nI 0) C dX5_house_12 (by decide) ?_
        refine cVi1 C dX5_house_13 lMX5_118 myX5_statement (ev_X5_stF hF.2.2 (by rw [h16]; exact h96) (by rw [h52]; exact h255) (by rw [h16]; omega)) (by omega) rc5 (Nat.le_of_ble_eq_true rfl) (fun v_s μ_s hv_s => ?_)
        rw [h52, h16] at hv_s
        obtain ⟨w9, hFw, hsf⟩ := hv_s
        have hF2 := FD_trans hF hFw
        rcases hsf with ⟨rfl, s1, s2, s3, s4, s5⟩ | ⟨rfl, s1⟩
        · refine j_iconst (v := nI 1) C dX5_house_16 (by decide) ?_
          refine j_icmp_ne (tgt := 33) C dX5_house_17 (by decide) (fun q9 => absurd rfl q9) (fun _ => ?_)
          · refine j_aload_n C dX5_house_20 rfl ?_
            refine j_bipush (v := nI 59) C dX5_house_21 (by decide) ?_
            have hz3 := slen_3 s2
            by_cases h59 : w9 < μ 38 16 ∧ μ 52 w9 = 59
            · refine cVe1 C dX5_house_23 lMX5_93 myX5_is (ev_X5_isY (L := μ 52) (n9 := μ 38 16) (a9 := w9) (by rw [hF2.1 52 (by decide) (by decide)]) (by rw [hF2.2.1 16 (by decide)]) hF2.2.2 h96 h255 (by decide) s4 h59.1 h59.2) (by omega) rc5 (Nat.le_of_ble_eq_true rfl) ?_
              have hF3 : FD μ (up μ_s 38 18 (w9 + 1)) (w9 + 1) := FD_trans hF2 FD_at
              have hWF : WF (μ 52) (μ 38 16) a9 := ⟨s2, by omega, fun i i1 i2 => by
                by_cases q : i + 1 < slen (μ 52 a9)
                · exact s5 i i1 q
                · refine (mayS_last (by omega)).mpr ?_
                  rw [show a9 + i = w9 by omega]
                  exact h59.2⟩
              refine j_if_eqN (tgt := 33) C dX5_house_26 (by decide) (by decide) (fun q9 => absurd q9 (by decide)) (fun _ => ?_)
              · refine j_iconst (v := nI 1) C dX5_house_29 (by decide) ?_
                refine j_goto (tgt := 34) C dX5_house_30 (by decide) ?_
                refine sn1 C dX5_house_34 rfl ?_
                refine j_iload_n C dX5_house_35 rfl ?_
                refine j_if_eqN (tgt := 7) C dX5_house_36 (by decide) (by decide) (fun q9 => absurd q9 (by decide)) (fun _ => ?_)
                · refine j_aload_n C dX5_house_39 rfl ?_
                  refine g5_18 C dX5_house_40 lFX5_90 ?_
                  refine J.top (y := nI (w9 + 1)) (by rw [hF3.2.2]) ?_
                  refine j_aload_n C dX5_house_43 rfl ?_
                  refine g5_16 C dX5_house_44 lFX5_87 ?_
                  refine J.top (y := nI (μ 38 16)) (by rw [hF3.2.1 16 (by decide)]) ?_
                  first | refine j_icmp_neN (tgt := 7) C dX5_house_47 (by decide) (by omega) (by omega) (fun c_47 => ?_) (fun c_47 => ?_) | refine j_icmp_ne (tgt := 7) C dX5_house_47 (by decide) (fun c_47 => ?_) (fun c_47 => ?_)
                  · exact ih (w9 + 1) _ (by omega) (by omega) hF3 (fun w q => hb w ⟨ha, Or.inr ⟨hWF, by rw [show a9 + slen (μ 52 a9) = w9 + 1 by omega]; exact q⟩⟩) (fun q => hg (Or.inr ⟨ha, hWF, by rw [show a9 + slen (μ 52 a9) = w9 + 1 by omega]; exact q⟩))
                  · refine j_goto (tgt := 53) C dX5_house_50 (by decide) ?_
                    exact p71 _ _ _ _ hF3 (hg (Or.inr ⟨ha, hWF, by
                      rw [show a9 + slen (μ 52 a9) = w9 + 1 by omega]
                      cases k with
                      | zero => show μ 38 16 ≤ w9 + 1; omega
                      | succ k => exact Or.inl (by omega)⟩)) (by omega)
            · refine cVe1 C dX5_house_23 lMX5_93 myX5_is (ev_X5_isN (L := μ 52) (n9 := μ 38 16) (a9 := w9) (by rw [hF2.1 52 (by decide) (by decide)]) (by rw [hF2.2.1 16 (by decide)]) hF2.2.2 h96 h255 (by decide) s4 h59) (by omega) rc5 (Nat.le_of_ble_eq_true rfl) ?_
              refine j_if_eqN (tgt := 33) C dX5_house_26 (by decide) (by decide) (fun _ => ?_) (fun q9 => absurd rfl q9)
              · refine j_iconst (v := nI 0) C dX5_house_33 (by decide) ?_
                refine sn1 C dX5_house_34 rfl ?_
                refine j_iload_n C dX5_house_35 rfl ?_
                refine j_if_eqN (tgt := 7) C dX5_house_36 (by decide) (by decide) (fun _ => ?_) (fun q9 => absurd rfl q9)
                · refine j_iload_n C dX5_house_7 rfl ?_
                  refine j_if_eqN (tgt := 53) C dX5_house_8 (by decide) (by decide) (fun _ => ?_) (fun q9 => absurd rfl q9)
                  · exact p53 w9 _ _ _ hF2 (fun F q v hv => Or.inr (Or.inl ⟨by omega, w9, hb w9 ⟨ha, Or.inl (Or.inr ⟨s2, slen (μ 52 a9) - 1, by omega, by omega, by omega, fun j j1 j2 => ⟨by omega, s5 j j1 (by omega)⟩, by
                      by_cases q1 : μ 38 16 ≤ a9 + (slen (μ 52 a9) - 1)
                      · exact Or.inl q1
                      · refine Or.inr (fun q2 => h59 ⟨by omega, ?_⟩)
                        have := (mayS_last rfl).mp q2
                        rw [show a9 + (slen (μ 52 a9) - 1) = w9 by omega] at this
                        exact this⟩)⟩, hv, q⟩))
        · refine j_iconst (v := nI 1) C dX5_house_16 (by decide) ?_
          refine j_icmp_ne (tgt := 33) C dX5_house_17 (by decide) (fun _ => ?_) (fun q9 => absurd q9 (by decide))
          · refine j_iconst (v := nI 0) C dX5_house_33 (by decide) ?_
            refine sn1 C dX5_house_34 rfl ?_
            refine j_iload_n C dX5_house_35 rfl ?_
            refine j_if_eqN (tgt := 7) C dX5_house_36 (by decide) (by decide) (fun _ => ?_) (fun q9 => absurd rfl q9)
            · refine j_iload_n C dX5_house_7 rfl ?_
              refine j_if_eqN (tgt := 53) C dX5_house_8 (by decide) (by decide) (fun _ => ?_) (fun q9 => absurd rfl q9)
              · exact p53 w9 _ _ _ hF2 (fun F q v hv => Or.inr (Or.inl ⟨by omega, w9, hb w9 ⟨ha, Or.inl (by
                  rcases s1 with ⟨s1, s2⟩ | ⟨_, s2, i, s3, s4, s5, s6, s7, s8⟩
                  · exact Or.inl ⟨by omega, s2⟩
                  · exact Or.inr ⟨s2, i, s3, by omega, s5, fun j j1 j2 => ⟨by omega, s7 j j1 j2⟩, by
                      rcases s8 with s8 | s8
                      · exact Or.inl (by omega)
                      · exact Or.inr s8⟩)⟩, hv, q⟩))
  refine j_aload_n C dX5_house_0 rfl ?_
  refine j_iconst (v := nI 0) C dX5_house_1 (by decide) ?_
  refine p5_18 C dX5_house_2 lFX5_90 ?_
  refine j_iconst (v := nI 1) C dX5_house_5 (by decide) ?_
  refine sn1 C dX5_house_6 rfl ?_
  rcases Nat.eq_zero_or_pos (μ 38 16) with hn0 | hn0
  · refine j_iload_n C dX5_house_7 rfl ?_
    refine j_if_eqN (tgt := 53) C dX5_house_8 (by decide) (by decide) (fun q9 => absurd q9 (by decide)) (fun _ => ?_)
    · refine j_aload_n C dX5_house_11 rfl ?_
      refine j_iconst (v := nI 0) C dX5_house_12 (by decide) ?_
      refine cVi1 C dX5_house_13 lMX5_118 myX5_statement (ev_X5_stF (a9 := 0) up_at (by rw [up_off (Or.inr (by decide))]; exact h96) (by rw [up_ne (by decide)]; exact h255) (by omega)) (by omega) rc5 (Nat.le_of_ble_eq_true rfl) (fun v_s μ_s hv_s => ?_)
      obtain ⟨w9, hFw, hsf⟩ := hv_s
      rw [up_off (Or.inr (by decide)), hn0] at hsf
      have hF2 := FD_up hFw
      rcases hsf with ⟨_, s1, _⟩ | ⟨rfl, s1⟩
      · exact absurd s1 (by omega)
      · refine j_iconst (v := nI 1) C dX5_house_16 (by decide) ?_
        refine j_icmp_ne (tgt := 33) C dX5_house_17 (by decide) (fun _ => ?_) (fun q9 => absurd q9 (by decide))
        · refine j_iconst (v := nI 0) C dX5_house_33 (by decide) ?_
          refine sn1 C dX5_house_34 rfl ?_
          refine j_iload_n C dX5_house_35 rfl ?_
          refine j_if_eqN (tgt := 7) C dX5_house_36 (by decide) (by decide) (fun _ => ?_) (fun q9 => absurd rfl q9)
          · refine j_iload_n C dX5_house_7 rfl ?_
            refine j_if_eqN (tgt := 53) C dX5_house_8 (by decide) (by decide) (fun _ => ?_) (fun q9 => absurd rfl q9)
            · have hw0 : w9 = 0 := by
                rcases s1 with ⟨_, s2⟩ | ⟨s2, _⟩
                · exact s2
                · omega
              exact p53 w9 _ _ _ hF2 (fun F q v hv => Or.inl ⟨hn0, by rw [hv, hw0]; decide, q⟩)
  · exact loop1 (μ 38 16) 0 _ (by omega) hn0 FD_at (fun w q => q) (fun q => q)
