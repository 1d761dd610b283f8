-- ROWS OF NUMBERS, AND ALL ORDERS GONE THROUGH
/-- the first place, from place i on, that is not so; -9 -/
def fns (N S : Nat → Nat) (n : Nat) : Nat → Nat → Int32
  | 0, _ => -9
  | k + 1, i => if n ≤ i then nI i else if N i = S i then fns N S n k (i + 1) else nI i
theorem fns_eq {N M S T : Nat → Nat} {n : Nat} (hS : eqTo n S T) : ∀ (k i : Nat), (∀ j, j < i + k → N j = M j) → fns N S n k i = fns M T n k i
  | 0, _, _ => rfl
  | k + 1, i, h => by
    rw [fns, fns]
    by_cases c : n ≤ i
    · rw [if_pos c, if_pos c]
    · rw [if_neg c, if_neg c, ← hS i (by omega), ← h i (by omega), fns_eq hS k (i + 1) (fun j hj => h j (by omega))]
set_option maxRecDepth 100000 in
set_option maxHeartbeats 4000000 in
theorem ev_X4_firstNotSo {G : GX} {μ : Mem} (hn : μ 1 0 ≤ 6) (hc : μ 0 10 ≤ 12) (hN : ∀ i, i < μ 0 10 → μ 36 i ≤ 99) (hS : ∀ i, i < μ 1 0 → μ 26 i ≤ 99) : Ev G mX4_firstNotSo 0 [rf G 0] μ (PIe (fns (μ 36) (μ 26) (μ 1 0) (μ 0 10) 0) μ) := by
  refine Ev.of (own := RX4) (n := 1) (by decide) rfl rfl (catOK rfl) (fun X C E => ?_)
  show J G X 0 [some _, none] [] _
  have loop : ∀ k i9, i9 + k = μ 0 10 → (fns (μ 36) (μ 26) (μ 1 0) (μ 0 10) 0) = fns (μ 36) (μ 26) (μ 1 0) k i9 → J G X 2 [some (rf G 0), some (.int (nI i9))] [] μ := by
    intro k
    induction k with
    | zero =>
      intro i9 hi hf
      refine j_iload_n C dX4_firstNotSo_2 rfl ?_
      refine j_aload_n C dX4_firstNotSo_3 rfl ?_
      refine g4_10 C dX4_firstNotSo_4 lFX4_57 ?_
      first | refine j_icmp_geN (tgt := 47) C dX4_firstNotSo_7 (by decide) (by omega) (by omega) (fun c_7 => ?_) (fun c_7 => ?_) | refine j_icmp_ge (tgt := 47) C dX4_firstNotSo_7 (by decide) (fun c_7 => ?_) (fun c_7 => ?_)
      · refine j_bipush (v := (-9)) C dX4_firstNotSo_47 (by decide) ?_
        exact j_iret C E dX4_firstNotSo_49 ⟨by rw [hf, fns], rfl⟩
      · exact absurd c_7 (by omega)
    | succ k ih =>
      intro i9 hi hf
      refine j_iload_n C dX4_firstNotSo_2 rfl ?_
      refine j_aload_n C dX4_firstNotSo_3 rfl ?_
      refine g4_10 C dX4_firstNotSo_4 lFX4_57 ?_
      first | refine j_icmp_geN (tgt := 47) C dX4_firstNotSo_7 (by decide) (by omega) (by omega) (fun c_7 => ?_) (fun c_7 => ?_) | refine j_icmp_ge (tgt := 47) C dX4_firstNotSo_7 (by decide) (fun c_7 => ?_) (fun c_7 => ?_)
      · exact absurd c_7 (by omega)
      · have hNi := hN i9 (by omega)
        refine j_iload_n C dX4_firstNotSo_10 rfl ?_
        refine j_aload_n C dX4_firstNotSo_11 rfl ?_
        refine g4_0 C dX4_firstNotSo_12 lFX4_10 ?_
        refine g0_0 isH_1 C dX4_firstNotSo_15 lFX4_154 ?_
        first | refine j_icmp_geN (tgt := 39) C dX4_firstNotSo_18 (by decide) (by omega) (by omega) (fun c_18 => ?_) (fun c_18 => ?_) | refine j_icmp_ge (tgt := 39) C dX4_firstNotSo_18 (by decide) (fun c_18 => ?_) (fun c_18 => ?_)
        · refine j_iload_n C dX4_firstNotSo_39 rfl ?_
          exact j_iret C E dX4_firstNotSo_40 (by first | exact And.intro (by rw [hf, fns, if_pos c_18]) rfl | exact And.intro (by rw [hf, fns, if_neg (by omega), if_neg c_36]) rfl)
        · have hSi := hS i9 (by omega)
          refine j_aload_n C dX4_firstNotSo_21 rfl ?_
          refine g4_9 C dX4_firstNotSo_22 lFX4_54 ?_
          refine j_iload_n C dX4_firstNotSo_25 rfl ?_
          refine j_iald C dX4_firstNotSo_26 iA_36 (by omega) ?_
          refine j_aload_n C dX4_firstNotSo_27 rfl ?_
          refine g4_4 C dX4_firstNotSo_28 lFX4_29 ?_
          refine g3_3 C dX4_firstNotSo_31 lFX4_142 ?_
          refine j_iload_n C dX4_firstNotSo_34 rfl ?_
          refine j_iald C dX4_firstNotSo_35 iA_26 (by omega) ?_
          first | refine j_icmp_eqN (tgt := 41) C dX4_firstNotSo_36 (by decide) (by omega) (by omega) (fun c_36 => ?_) (fun c_36 => ?_) | refine j_icmp_eq (tgt := 41) C dX4_firstNotSo_36 (by decide) (fun c_36 => ?_) (fun c_36 => ?_)
          · first | refine in1 C dX4_firstNotSo_41 (nI_1 _) rfl ?_ | refine in1 C dX4_firstNotSo_41 rfl rfl ?_
            refine j_goto (tgt := 2) C dX4_firstNotSo_44 (by decide) ?_
            exact ih (i9 + 1) (by omega) (by rw [hf, fns, if_neg (by omega), if_pos c_36])
          · refine j_iload_n C dX4_firstNotSo_39 rfl ?_
            exact j_iret C E dX4_firstNotSo_40 (by first | exact And.intro (by rw [hf, fns, if_pos c_18]) rfl | exact And.intro (by rw [hf, fns, if_neg (by omega), if_neg c_36]) rfl)
  refine j_iconst (v := nI 0) C dX4_firstNotSo_0 (by decide) ?_
  refine sn1 C dX4_firstNotSo_1 rfl ?_
  exact loop (μ 0 10) 0 (by omega) rfl
theorem rp_se {μ ν E : Mem} {ρ : Nat → Nat} {w : Nat} (h : RPost μ E ρ w ν) : eqTo (E 0 0) (ν 26) (oServed E ρ w) := fun i hi => (h.2.2 i hi).2.2.1
set_option maxRecDepth 100000 in
set_option maxHeartbeats 4000000 in
theorem ev_X4_judge {G : GX} {μ : Mem} (hE : EI (sh μ 1)) (hP : PI5 (sh μ 1)) (hc : μ 0 10 ≤ 12) (hN : ∀ i, i < μ 0 10 → μ 36 i ≤ 99) : Ev G mX4_judge 5 [rf G 0] μ (PI (fun v μ' => v = fns (μ 36) (oServed (sh μ 1) (μ 6) 0) (μ 1 0) (μ 0 10) 0 ∧ KC (up μ 0 10 0) μ')) := by
  refine Ev.of (own := RX4) (n := 1) (by decide) rfl rfl (catOK rfl) (fun X C E => ?_)
  show J G X 0 [some _, none] [] _
  refine j_aload_n C dX4_judge_0 rfl ?_
  refine g4_4 C dX4_judge_1 lFX4_29 ?_
  refine j_aload_n C dX4_judge_4 rfl ?_
  refine g4_0 C dX4_judge_5 lFX4_10 ?_
  refine j_aload_n C dX4_judge_8 rfl ?_
  refine g4_0 C dX4_judge_9 lFX4_10 ?_
  refine g0_5 isH_1 C dX4_judge_12 lFX4_102 ?_
  refine cVv2 C dX4_judge_15 lMX4_129 myX3_walk (ev_X3_walk isH_1 hE hP.1 iA_6 (by omega)) (by omega) rc3 (Nat.le_of_ble_eq_true rfl) (fun μ_15 hv_15 => ?_)
  refine j_aload_n C dX4_judge_18 rfl ?_
  have k1 := hv_15.KC
  have c0 : μ_15 0 10 = μ 0 10 := by rw [k1.row (by omega)]
  have c1 : μ_15 1 0 = μ 1 0 := by rw [k1.row (by omega)]
  have c36 : μ_15 36 = μ 36 := k1 36 (by omega)
  refine cVe0 C dX4_judge_19 lMX4_186 myX4_firstNotSo (ev_X4_firstNotSo (by rw [c1]; exact hE.1) (by rw [c0]; exact hc) (by rw [c0, c36]; exact hN) (by rw [c1]; intro i hi; rw [rp_se hv_15 i hi]; exact Nat.le_trans (o_b (w := 0) hE hP.1 hi).2.2.1 (by decide))) (by omega) rc4 (Nat.le_of_ble_eq_true rfl) ?_
  refine sn1 C dX4_judge_22 rfl ?_
  refine j_aload_n C dX4_judge_23 rfl ?_
  refine j_iconst (v := nI 0) C dX4_judge_24 (by decide) ?_
  refine p4_10 C dX4_judge_25 lFX4_57 ?_
  refine j_iload_n C dX4_judge_28 rfl ?_
  exact j_iret C E dX4_judge_29 ⟨_, rfl, by rw [c0, c1, c36]; exact fns_eq (rp_se hv_15) _ _ (fun _ _ => rfl), fun q hq => by
        by_cases e : q = 0
        · subst e; rw [up_self, up_self, k1.row (by omega)]
        · rw [up_ne e, up_ne e]; exact k1 q hq⟩
def valO (E : Mem) (k t : Nat) : Nat := Tot E (pf (E 0 0) t) 0 k
theorem OI_pf {E : Mem} {t : Nat} (hE : EI E) (ht : t < nP (E 0 0)) : OI E (pf (E 0 0) t) := (pf_o hE.1 ht).1
/-- what stands of the orders as they are gone through -/
def OS (μ ν : Mem) (t : Nat) : Prop := KC μ ν ∧ ν 30 1 = μ 1 0 ∧ eqTo (μ 1 0) (ν 31) (pf (μ 1 0) t)
theorem OS.after {μ ν ν2 : Mem} {t : Nat} (h : OS μ ν t) {E : Mem} {ρ : Nat → Nat} (hr : RPost ν E ρ 0 ν2) : OS μ ν2 t :=
  ⟨h.1.trans hr.KC, by rw [hr.1 30 (by omega)]; exact h.2.1, by rw [hr.1 31 (by omega)]; exact h.2.2⟩
theorem OS.walk {μ ν : Mem} {t : Nat} (h : OS μ ν t) (hE : EI (sh μ 1)) (ht : t < nP (μ 1 0)) : EI (sh ν 1) ∧ OI (sh ν 1) (ν 31) ∧ ∀ ν2, RPost ν (sh ν 1) (ν 31) 0 ν2 → (∀ k, k < 8 → ν2 23 k = valO (sh μ 1) k t) ∧ eqTo (μ 1 0) (ν2 26) (oServed (sh μ 1) (pf (μ 1 0) t) 0) := by
  have e := KCeq h.1
  have e1 := KCei h.1 hE
  have h0 : sh ν 1 0 0 = μ 1 0 := e.1
  have ho : OI (sh ν 1) (ν 31) := by
    intro i hi
    rw [h.2.2 i (by omega), h0]
    exact (pf_o (show μ 1 0 ≤ 6 from hE.1) ht).1 i (by omega)
  have op : eqTo (sh ν 1 0 0) (ν 31) (pf (μ 1 0) t) := by rw [h0]; exact h.2.2
  refine ⟨e1, ho, fun ν2 hr => ⟨fun k hk => ?_, fun i hi => ?_⟩⟩
  · rw [hr.2.1 k hk]
    exact Tot_eq e e1 ho op
  · rw [(hr.2.2 i (by omega)).2.2.1]
    exact (o_eq e e1 ho op (by omega)).2.2.1
theorem OS.adv {μ ν : Mem} {t : Nat} (h : OS μ ν t) (hE : EI (sh μ 1)) (ht : t < nP (μ 1 0)) :
    (t + 1 < nP (μ 1 0) → 0 < frR (ν 31) (ν 30 1 - 1) ∧ OS μ (rowM ν 31 (nxF (ν 30 1) (ν 31))) (t + 1)) ∧ (t + 1 = nP (μ 1 0) → frR (ν 31) (ν 30 1 - 1) = 0) := by
  obtain ⟨h1, h2, h3⟩ := h
  rw [h2]
  refine ⟨fun q => ?_, fun q => ?_⟩
  · obtain ⟨a, b⟩ := pf_s hE.1 (t := t) q
    refine ⟨by rw [frR_eq1 h3]; exact a, fun q2 hq => by rw [rowM_ne (by omega)]; exact h1 q2 hq, by rw [rowM_ne (by decide)]; exact h2, ?_⟩
    rw [rowM_at]
    intro i hi
    rw [nxF_eq h3 i hi]
    exact b i hi
  · rw [frR_eq1 h3]
    have := pf_e hE.1
    rw [show t = nP (μ 1 0) - 1 by omega]
    exact this
theorem OS.lt {μ ν : Mem} {t : Nat} (h : OS μ ν t) (hE : EI (sh μ 1)) (ht : t < nP (μ 1 0)) : ν 30 1 ≤ 6 ∧ ∀ i, i < ν 30 1 → ν 31 i < 6 := by
  rw [h.2.1]
  have h6 : μ 1 0 ≤ 6 := hE.1
  refine ⟨h6, fun i hi => ?_⟩
  rw [h.2.2 i hi]
  have : pf (μ 1 0) t i < μ 1 0 := (pf_o hE.1 ht).1 i hi
  omega
theorem OS.beg {μ ρ9 : Mem} {σ : Nat → Nat} (hn : μ 1 0 ≤ 6) (h : ρ9 = rowM (up μ 30 1 (μ 1 0)) 31 σ ∧ ∀ i, i < μ 1 0 → σ i = i) : OS μ ρ9 0 := by
  obtain ⟨rfl, h2⟩ := h
  refine ⟨fun q hq => by rw [rowM_ne (by omega), up_ne (by omega)], by rw [rowM_ne (by decide), up_at], ?_⟩
  rw [rowM_at]
  intro i hi
  rw [h2 i hi, pf_0 hn i hi]
theorem OS.copy {μ ν : Mem} {t : Nat} (h : OS μ ν t) : OS μ (cp1 ν 32 31 (ν 30 1)) t ∧ eqTo (μ 1 0) (cp1 ν 32 31 (ν 30 1) 32) (pf (μ 1 0) t) := by
  refine ⟨⟨fun q hq => ?_, by rw [cp1_ne (by decide)]; exact h.2.1, by rw [cp1_ne (by decide)]; exact h.2.2⟩, fun i hi => ?_⟩
  · rw [cp1_ne (by omega)]; exact h.1 q hq
  · rw [cp1_at (by rw [h.2.1]; exact hi)]; exact h.2.2 i hi
theorem neg_nI_neg (a : Nat) : - -nI a = nI a := Int32.neg_neg
set_option maxRecDepth 100000 in
set_option maxHeartbeats 4000000 in
theorem ev_X4_findBest {G : GX} {q9 : Nat} {μ : Mem} (hE : EI (sh μ 1)) (hP : PI5 (sh μ 1)) (hq8 : q9 < 8) : Ev G mX4_findBest 5 [rf G 0, .int (nI q9)] μ (PI (fun v μ' => v = nI ((valO (sh μ 1) q9) (bIdx (valO (sh μ 1) q9) (decide (q9 = 1 ∨ q9 = 4)) (nP (μ 1 0) - 1))) ∧ eqTo (μ 1 0) (μ' 32) (pf (μ 1 0) (bIdx (valO (sh μ 1) q9) (decide (q9 = 1 ∨ q9 = 4)) (nP (μ 1 0) - 1))) ∧ KC μ μ')) := by
  refine Ev.of (own := RX4) (n := 4) (by decide) rfl rfl (catOK rfl) (fun X C E => ?_)
  show J G X 0 [some _, some _, none, none, none, none] [] _
  have h6 : μ 1 0 ≤ 6 := hE.1
  have hnp := nP_b h6
  have hVb : ∀ t9, t9 < nP (μ 1 0) → (valO (sh μ 1) q9) t9 ≤ 100000 := fun t9 ht => Tot_b hE (OI_pf hE ht)
  by_cases hm : q9 = 1 ∨ q9 = 4
  · have bm : decide (q9 = 1 ∨ q9 = 4) = true := decide_eq_true hm
    have p133 : ∀ x3 x4 x5 ν, KC μ ν → x3 = -nI ((valO (sh μ 1) q9) (bIdx (valO (sh μ 1) q9) true (nP (μ 1 0) - 1))) → eqTo (μ 1 0) (ν 32) (pf (μ 1 0) (bIdx (valO (sh μ 1) q9) true (nP (μ 1 0) - 1))) → J G X 133 [some (rf G 0), some (.int (nI q9)), some (.int (nI 1)), some (.int x3), x4, x5] [] ν := by
      intro x3 x4 x5 ν hK hx hq
      refine j_iload_n C dX4_findBest_133 rfl ?_
      refine j_if_eqN (tgt := 142) C dX4_findBest_134 (by decide) (by omega) (fun c_134 => ?_) (fun c_134 => ?_)
      · exact absurd c_134 (by omega)
      · refine j_iload_n C dX4_findBest_137 rfl ?_
        refine j_ineg C dX4_findBest_138 ?_
        refine j_goto (tgt := 143) C dX4_findBest_139 (by decide) ?_
        exact j_iret C E dX4_findBest_143 ⟨_, rfl, by rw [bm]; exact ⟨by rw [hx]; exact neg_nI_neg _, hq, hK⟩⟩
    have loop : ∀ c t9 x3 x5 ν, t9 + c = nP (μ 1 0) → t9 < nP (μ 1 0) → OS μ ν t9 → (t9 = 0 ∨ (x3 = -nI ((valO (sh μ 1) q9) (bIdx (valO (sh μ 1) q9) true (t9 - 1))) ∧ eqTo (μ 1 0) (ν 32) (pf (μ 1 0) (bIdx (valO (sh μ 1) q9) true (t9 - 1))))) → J G X 35 [some (rf G 0), some (.int (nI q9)), some (.int (nI 1)), some (.int x3), some (.int (nI t9)), x5] [] ν := by
      intro c
      induction c with
      | zero => intro t9 x3 x5 ν hc ht; exact absurd ht (by omega)
      | succ c ih =>
        intro t9 x3 x5 ν hc ht hO hi
        have p114 : ∀ x3 x5 ν, OS μ ν t9 → x3 = -nI ((valO (sh μ 1) q9) (bIdx (valO (sh μ 1) q9) true t9)) → eqTo (μ 1 0) (ν 32) (pf (μ 1 0) (bIdx (valO (sh μ 1) q9) true t9)) → J G X 114 [some (rf G 0), some (.int (nI q9)), some (.int (nI 1)), some (.int x3), some (.int (nI t9)), x5] [] ν := by
          intro x3 x5 ν hO hx hq
          refine j_aload_n C dX4_findBest_114 rfl ?_
          refine g4_5 C dX4_findBest_115 lFX4_36 ?_
          refine cVi0 C dX4_findBest_118 lMX4_203 myX1_advance (ev_X1_advance (hO.lt hE ht).1 (hO.lt hE ht).2) (by omega) rc1 (Nat.le_of_ble_eq_true rfl) (fun v_118 μ_118 hv_118 => ?_)
          have hadv := hO.adv hE ht
          rcases Nat.lt_or_ge (t9 + 1) (nP (μ 1 0)) with hlt | hge
          · obtain ⟨a1, a2⟩ := hadv.1 hlt
            obtain ⟨z1, z2, z3⟩ := hv_118.resolve_left (fun z => by have := z.1; omega)
            rw [z2]
            refine j_if_neN (tgt := 127) C dX4_findBest_121 (by decide) (by omega) (fun c_121 => ?_) (fun c_121 => absurd c_121 (by decide))
            refine in4 C dX4_findBest_127 (nI_1 _) rfl ?_
            refine j_goto (tgt := 35) C dX4_findBest_130 (by decide) ?_
            exact ih (t9 + 1) _ _ _ (by omega) hlt (by rw [z3]; exact a2) (Or.inr ⟨by rw [Nat.add_sub_cancel]; exact hx, by rw [Nat.add_sub_cancel, z3, rowM_ne (by decide)]; exact hq⟩)
          · have a1 := hadv.2 (by omega)
            obtain ⟨z1, z2, z3⟩ := hv_118.resolve_right (fun z => by have := z.1; omega)
            rw [z2]
            refine j_if_neN (tgt := 127) C dX4_findBest_121 (by decide) (by omega) (fun c_121 => absurd rfl c_121) (fun c_121 => ?_)
            refine j_goto (tgt := 133) C dX4_findBest_124 (by decide) ?_
            exact p133 _ _ _ _ (by rw [z3]; exact hO.1) (by rw [show nP (μ 1 0) - 1 = t9 by omega]; exact hx) (by rw [show nP (μ 1 0) - 1 = t9 by omega, z3]; exact hq)
        refine j_iload C dX4_findBest_35 rfl ?_
        refine j_sipush (v := nI 720) C dX4_findBest_37 (by decide) ?_
        first | refine j_icmp_geN (tgt := 133) C dX4_findBest_40 (by decide) (by omega) (by omega) (fun c_40 => ?_) (fun c_40 => ?_) | refine j_icmp_ge (tgt := 133) C dX4_findBest_40 (by decide) (fun c_40 => ?_) (fun c_40 => ?_)
        · exact absurd c_40 (by omega)
        · obtain ⟨w1, w2, w3⟩ := hO.walk hE ht
          refine j_aload_n C dX4_findBest_43 rfl ?_
          refine g4_4 C dX4_findBest_44 lFX4_29 ?_
          refine j_aload_n C dX4_findBest_47 rfl ?_
          refine g4_0 C dX4_findBest_48 lFX4_10 ?_
          refine j_aload_n C dX4_findBest_51 rfl ?_
          refine g4_5 C dX4_findBest_52 lFX4_36 ?_
          refine g1_0 C dX4_findBest_55 lFX4_198 ?_
          refine cVv2 C dX4_findBest_58 lMX4_129 myX3_walk (ev_X3_walk isH_1 w1 w2 iA_31 (by omega)) (by omega) rc3 (Nat.le_of_ble_eq_true rfl) (fun μ_58 hv_58 => ?_)
          obtain ⟨v1, v2⟩ := w3 _ hv_58
          have hO2 := hO.after hv_58
          have hvb := hVb t9 ht
          have hvb2 := hVb (bIdx (valO (sh μ 1) q9) true (t9 - 1)) (by have := bIdx_le (valO (sh μ 1) q9) true (t9 - 1); omega)
          refine j_iload_n C dX4_findBest_61 rfl ?_
          refine j_if_eqN (tgt := 78) C dX4_findBest_62 (by decide) (by omega) (fun c_62 => ?_) (fun c_62 => ?_)
          · exact absurd c_62 (by omega)
          · refine j_aload_n C dX4_findBest_65 rfl ?_
            refine g4_4 C dX4_findBest_66 lFX4_29 ?_
            refine g3_0 C dX4_findBest_69 lFX4_133 ?_
            refine j_iload_n C dX4_findBest_72 rfl ?_
            refine j_iald C dX4_findBest_73 iA_23 (by omega) ?_
            refine J.top (y := nI ((valO (sh μ 1) q9) t9)) (by rw [v1 q9 hq8]) ?_
            refine j_ineg C dX4_findBest_74 ?_
            refine j_goto (tgt := 87) C dX4_findBest_75 (by decide) ?_
            refine sl5 C dX4_findBest_87 rfl ?_
            refine j_iload C dX4_findBest_89 rfl ?_
            refine j_if_eqN (tgt := 100) C dX4_findBest_91 (by decide) (by omega) (fun c_91 => ?_) (fun c_91 => ?_)
            · have hn7 : bIdx (valO (sh μ 1) q9) true t9 = t9 := by rw [c_91]; rfl
              refine j_iload C dX4_findBest_100 rfl ?_
              refine sn3 C dX4_findBest_102 rfl ?_
              refine j_aload_n C dX4_findBest_103 rfl ?_
              refine g4_5 C dX4_findBest_104 lFX4_36 ?_
              refine j_aload_n C dX4_findBest_107 rfl ?_
              refine g4_6 C dX4_findBest_108 lFX4_40 ?_
              refine cVw1 C dX4_findBest_111 lMX4_199 myX1_copyTo (ev_X1_copyTo (by rw [hO2.2.1]; exact hE.1) iA_32) (by omega) rc1 (Nat.le_of_ble_eq_true rfl) ?_
              exact p114 _ _ _ (hO2.copy).1 (by rw [hn7]) (by rw [hn7]; exact (hO2.copy).2)
            · obtain ⟨hx, hq⟩ := hi.resolve_left c_91
              refine j_iload C dX4_findBest_94 rfl ?_
              refine j_iload_n C dX4_findBest_96 rfl ?_
              refine j_icmp_ge (tgt := 114) C dX4_findBest_97 (by decide) (fun c_97 => ?_) (fun c_97 => ?_)
              · have q97 : ¬ (valO (sh μ 1) q9) (bIdx (valO (sh μ 1) q9) true (t9 - 1)) < (valO (sh μ 1) q9) t9 := by
                  rw [hx] at c_97
                  have := (sb_nle (by omega) (by omega)).mp c_97
                  omega
                have hn7 := (bIdx_t (f := (valO (sh μ 1) q9)) (v9 := t9) (by omega) rfl rfl).2 (by omega)
                rw [← hn7] at hx hq
                exact p114 _ _ _ hO2 hx (by rw [hv_58.1 32 (by omega)]; exact hq)
              · have q97 : (valO (sh μ 1) q9) (bIdx (valO (sh μ 1) q9) true (t9 - 1)) < (valO (sh μ 1) q9) t9 := by
                  rw [hx] at c_97
                  rcases Nat.lt_or_ge ((valO (sh μ 1) q9) (bIdx (valO (sh μ 1) q9) true (t9 - 1))) ((valO (sh μ 1) q9) t9) with z | z
                  · exact z
                  · exact absurd ((sb_nle (by omega) (by omega)).mpr z) c_97
                have hn7 := (bIdx_t (f := (valO (sh μ 1) q9)) (v9 := t9) (by omega) rfl rfl).1 (by omega)
                refine j_iload C dX4_findBest_100 rfl ?_
                refine sn3 C dX4_findBest_102 rfl ?_
                refine j_aload_n C dX4_findBest_103 rfl ?_
                refine g4_5 C dX4_findBest_104 lFX4_36 ?_
                refine j_aload_n C dX4_findBest_107 rfl ?_
                refine g4_6 C dX4_findBest_108 lFX4_40 ?_
                refine cVw1 C dX4_findBest_111 lMX4_199 myX1_copyTo (ev_X1_copyTo (by rw [hO2.2.1]; exact hE.1) iA_32) (by omega) rc1 (Nat.le_of_ble_eq_true rfl) ?_
                exact p114 _ _ _ (hO2.copy).1 (by rw [hn7]) (by rw [hn7]; exact (hO2.copy).2)
    refine j_iload_n C dX4_findBest_0 rfl ?_
    refine j_iconst (v := nI 1) C dX4_findBest_1 (by decide) ?_
    first | refine j_icmp_eqN (tgt := 10) C dX4_findBest_2 (by decide) (by omega) (by omega) (fun c_2 => ?_) (fun c_2 => ?_) | refine j_icmp_eq (tgt := 10) C dX4_findBest_2 (by decide) (fun c_2 => ?_) (fun c_2 => ?_)
    · refine j_iconst (v := nI 1) C dX4_findBest_10 (by decide) ?_
      refine j_goto (tgt := 15) C dX4_findBest_11 (by decide) ?_
      refine sn2 C dX4_findBest_15 rfl ?_
      refine j_iconst (v := nI 0) C dX4_findBest_16 (by decide) ?_
      refine sn3 C dX4_findBest_17 rfl ?_
      refine j_aload_n C dX4_findBest_18 rfl ?_
      refine g4_5 C dX4_findBest_19 lFX4_36 ?_
      refine j_aload_n C dX4_findBest_22 rfl ?_
      refine g4_0 C dX4_findBest_23 lFX4_10 ?_
      refine g0_0 isH_1 C dX4_findBest_26 lFX4_154 ?_
      refine cVv1 C dX4_findBest_29 lMX4_195 myX1_begin (ev_X1_begin h6) (by omega) rc1 (Nat.le_of_ble_eq_true rfl) (fun μ_29 hv_29 => ?_)
      refine j_iconst (v := nI 0) C dX4_findBest_32 (by decide) ?_
      refine sl4 C dX4_findBest_33 rfl ?_
      obtain ⟨σ9, hσ⟩ := hv_29
      exact loop (nP (μ 1 0)) 0 _ _ _ (by omega) (by omega) (OS.beg h6 hσ) (Or.inl rfl)
    · refine j_iload_n C dX4_findBest_5 rfl ?_
      refine j_iconst (v := nI 4) C dX4_findBest_6 (by decide) ?_
      first | refine j_icmp_neN (tgt := 14) C dX4_findBest_7 (by decide) (by omega) (by omega) (fun c_7 => ?_) (fun c_7 => ?_) | refine j_icmp_ne (tgt := 14) C dX4_findBest_7 (by decide) (fun c_7 => ?_) (fun c_7 => ?_)
      · exact absurd hm (by omega)
      · refine j_iconst (v := nI 1) C dX4_findBest_10 (by decide) ?_
        refine j_goto (tgt := 15) C dX4_findBest_11 (by decide) ?_
        refine sn2 C dX4_findBest_15 rfl ?_
        refine j_iconst (v := nI 0) C dX4_findBest_16 (by decide) ?_
        refine sn3 C dX4_findBest_17 rfl ?_
        refine j_aload_n C dX4_findBest_18 rfl ?_
        refine g4_5 C dX4_findBest_19 lFX4_36 ?_
        refine j_aload_n C dX4_findBest_22 rfl ?_
        refine g4_0 C dX4_findBest_23 lFX4_10 ?_
        refine g0_0 isH_1 C dX4_findBest_26 lFX4_154 ?_
        refine cVv1 C dX4_findBest_29 lMX4_195 myX1_begin (ev_X1_begin h6) (by omega) rc1 (Nat.le_of_ble_eq_true rfl) (fun μ_29 hv_29 => ?_)
        refine j_iconst (v := nI 0) C dX4_findBest_32 (by decide) ?_
        refine sl4 C dX4_findBest_33 rfl ?_
        obtain ⟨σ9, hσ⟩ := hv_29
        exact loop (nP (μ 1 0)) 0 _ _ _ (by omega) (by omega) (OS.beg h6 hσ) (Or.inl rfl)
  · have bm : decide (q9 = 1 ∨ q9 = 4) = false := decide_eq_false hm
    have p133 : ∀ x3 x4 x5 ν, KC μ ν → x3 = nI ((valO (sh μ 1) q9) (bIdx (valO (sh μ 1) q9) false (nP (μ 1 0) - 1))) → eqTo (μ 1 0) (ν 32) (pf (μ 1 0) (bIdx (valO (sh μ 1) q9) false (nP (μ 1 0) - 1))) → J G X 133 [some (rf G 0), some (.int (nI q9)), some (.int (nI 0)), some (.int x3), x4, x5] [] ν := by
      intro x3 x4 x5 ν hK hx hq
      refine j_iload_n C dX4_findBest_133 rfl ?_
      refine j_if_eqN (tgt := 142) C dX4_findBest_134 (by decide) (by omega) (fun c_134 => ?_) (fun c_134 => ?_)
      · refine j_iload_n C dX4_findBest_142 rfl ?_
        exact j_iret C E dX4_findBest_143 ⟨_, rfl, by rw [bm]; exact ⟨hx, hq, hK⟩⟩
      · exact absurd c_134 (by omega)
    have loop : ∀ c t9 x3 x5 ν, t9 + c = nP (μ 1 0) → t9 < nP (μ 1 0) → OS μ ν t9 → (t9 = 0 ∨ (x3 = nI ((valO (sh μ 1) q9) (bIdx (valO (sh μ 1) q9) false (t9 - 1))) ∧ eqTo (μ 1 0) (ν 32) (pf (μ 1 0) (bIdx (valO (sh μ 1) q9) false (t9 - 1))))) → J G X 35 [some (rf G 0), some (.int (nI q9)), some (.int (nI 0)), some (.int x3), some (.int (nI t9)), x5] [] ν := by
      intro c
      induction c with
      | zero => intro t9 x3 x5 ν hc ht; exact absurd ht (by omega)
      | succ c ih =>
        intro t9 x3 x5 ν hc ht hO hi
        have p114 : ∀ x3 x5 ν, OS μ ν t9 → x3 = nI ((valO (sh μ 1) q9) (bIdx (valO (sh μ 1) q9) false t9)) → eqTo (μ 1 0) (ν 32) (pf (μ 1 0) (bIdx (valO (sh μ 1) q9) false t9)) → J G X 114 [some (rf G 0), some (.int (nI q9)), some (.int (nI 0)), some (.int x3), some (.int (nI t9)), x5] [] ν := by
          intro x3 x5 ν hO hx hq
          refine j_aload_n C dX4_findBest_114 rfl ?_
          refine g4_5 C dX4_findBest_115 lFX4_36 ?_
          refine cVi0 C dX4_findBest_118 lMX4_203 myX1_advance (ev_X1_advance (hO.lt hE ht).1 (hO.lt hE ht).2) (by omega) rc1 (Nat.le_of_ble_eq_true rfl) (fun v_118 μ_118 hv_118 => ?_)
          have hadv := hO.adv hE ht
          rcases Nat.lt_or_ge (t9 + 1) (nP (μ 1 0)) with hlt | hge
          · obtain ⟨a1, a2⟩ := hadv.1 hlt
            obtain ⟨z1, z2, z3⟩ := hv_118.resolve_left (fun z => by have := z.1; omega)
            rw [z2]
            refine j_if_neN (tgt := 127) C dX4_findBest_121 (by decide) (by omega) (fun c_121 => ?_) (fun c_121 => absurd c_121 (by decide))
            refine in4 C dX4_findBest_127 (nI_1 _) rfl ?_
            refine j_goto (tgt := 35) C dX4_findBest_130 (by decide) ?_
            exact ih (t9 + 1) _ _ _ (by omega) hlt (by rw [z3]; exact a2) (Or.inr ⟨by rw [Nat.add_sub_cancel]; exact hx, by rw [Nat.add_sub_cancel, z3, rowM_ne (by decide)]; exact hq⟩)
          · have a1 := hadv.2 (by omega)
            obtain ⟨z1, z2, z3⟩ := hv_118.resolve_right (fun z => by have := z.1; omega)
            rw [z2]
            refine j_if_neN (tgt := 127) C dX4_findBest_121 (by decide) (by omega) (fun c_121 => absurd rfl c_121) (fun c_121 => ?_)
            refine j_goto (tgt := 133) C dX4_findBest_124 (by decide) ?_
            exact p133 _ _ _ _ (by rw [z3]; exact hO.1) (by rw [show nP (μ 1 0) - 1 = t9 by omega]; exact hx) (by rw [show nP (μ 1 0) - 1 = t9 by omega, z3]; exact hq)
        refine j_iload C dX4_findBest_35 rfl ?_
        refine j_sipush (v := nI 720) C dX4_findBest_37 (by decide) ?_
        first | refine j_icmp_geN (tgt := 133) C dX4_findBest_40 (by decide) (by omega) (by omega) (fun c_40 => ?_) (fun c_40 => ?_) | refine j_icmp_ge (tgt := 133) C dX4_findBest_40 (by decide) (fun c_40 => ?_) (fun c_40 => ?_)
        · exact absurd c_40 (by omega)
        · obtain ⟨w1, w2, w3⟩ := hO.walk hE ht
          refine j_aload_n C dX4_findBest_43 rfl ?_
          refine g4_4 C dX4_findBest_44 lFX4_29 ?_
          refine j_aload_n C dX4_findBest_47 rfl ?_
          refine g4_0 C dX4_findBest_48 lFX4_10 ?_
          refine j_aload_n C dX4_findBest_51 rfl ?_
          refine g4_5 C dX4_findBest_52 lFX4_36 ?_
          refine g1_0 C dX4_findBest_55 lFX4_198 ?_
          refine cVv2 C dX4_findBest_58 lMX4_129 myX3_walk (ev_X3_walk isH_1 w1 w2 iA_31 (by omega)) (by omega) rc3 (Nat.le_of_ble_eq_true rfl) (fun μ_58 hv_58 => ?_)
          obtain ⟨v1, v2⟩ := w3 _ hv_58
          have hO2 := hO.after hv_58
          have hvb := hVb t9 ht
          have hvb2 := hVb (bIdx (valO (sh μ 1) q9) false (t9 - 1)) (by have := bIdx_le (valO (sh μ 1) q9) false (t9 - 1); omega)
          refine j_iload_n C dX4_findBest_61 rfl ?_
          refine j_if_eqN (tgt := 78) C dX4_findBest_62 (by decide) (by omega) (fun c_62 => ?_) (fun c_62 => ?_)
          · refine j_aload_n C dX4_findBest_78 rfl ?_
            refine g4_4 C dX4_findBest_79 lFX4_29 ?_
            refine g3_0 C dX4_findBest_82 lFX4_133 ?_
            refine j_iload_n C dX4_findBest_85 rfl ?_
            refine j_iald C dX4_findBest_86 iA_23 (by omega) ?_
            refine J.top (y := nI ((valO (sh μ 1) q9) t9)) (by rw [v1 q9 hq8]) ?_
            refine sl5 C dX4_findBest_87 rfl ?_
            refine j_iload C dX4_findBest_89 rfl ?_
            refine j_if_eqN (tgt := 100) C dX4_findBest_91 (by decide) (by omega) (fun c_91 => ?_) (fun c_91 => ?_)
            · have hn7 : bIdx (valO (sh μ 1) q9) false t9 = t9 := by rw [c_91]; rfl
              refine j_iload C dX4_findBest_100 rfl ?_
              refine sn3 C dX4_findBest_102 rfl ?_
              refine j_aload_n C dX4_findBest_103 rfl ?_
              refine g4_5 C dX4_findBest_104 lFX4_36 ?_
              refine j_aload_n C dX4_findBest_107 rfl ?_
              refine g4_6 C dX4_findBest_108 lFX4_40 ?_
              refine cVw1 C dX4_findBest_111 lMX4_199 myX1_copyTo (ev_X1_copyTo (by rw [hO2.2.1]; exact hE.1) iA_32) (by omega) rc1 (Nat.le_of_ble_eq_true rfl) ?_
              exact p114 _ _ _ (hO2.copy).1 (by rw [hn7]) (by rw [hn7]; exact (hO2.copy).2)
            · obtain ⟨hx, hq⟩ := hi.resolve_left c_91
              refine j_iload C dX4_findBest_94 rfl ?_
              refine j_iload_n C dX4_findBest_96 rfl ?_
              refine j_icmp_ge (tgt := 114) C dX4_findBest_97 (by decide) (fun c_97 => ?_) (fun c_97 => ?_)
              · have q97 : ¬ (valO (sh μ 1) q9) t9 < (valO (sh μ 1) q9) (bIdx (valO (sh μ 1) q9) false (t9 - 1)) := by
                  rw [hx] at c_97
                  have := (nI_leI (by omega) (by omega)).mp c_97
                  omega
                have hn7 := (bIdx_f (f := (valO (sh μ 1) q9)) (v9 := t9) (by omega) rfl rfl).2 (by omega)
                rw [← hn7] at hx hq
                exact p114 _ _ _ hO2 hx (by rw [hv_58.1 32 (by omega)]; exact hq)
              · have q97 : (valO (sh μ 1) q9) t9 < (valO (sh μ 1) q9) (bIdx (valO (sh μ 1) q9) false (t9 - 1)) := by
                  rw [hx] at c_97
                  rcases Nat.lt_or_ge ((valO (sh μ 1) q9) t9) ((valO (sh μ 1) q9) (bIdx (valO (sh μ 1) q9) false (t9 - 1))) with z | z
                  · exact z
                  · exact absurd ((nI_leI (by omega) (by omega)).mpr z) c_97
                have hn7 := (bIdx_f (f := (valO (sh μ 1) q9)) (v9 := t9) (by omega) rfl rfl).1 (by omega)
                refine j_iload C dX4_findBest_100 rfl ?_
                refine sn3 C dX4_findBest_102 rfl ?_
                refine j_aload_n C dX4_findBest_103 rfl ?_
                refine g4_5 C dX4_findBest_104 lFX4_36 ?_
                refine j_aload_n C dX4_findBest_107 rfl ?_
                refine g4_6 C dX4_findBest_108 lFX4_40 ?_
                refine cVw1 C dX4_findBest_111 lMX4_199 myX1_copyTo (ev_X1_copyTo (by rw [hO2.2.1]; exact hE.1) iA_32) (by omega) rc1 (Nat.le_of_ble_eq_true rfl) ?_
                exact p114 _ _ _ (hO2.copy).1 (by rw [hn7]) (by rw [hn7]; exact (hO2.copy).2)
          · exact absurd c_62 (by omega)
    refine j_iload_n C dX4_findBest_0 rfl ?_
    refine j_iconst (v := nI 1) C dX4_findBest_1 (by decide) ?_
    first | refine j_icmp_eqN (tgt := 10) C dX4_findBest_2 (by decide) (by omega) (by omega) (fun c_2 => ?_) (fun c_2 => ?_) | refine j_icmp_eq (tgt := 10) C dX4_findBest_2 (by decide) (fun c_2 => ?_) (fun c_2 => ?_)
    · exact absurd (Or.inl c_2) hm
    · refine j_iload_n C dX4_findBest_5 rfl ?_
      refine j_iconst (v := nI 4) C dX4_findBest_6 (by decide) ?_
      first | refine j_icmp_neN (tgt := 14) C dX4_findBest_7 (by decide) (by omega) (by omega) (fun c_7 => ?_) (fun c_7 => ?_) | refine j_icmp_ne (tgt := 14) C dX4_findBest_7 (by decide) (fun c_7 => ?_) (fun c_7 => ?_)
      · refine j_iconst (v := nI 0) C dX4_findBest_14 (by decide) ?_
        refine sn2 C dX4_findBest_15 rfl ?_
        refine j_iconst (v := nI 0) C dX4_findBest_16 (by decide) ?_
        refine sn3 C dX4_findBest_17 rfl ?_
        refine j_aload_n C dX4_findBest_18 rfl ?_
        refine g4_5 C dX4_findBest_19 lFX4_36 ?_
        refine j_aload_n C dX4_findBest_22 rfl ?_
        refine g4_0 C dX4_findBest_23 lFX4_10 ?_
        refine g0_0 isH_1 C dX4_findBest_26 lFX4_154 ?_
        refine cVv1 C dX4_findBest_29 lMX4_195 myX1_begin (ev_X1_begin h6) (by omega) rc1 (Nat.le_of_ble_eq_true rfl) (fun μ_29 hv_29 => ?_)
        refine j_iconst (v := nI 0) C dX4_findBest_32 (by decide) ?_
        refine sl4 C dX4_findBest_33 rfl ?_
        obtain ⟨σ9, hσ⟩ := hv_29
        exact loop (nP (μ 1 0)) 0 _ _ _ (by omega) (by omega) (OS.beg h6 hσ) (Or.inl rfl)
      · exact absurd (Or.inr c_7) hm
