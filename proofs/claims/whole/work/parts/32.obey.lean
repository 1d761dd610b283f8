-- THE TROLLEY: a text is obeyed
theorem runA_ok {L : Nat → Nat} {n : Nat} : ∀ (k a : Nat) (E : Mem) (c : Nat) (v : Int32) (F : Mem), n ≤ 96 → c ≤ a → a ≤ n → good L n k a → EI E → PI5 E → runA L n k a E c v F → (∃ m, m ≤ 96 ∧ c ≤ m ∧ v = nI m ∧ (c = m → n ≤ a) ∧ EI F ∧ PI5 F) ∨ (∃ m, m ≤ 96 ∧ v = -2000 - nI m)
  | 0, a, E, c, v, F, hn, hc, ha, _, h1, h2, h => Or.inl ⟨c, by omega, by omega, h.2.1, fun _ => h.1, by rw [h.2.2]; exact ⟨h1, h2⟩⟩
  | k + 1, a, E, c, v, F, hn, hc, ha, g, h1, h2, h => by
    rcases h with ⟨q0, q1, q2⟩ | ⟨q0, ⟨q1, q2⟩ | ⟨q1, q2⟩⟩
    · exact Or.inl ⟨c, by omega, by omega, q1, fun _ => q0, by rw [q2]; exact ⟨h1, h2⟩⟩
    · rcases g with g | ⟨g1, g2, g3⟩
      · exact absurd q0 (by omega)
      · have h3 := slen_3 g2.1
        have h4 := g2.2.1
        have := apE_ok g2 h1 h2 q1
        rcases runA_ok k _ _ _ v F hn (by omega) (by omega) g3 this.1 this.2 q2 with ⟨m, z1, z2, z3, z4, z5⟩ | z
        · exact Or.inl ⟨m, z1, by omega, z3, fun e => absurd e (by omega), z5⟩
        · exact Or.inr z
    · exact Or.inr ⟨a, by omega, q2⟩
theorem neg_of {k m : Nat} (hk : k ≤ 2000) (h1 : 1 ≤ k) (hm : m ≤ 2000) : (-(nI k) - nI m).toInt = -(k : Int) - m := by
  have e1 : (-(nI k)).toInt = -(k : Int) := by
    rw [Int32.toInt_neg, nI_toInt (by omega)]
    exact Int.bmod_eq_of_le (by omega) (by omega)
  rw [Int32.toInt_sub, e1, nI_toInt (by omega)]
  exact Int.bmod_eq_of_le (by omega) (by omega)
theorem neg_lt {k m : Nat} (hk : k ≤ 2000) (h1 : 1 ≤ k) (hm : m ≤ 2000) : -(nI k) - nI m < 0 := by
  rw [Int32.lt_iff_toInt_lt, neg_of hk h1 hm, show (0 : Int32).toInt = 0 from rfl]
  omega
theorem neg_1000 {m : Nat} (hm : m ≤ 2000) : (-1000 : Int32) - nI m < 0 := neg_lt (k := 1000) (by decide) (by decide) hm
theorem neg_2000 {m : Nat} (hm : m ≤ 2000) : (-2000 : Int32) - nI m < 0 := neg_lt (k := 2000) (by decide) (by decide) hm
/-- what comes of a text: the answer and the house F -/
def HO (L : Nat → Nat) (n : Nat) (E : Mem) (v : Int32) (F : Mem) : Prop := (n = 0 ∧ v = -1000 ∧ EQ F E) ∨ (0 < n ∧ ∃ w, badA L n w n 0 ∧ v = -1000 - nI w ∧ EQ F E) ∨ (0 < n ∧ good L n n 0 ∧ ∃ E9 F9, EQ E9 E ∧ runA L n n 0 E9 0 v F9 ∧ ((0 < v ∧ EQ F F9) ∨ (v < 0 ∧ EQ F E)))
theorem EQ_fr {μ μ' : Mem} (h : ∀ q, 1 ≤ q → q ≤ 7 → μ' q = μ q) : EQ (sh μ' 1) (sh μ 1) :=
  ⟨congrFun (h 1 (by omega) (by omega)) 0, fun k i h1 h2 _ => congrFun (h (1 + k) (by omega) (by omega)) i, fun i _ => congrFun (h 7 (by omega) (by omega)) i⟩
set_option maxRecDepth 100000 in
set_option maxHeartbeats 4000000 in
theorem ev_X4_house {G : GX} {μ : Mem} (hn : μ 34 1 ≤ 96) (hL9 : ∀ j, j < 96 → μ 35 j ≤ 255) (hE : EI (sh μ 1)) (hP : PI5 (sh μ 1)) : Ev G mX4_house 5 [rf G 0] μ (PI (fun v μ' => HO (μ 35) (μ 34 1) (sh μ 1) v (sh μ' 1) ∧ μ' 34 = (fun i => if i = 1 then 0 else μ 34 i) ∧ ∀ q, (q < 1 ∨ 14 < q) → q ≠ 34 → μ' q = μ q)) := by
  refine Ev.of (own := RX4) (n := 1) (by decide) rfl rfl (catOK rfl) (fun X C E => ?_)
  show J G X 0 [some _, none] [] _
  refine j_aload_n C dX4_house_0 rfl ?_
  refine g4_1 C dX4_house_1 lFX4_16 ?_
  refine j_aload_n C dX4_house_4 rfl ?_
  refine g4_0 C dX4_house_5 lFX4_10 ?_
  refine cVv1 C dX4_house_8 lMX4_75 myX0_copyFrom (ev_X0_copyFrom isH_8 isH_1) (by omega) (rc0 isH_8) (Nat.le_of_ble_eq_true rfl) (fun μ_8 hv_8 => ?_)
  subst hv_8
  have k34 : cpH μ 8 1 34 = μ 34 := cpH_off (by omega)
  have k35 : cpH μ 8 1 35 = μ 35 := cpH_off (by omega)
  have ke : EQ (sh (cpH μ 8 1) 8) (sh μ 1) := cpH_eq isH_8 isH_1 (by decide)
  refine j_aload_n C dX4_house_11 rfl ?_
  refine g4_8 C dX4_house_12 lFX4_50 ?_
  refine j_aload_n C dX4_house_15 rfl ?_
  refine g4_1 C dX4_house_16 lFX4_16 ?_
  refine cVi1 C dX4_house_19 lMX4_79 myX2_readInto (ev_X2_readInto (by rw [k34]; exact hn) (by rw [k35]; exact hL9) (hE.eq ke.symm) (hP.eq ke.symm hE)) (by omega) rc2 (Nat.le_of_ble_eq_true rfl) (fun v_19 μ_19 hv_19 => ?_)
  rw [k34, k35] at hv_19
  obtain ⟨hri, hfr⟩ := hv_19
  have hq9 : ∀ q, (q < 8 ∨ 14 < q) → μ_19 q = μ q := fun q h => (hfr q h).trans (cpH_off (by omega))
  have hz9 : up μ_19 34 1 0 34 = (fun i => if i = 1 then 0 else μ 34 i) := by
    funext i
    by_cases e : i = 1
    · subst e; rw [up_at, if_pos rfl]
    · rw [up_off (Or.inr e), if_neg e, hq9 34 (by omega)]
  have hEQ : EQ (sh (up μ_19 34 1 0) 1) (sh μ 1) := EQ_fr (fun q h1 h2 => by rw [up_ne (by omega), hq9 q (by omega)])
  refine sn1 C dX4_house_22 rfl ?_
  refine j_aload_n C dX4_house_23 rfl ?_
  refine g4_8 C dX4_house_24 lFX4_50 ?_
  refine j_iconst (v := nI 0) C dX4_house_27 (by decide) ?_
  refine p2_1 C dX4_house_28 lFX4_68 ?_
  refine j_iload_n C dX4_house_31 rfl ?_
  refine j_if_le (tgt := 46) C dX4_house_32 (by decide) (fun c_32 => ?_) (fun c_32 => ?_)
  · refine j_iload_n C dX4_house_46 rfl ?_
    refine j_iret C E dX4_house_47 ⟨_, rfl, ?_, hz9, fun q h h2 => by rw [up_ne h2, hq9 q (by omega)]⟩
    rcases hri with ⟨r1, r2⟩ | ⟨r1, ⟨r2, r3⟩ | ⟨w9, r2, r3⟩⟩
    · exact Or.inl ⟨r1, r2, hEQ⟩
    · refine Or.inr (Or.inr ⟨r1, r2, _, _, ke, r3, Or.inr ⟨?_, hEQ⟩⟩)
      rcases runA_ok _ _ _ _ _ _ hn (by omega) (by omega) r2 (hE.eq ke.symm) (hP.eq ke.symm hE) r3 with ⟨m, z1, z2, z3, z4, z5⟩ | ⟨m, z1, z2⟩
      · rw [z3] at c_32
        have := (nI_ltI (a := 0) (b := m) (by decide) (by omega)).mpr (by by_cases e : 0 = m; (have := z4 e; omega); omega)
        exact absurd c_32 (Int32.not_le.mpr this)
      · rw [z2]; exact neg_2000 (by omega)
    · exact Or.inr (Or.inl ⟨r1, w9, r2, r3, hEQ⟩)
  · refine j_aload_n C dX4_house_35 rfl ?_
    refine g4_0 C dX4_house_36 lFX4_10 ?_
    refine j_aload_n C dX4_house_39 rfl ?_
    refine g4_1 C dX4_house_40 lFX4_16 ?_
    refine cVv1 C dX4_house_43 lMX4_75 myX0_copyFrom (ev_X0_copyFrom isH_1 isH_8) (by omega) (rc0 isH_1) (Nat.le_of_ble_eq_true rfl) (fun μ_43 hv_43 => ?_)
    subst hv_43
    refine j_iload_n C dX4_house_46 rfl ?_
    refine j_iret C E dX4_house_47 ⟨_, rfl, ?_, by rw [cpH_off (by omega)]; exact hz9, fun q h h2 => by rw [cpH_off (by omega), up_ne h2, hq9 q (by omega)]⟩
    have hp9 := Int32.not_le.mp c_32
    have h8 : EQ (sh (cpH (up μ_19 34 1 0) 1 8) 1) (sh μ_19 8) := (cpH_eq isH_1 isH_8 (by decide)).trans ⟨rfl, fun k i h1 h2 _ => congrFun (up_ne (b := 8 + k) (by omega)) i, fun i _ => congrFun (up_ne (b := 14) (by omega)) i⟩
    rcases hri with ⟨r1, r2⟩ | ⟨r1, ⟨r2, r3⟩ | ⟨w9, r2, r3⟩⟩
    · rw [r2] at hp9; exact absurd hp9 (by decide)
    · exact Or.inr (Or.inr ⟨r1, r2, _, _, ke, r3, Or.inl ⟨hp9, h8⟩⟩)
    · rw [r3] at hp9; exact absurd hp9 (Int32.not_lt.mpr (Int32.le_of_lt (neg_1000 (by have := badA_le _ _ r2; omega))))
