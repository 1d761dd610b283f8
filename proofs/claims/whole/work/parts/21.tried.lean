-- TRIED HOUSES
theorem EQ_up {E F : Mem} {a k v : Nat} (h : EQ F E) : EQ (up F a k v) (up E a k v) := by
  refine ⟨?_, fun q i h1 h2 h3 => ?_, fun i hi => ?_⟩
  · simp only [up]; split; rfl; exact h.1
  · simp only [up]; split; rfl; exact h.2.1 q i h1 h2 h3
  · simp only [up]; split; rfl; exact h.2.2 i hi
theorem up_up {E : Mem} {a k v w : Nat} : up (up E a k w) a k v = up E a k v := by
  funext q i
  by_cases h : q = a ∧ i = k <;> simp [up, h]
theorem sh_up {ν : Mem} {a k v : Nat} : sh (up ν (8 + a) k v) 8 = up (sh ν 8) a k v := by
  funext q i
  by_cases h : q = a <;> simp [sh, up, h]
/-- the trial holds E but at one place -/
def TX (ν E : Mem) (a k : Nat) : Prop := EQ (up (sh ν 8) a k 0) (up E a k 0)
theorem TX_of {ν E : Mem} {a k : Nat} (h : EQ (sh ν 8) E) : TX ν E a k := EQ_up h
theorem TX_set {ν E : Mem} {a k v : Nat} (h : TX ν E a k) : EQ (sh (up ν (8 + a) k v) 8) (up E a k v) := by
  have := EQ_up (a := a) (k := k) (v := v) h
  rw [up_up, up_up] at this
  rw [sh_up]
  exact this
theorem EI_up6 {E : Mem} {k v : Nat} (h : EI E) (hv : v ≤ mostN k) : EI (up E 6 k v) := by
  refine ⟨?_, fun f hf => ?_, fun q hq => ?_⟩
  · show up E 6 k v 0 0 ≤ 6
    rw [up_ne (by decide)]; exact h.1
  · rw [up_ne (show (0 : Nat) ≠ 6 by decide)] at hf
    rw [up_ne (by decide), up_ne (by decide), up_ne (by decide), up_ne (by decide)]
    exact h.2.1 f hf
  · rw [up_self]
    by_cases e : q = k
    · simp only [e, if_true]; exact hv
    · simp only [e, if_false]; exact h.2.2 q hq
theorem EI_up3 {E : Mem} {k v : Nat} (h : EI E) (h1 : 1 ≤ v) (hv : v ≤ 20) : EI (up E 3 k v) := by
  refine ⟨?_, fun f hf => ?_, fun q hq => ?_⟩
  · rw [up_ne (by decide)]; exact h.1
  · rw [up_ne (show (0 : Nat) ≠ 3 by decide)] at hf
    rw [up_ne (by decide), up_ne (by decide), up_ne (show (4 : Nat) ≠ 3 by decide), up_self]
    have := h.2.1 f hf
    by_cases e : f = k
    · simp only [e, if_true]
      rw [e] at this
      exact ⟨this.1, this.2.1, h1, hv, this.2.2.2.2⟩
    · simp only [e, if_false]; exact this
  · rw [up_ne (by decide)]; exact h.2.2 q hq
theorem PI5_up {E : Mem} {a k v : Nat} (h : PI5 E) (h5 : a ≠ 5) (h0 : a ≠ 0) : PI5 (up E a k v) := by
  have e5 : up E a k v 5 = E 5 := up_ne (Ne.symm h5)
  have e0 : up E a k v 0 = E 0 := up_ne (Ne.symm h0)
  unfold PI5 OI
  rw [e5, e0]
  exact h
theorem EQ_sh {μ ν : Mem} {b : Nat} (h : ∀ q, b ≤ q → q ≤ b + 6 → ν q = μ q) : EQ (sh ν b) (sh μ b) :=
  ⟨congrFun (h (b + 0) (by omega) (by omega)) 0, fun k i h1 h2 _ => congrFun (h (b + k) (by omega) (by omega)) i, fun i _ => congrFun (h (b + 6) (by omega) (by omega)) i⟩
/-- a round of the tried house, one place of it set to v -/
theorem tw {ν E : Mem} {a k v : Nat} (h : TX ν E a k) (ha : a = 3 ∨ a = 6) (hE : EI (up E a k v)) (hP : PI5 E) :
    EI (sh (up ν (8 + a) k v) 8) ∧ OI (sh (up ν (8 + a) k v) 8) (up ν (8 + a) k v (8 + 5)) ∧ ∀ μ2, RPost (up ν (8 + a) k v) (sh (up ν (8 + a) k v) 8) (up ν (8 + a) k v (8 + 5)) 0 μ2 →
      (∀ j, j < 8 → μ2 23 j = Tot (up E a k v) (E 5) 0 j) ∧ (∀ i, i < E 0 0 → μ2 27 i = oIced (up E a k v) (E 5) 0 i) ∧ TX μ2 E a k ∧ KC ν μ2 := by
  have hq := TX_set (v := v) h
  have hP2 : PI5 (up E a k v) := PI5_up hP (by omega) (by omega)
  have e1 := EI.eq hq.symm hE
  have e2 := PI5.eq hq.symm hE hP2
  have a5 : (up E a k v) 5 = E 5 := up_ne (by omega)
  have a0 : (up E a k v) 0 = E 0 := up_ne (by omega)
  refine ⟨e1, e2.1, fun μ2 hr => ?_⟩
  have n0 : sh (up ν (8 + a) k v) 8 0 0 = E 0 0 := by rw [hq.1, a0]
  have op : eqTo (sh (up ν (8 + a) k v) 8 0 0) (up ν (8 + a) k v (8 + 5)) (E 5) := fun i hi => by
    have h6 := e1.1
    have := hq.2.1 5 i (by omega) (by omega) (by omega)
    rw [a5] at this
    exact this
  refine ⟨fun j hj => ?_, fun i hi => ?_, ?_, fun q hq2 => ?_⟩
  · rw [hr.2.1 j hj]
    exact Tot_eq hq e1 e2.1 op
  · rw [(hr.2.2 i (by omega)).2.2.2.1]
    exact (o_eq hq e1 e2.1 op (by omega)).2.2.2.1
  · have h3 : EQ (sh μ2 8) (sh (up ν (8 + a) k v) 8) := EQ_sh (fun q _ _ => hr.1 q (by omega))
    have h4 := EQ_up (a := a) (k := k) (v := 0) (h3.trans hq)
    rw [up_up] at h4
    exact h4
  · rw [hr.1 q (by omega), up_ne (by omega)]
def fst0 (f : Nat → Nat) : Nat → Nat → Int32
  | 0, _ => -9
  | k + 1, v => if f v = 0 then nI v else fst0 f k (v + 1)
/-- the first place of the best, of places 0 to t -/
def bIdx (f : Nat → Nat) (most : Bool) : Nat → Nat
  | 0 => 0
  | t + 1 => if (if most then f (bIdx f most t) < f (t + 1) else f (t + 1) < f (bIdx f most t)) then t + 1 else bIdx f most t
theorem bIdx_le (f : Nat → Nat) (m : Bool) : ∀ t, bIdx f m t ≤ t
  | 0 => Nat.le_refl 0
  | t + 1 => by
    have := bIdx_le f m t
    rw [bIdx]
    (repeat' split) <;> omega
theorem bIdx_f {f : Nat → Nat} {v9 b9 l9 : Nat} (h : 0 < v9) (hb : b9 = bIdx f false (v9 - 1)) (hl : l9 = f b9) : (f v9 < l9 → bIdx f false v9 = v9) ∧ (l9 ≤ f v9 → bIdx f false v9 = b9) := by
  obtain ⟨u9, rfl⟩ : ∃ u9, v9 = u9 + 1 := ⟨v9 - 1, by omega⟩
  rw [Nat.add_sub_cancel] at hb
  subst hb
  subst hl
  constructor
  · intro q
    rw [bIdx]
    simp only [Bool.false_eq_true, if_false]
    rw [if_pos q]
  · intro q
    rw [bIdx]
    simp only [Bool.false_eq_true, if_false]
    rw [if_neg (by omega)]
theorem bIdx_t {f : Nat → Nat} {v9 b9 l9 : Nat} (h : 0 < v9) (hb : b9 = bIdx f true (v9 - 1)) (hl : l9 = f b9) : (l9 < f v9 → bIdx f true v9 = v9) ∧ (f v9 ≤ l9 → bIdx f true v9 = b9) := by
  obtain ⟨u9, rfl⟩ : ∃ u9, v9 = u9 + 1 := ⟨v9 - 1, by omega⟩
  rw [Nat.add_sub_cancel] at hb
  subst hb
  subst hl
  constructor
  · intro q
    rw [bIdx]
    simp only [if_true]
    rw [if_pos q]
  · intro q
    rw [bIdx]
    simp only [if_true]
    rw [if_neg (by omega)]
def tdn (f : Nat → Nat) (m had : Nat) : Nat → Nat
  | 0 => 0
  | v + 1 => if had < v + 1 then (if f (v + 1) ≤ m then v + 1 - had else tdn f m had v) else 0
abbrev k2 (x : Int32) (b : Nat) : Nat := if 0 ≤ x ∧ x ≤ nI b then 0 else 2
theorem cpH_TX {μ : Mem} {a k : Nat} : TX (cpH μ 8 1) (sh μ 1) a k := TX_of (cpH_eq isH_8 isH_1 (by decide))
theorem cpH_KC {μ : Mem} : KC μ (cpH μ 8 1) := fun q hq => cpH_off (by omega)
set_option maxRecDepth 100000 in
set_option maxHeartbeats 4000000 in
theorem ev_X4_enough {G : GX} {x : Int32} {μ : Mem} (hE : EI (sh μ 1)) (hP : PI5 (sh μ 1)) : Ev G mX4_enough 5 [rf G 0, .int x] μ (PI (OutC (k2 x 2) (fst0 (fun v => Tot (up (sh μ 1) 6 (2 + x.toNatClampNeg) v) (μ 6) 0 5) 61 0) μ)) := by
  refine Ev.of (own := RX4) (n := 1) (by decide) rfl rfl (catOK rfl) (fun X C E => ?_)
  show J G X 0 [some _, some _, none] [] _
  refine j_iload_n C dX4_enough_0 rfl ?_
  refine j_if_lt (tgt := 9) C dX4_enough_1 (by decide) (fun c_1 => ?_) (fun c_1 => ?_)
  · refine j_aload_n C dX4_enough_9 rfl ?_
    refine j_bipush (v := (-2)) C dX4_enough_10 (by decide) ?_
    refine cVe1 C dX4_enough_12 lMX4_64 myX4_refuse (ev_X4_refuse (k := 2) (by decide) (by decide)) (by omega) rc4 (Nat.le_of_ble_eq_true rfl) ?_
    exact j_iret C E dX4_enough_15 (by first | exact outC_no (j := 2) (if_neg (fun q => absurd q.1 (Int32.not_le.mpr c_1))) (by decide) (by decide) | exact outC_no (j := 2) (if_neg (fun q => c_6 q.2)) (by decide) (by decide))
  · refine j_iload_n C dX4_enough_4 rfl ?_
    refine j_iconst (v := nI 2) C dX4_enough_5 (by decide) ?_
    refine j_icmp_le (tgt := 16) C dX4_enough_6 (by decide) (fun c_6 => ?_) (fun c_6 => ?_)
    · obtain ⟨z, hz, rfl⟩ := nI_of2 (n := 2) (M := nI 2) (by decide) c_1 c_6
      have kq : k2 (nI z) 2 = 0 := if_pos (And.intro (Int32.not_lt.mp c_1) c_6)
      have hm2 : ∀ v, v ≤ 60 → v ≤ mostN (2 + z) := by
        intro v hv
        have : z = 0 ∨ z = 1 ∨ z = 2 := by omega
        rcases this with rfl | rfl | rfl <;> exact hv
      refine j_aload_n C dX4_enough_16 rfl ?_
      refine g4_1 C dX4_enough_17 lFX4_16 ?_
      refine j_aload_n C dX4_enough_20 rfl ?_
      refine g4_0 C dX4_enough_21 lFX4_10 ?_
      refine cVv1 C dX4_enough_24 lMX4_75 myX0_copyFrom (ev_X0_copyFrom isH_8 isH_1) (by omega) (rc0 isH_8) (Nat.le_of_ble_eq_true rfl) (fun μ_24 hv_24 => ?_)
      refine j_iconst (v := nI 0) C dX4_enough_27 (by decide) ?_
      refine sn2 C dX4_enough_28 rfl ?_
      have loop : ∀ c v ν, v + c = 61 → TX ν (sh μ 1) 6 (2 + z) → KC μ ν → fst0 (fun v => Tot (up (sh μ 1) 6 (2 + z) v) (μ 6) 0 5) 61 0 = fst0 (fun v => Tot (up (sh μ 1) 6 (2 + z) v) (μ 6) 0 5) c v → J G X 29 [some (rf G 0), some (.int (nI z)), some (.int (nI v))] [] ν := by
        intro c
        induction c with
        | zero =>
          intro v ν hvc hT hK hf
          refine j_iload_n C dX4_enough_29 rfl ?_
          refine j_bipush (v := nI 60) C dX4_enough_30 (by decide) ?_
          first | refine j_icmp_gtN (tgt := 85) C dX4_enough_32 (by decide) (by omega) (by omega) (fun c_32 => ?_) (fun c_32 => ?_) | refine j_icmp_gt (tgt := 85) C dX4_enough_32 (by decide) (fun c_32 => ?_) (fun c_32 => ?_)
          · refine j_bipush (v := (-9)) C dX4_enough_85 (by decide) ?_
            exact j_iret C E dX4_enough_87 (outC_ok kq (by rw [cl (by omega), hf]; rfl) hK)
          · exact absurd c_32 (by omega)
        | succ c ih =>
          intro v ν hvc hT hK hf
          refine j_iload_n C dX4_enough_29 rfl ?_
          refine j_bipush (v := nI 60) C dX4_enough_30 (by decide) ?_
          first | refine j_icmp_gtN (tgt := 85) C dX4_enough_32 (by decide) (by omega) (by omega) (fun c_32 => ?_) (fun c_32 => ?_) | refine j_icmp_gt (tgt := 85) C dX4_enough_32 (by decide) (fun c_32 => ?_) (fun c_32 => ?_)
          · exact absurd c_32 (by omega)
          · obtain ⟨w1, w2, w3⟩ := tw (v := v) hT (by omega) (EI_up6 hE (hm2 v (by omega))) hP
            refine j_aload_n C dX4_enough_35 rfl ?_
            refine g4_1 C dX4_enough_36 lFX4_16 ?_
            refine g0_6 isH_8 C dX4_enough_39 lFX4_116 ?_
            refine j_iconst (v := nI 2) C dX4_enough_42 (by decide) ?_
            refine j_iload_n C dX4_enough_43 rfl ?_
            first | refine j_iaddN C dX4_enough_44 ?_ | refine j_iadd C dX4_enough_44 ?_
            refine j_iload_n C dX4_enough_45 rfl ?_
            refine j_iast C dX4_enough_46 iA_14 (by omega) ?_
            refine j_aload_n C dX4_enough_47 rfl ?_
            refine g4_4 C dX4_enough_48 lFX4_29 ?_
            refine j_aload_n C dX4_enough_51 rfl ?_
            refine g4_1 C dX4_enough_52 lFX4_16 ?_
            refine j_aload_n C dX4_enough_55 rfl ?_
            refine g4_1 C dX4_enough_56 lFX4_16 ?_
            refine g0_5 isH_8 C dX4_enough_59 lFX4_102 ?_
            refine cVv2 C dX4_enough_62 lMX4_129 myX3_walk (ev_X3_walk isH_8 w1 w2 iA_13 (by omega)) (by omega) rc3 (Nat.le_of_ble_eq_true rfl) (fun μ_62 hv_62 => ?_)
            obtain ⟨r1, r2, r3, r4⟩ := w3 _ hv_62
            refine j_aload_n C dX4_enough_65 rfl ?_
            refine g4_4 C dX4_enough_66 lFX4_29 ?_
            refine g3_0 C dX4_enough_69 lFX4_133 ?_
            refine j_iconst (v := nI 5) C dX4_enough_72 (by decide) ?_
            refine j_iald C dX4_enough_73 iA_23 (by omega) ?_
            refine J.top (y := nI ((fun v => Tot (up (sh μ 1) 6 (2 + z) v) (μ 6) 0 5) v)) (by rw [r1 5 (by omega)]; rfl) ?_
            have hb5 : (fun v => Tot (up (sh μ 1) 6 (2 + z) v) (μ 6) 0 5) v ≤ 100000 := Tot_b (EI_up6 hE (hm2 v (by omega))) (PI5_up hP (by omega) (by omega)).1
            refine j_if_neN (tgt := 79) C dX4_enough_74 (by decide) (by omega) (fun c_74 => ?_) (fun c_74 => ?_)
            · first | refine in2 C dX4_enough_79 (nI_1 _) rfl ?_ | refine in2 C dX4_enough_79 rfl rfl ?_
              refine j_goto (tgt := 29) C dX4_enough_82 (by decide) ?_
              exact ih (v + 1) _ (by omega) r3 (hK.trans r4) (by rw [hf, fst0, if_neg c_74])
            · refine j_iload_n C dX4_enough_77 rfl ?_
              exact j_iret C E dX4_enough_78 (outC_ok kq (by rw [cl (by omega), hf, fst0, if_pos c_74]) (hK.trans r4))
      subst hv_24
      exact loop 61 0 _ (by omega) cpH_TX cpH_KC rfl
    · refine j_aload_n C dX4_enough_9 rfl ?_
      refine j_bipush (v := (-2)) C dX4_enough_10 (by decide) ?_
      refine cVe1 C dX4_enough_12 lMX4_64 myX4_refuse (ev_X4_refuse (k := 2) (by decide) (by decide)) (by omega) rc4 (Nat.le_of_ble_eq_true rfl) ?_
      exact j_iret C E dX4_enough_15 (by first | exact outC_no (j := 2) (if_neg (fun q => absurd q.1 (Int32.not_le.mpr c_1))) (by decide) (by decide) | exact outC_no (j := 2) (if_neg (fun q => c_6 q.2)) (by decide) (by decide))
set_option maxRecDepth 100000 in
set_option maxHeartbeats 4000000 in
theorem ev_X4_cheapest {G : GX} {k : Nat} {μ : Mem} (hE : EI (sh μ 1)) (hP : PI5 (sh μ 1)) (hk : k = 6 ∨ k = 8) : Ev G mX4_cheapest 5 [rf G 0, .int (nI k)] μ (PI (OutC 0 (nI (bIdx (fun v => Tot (up (sh μ 1) 6 k v) (μ 6) 0 7) false (mostN k))) μ)) := by
  refine Ev.of (own := RX4) (n := 3) (by decide) rfl rfl (catOK rfl) (fun X C E => ?_)
  show J G X 0 [some _, some _, none, none, none] [] _
  have hm : mostN k ≤ 2 := by rcases hk with rfl | rfl <;> decide
  refine j_aload_n C dX4_cheapest_0 rfl ?_
  refine g4_1 C dX4_cheapest_1 lFX4_16 ?_
  refine j_aload_n C dX4_cheapest_4 rfl ?_
  refine g4_0 C dX4_cheapest_5 lFX4_10 ?_
  refine cVv1 C dX4_cheapest_8 lMX4_75 myX0_copyFrom (ev_X0_copyFrom isH_8 isH_1) (by omega) (rc0 isH_8) (Nat.le_of_ble_eq_true rfl) (fun μ_8 hv_8 => ?_)
  refine j_iconst (v := nI 0) C dX4_cheapest_11 (by decide) ?_
  refine sn2 C dX4_cheapest_12 rfl ?_
  refine j_iconst (v := nI 0) C dX4_cheapest_13 (by decide) ?_
  refine sn3 C dX4_cheapest_14 rfl ?_
  refine j_iconst (v := nI 0) C dX4_cheapest_15 (by decide) ?_
  refine sl4 C dX4_cheapest_16 rfl ?_
  have loop : ∀ c v b l ν, v + c = mostN k + 1 → b < 100 → l ≤ 100000 → TX ν (sh μ 1) 6 k → KC μ ν → (v = 0 ∨ (b = bIdx (fun v => Tot (up (sh μ 1) 6 k v) (μ 6) 0 7) false (v - 1) ∧ l = (fun v => Tot (up (sh μ 1) 6 k v) (μ 6) 0 7) b)) → J G X 18 [some (rf G 0), some (.int (nI k)), some (.int (nI b)), some (.int (nI l)), some (.int (nI v))] [] ν := by
    intro c
    induction c with
    | zero =>
      intro v b l ν hvc hb hl hT hK hf
      refine j_iload C dX4_cheapest_18 rfl ?_
      refine j_getMost C dX4_cheapest_20 lFX4_113 ?_
      refine j_iload_n C dX4_cheapest_23 rfl ?_
      refine j_mostAt C dX4_cheapest_24 (by omega) ?_
      first | refine j_icmp_gtN (tgt := 96) C dX4_cheapest_25 (by decide) (by omega) (by omega) (fun c_25 => ?_) (fun c_25 => ?_) | refine j_icmp_gt (tgt := 96) C dX4_cheapest_25 (by decide) (fun c_25 => ?_) (fun c_25 => ?_)
      · refine j_iload_n C dX4_cheapest_96 rfl ?_
        exact j_iret C E dX4_cheapest_97 (outC_ok rfl (by rw [show mostN k = v - 1 by omega, ← (hf.resolve_left (by omega)).1]) hK)
      · exact absurd c_25 (by omega)
    | succ c ih =>
      intro v b l ν hvc hb hl hT hK hf
      refine j_iload C dX4_cheapest_18 rfl ?_
      refine j_getMost C dX4_cheapest_20 lFX4_113 ?_
      refine j_iload_n C dX4_cheapest_23 rfl ?_
      refine j_mostAt C dX4_cheapest_24 (by omega) ?_
      first | refine j_icmp_gtN (tgt := 96) C dX4_cheapest_25 (by decide) (by omega) (by omega) (fun c_25 => ?_) (fun c_25 => ?_) | refine j_icmp_gt (tgt := 96) C dX4_cheapest_25 (by decide) (fun c_25 => ?_) (fun c_25 => ?_)
      · exact absurd c_25 (by omega)
      · obtain ⟨w1, w2, w3⟩ := tw (v := v) hT (by omega) (EI_up6 hE (by omega)) hP
        have hb7 : (fun v => Tot (up (sh μ 1) 6 k v) (μ 6) 0 7) v ≤ 100000 := Tot_b (EI_up6 hE (by omega)) (PI5_up hP (by omega) (by omega)).1
        refine j_aload_n C dX4_cheapest_28 rfl ?_
        refine g4_1 C dX4_cheapest_29 lFX4_16 ?_
        refine g0_6 isH_8 C dX4_cheapest_32 lFX4_116 ?_
        refine j_iload_n C dX4_cheapest_35 rfl ?_
        refine j_iload C dX4_cheapest_36 rfl ?_
        refine j_iast C dX4_cheapest_38 iA_14 (by omega) ?_
        refine j_aload_n C dX4_cheapest_39 rfl ?_
        refine g4_4 C dX4_cheapest_40 lFX4_29 ?_
        refine j_aload_n C dX4_cheapest_43 rfl ?_
        refine g4_1 C dX4_cheapest_44 lFX4_16 ?_
        refine j_aload_n C dX4_cheapest_47 rfl ?_
        refine g4_1 C dX4_cheapest_48 lFX4_16 ?_
        refine g0_5 isH_8 C dX4_cheapest_51 lFX4_102 ?_
        refine cVv2 C dX4_cheapest_54 lMX4_129 myX3_walk (ev_X3_walk isH_8 w1 w2 iA_13 (by omega)) (by omega) rc3 (Nat.le_of_ble_eq_true rfl) (fun μ_54 hv_54 => ?_)
        obtain ⟨r1, r2, r3, r4⟩ := w3 _ hv_54
        refine j_iload C dX4_cheapest_57 rfl ?_
        refine j_if_eqN (tgt := 76) C dX4_cheapest_59 (by decide) (by omega) (fun c_59 => ?_) (fun c_59 => ?_)
        · have hn7 : bIdx (fun v => Tot (up (sh μ 1) 6 k v) (μ 6) 0 7) false v = v := by rw [c_59]; rfl
          refine j_aload_n C dX4_cheapest_76 rfl ?_
          refine g4_4 C dX4_cheapest_77 lFX4_29 ?_
          refine g3_0 C dX4_cheapest_80 lFX4_133 ?_
          refine j_bipush (v := nI 7) C dX4_cheapest_83 (by decide) ?_
          refine j_iald C dX4_cheapest_85 iA_23 (by omega) ?_
          refine J.top (y := nI ((fun v => Tot (up (sh μ 1) 6 k v) (μ 6) 0 7) v)) (by rw [r1 7 (by omega)]; rfl) ?_
          refine sn3 C dX4_cheapest_86 rfl ?_
          refine j_iload C dX4_cheapest_87 rfl ?_
          refine sn2 C dX4_cheapest_89 rfl ?_
          first | refine in4 C dX4_cheapest_90 (nI_1 _) rfl ?_ | refine in4 C dX4_cheapest_90 rfl rfl ?_
          refine j_goto (tgt := 18) C dX4_cheapest_93 (by decide) ?_
          first
          | exact ih _ _ _ _ (by omega) (by omega) (by omega) r3 (hK.trans r4) (Or.inr ⟨by rw [Nat.add_sub_cancel]; exact hn7.symm, rfl⟩)
          | exact ih _ _ _ _ (by omega) (by omega) (by omega) r3 (hK.trans r4) (Or.inr ⟨by rw [Nat.add_sub_cancel]; exact hn7.symm, hf2⟩)
        · have hbb := bIdx_f (by omega) (hf.resolve_left (by omega)).1 (hf.resolve_left (by omega)).2
          have hf2 := (hf.resolve_left (by omega)).2
          refine j_aload_n C dX4_cheapest_62 rfl ?_
          refine g4_4 C dX4_cheapest_63 lFX4_29 ?_
          refine g3_0 C dX4_cheapest_66 lFX4_133 ?_
          refine j_bipush (v := nI 7) C dX4_cheapest_69 (by decide) ?_
          refine j_iald C dX4_cheapest_71 iA_23 (by omega) ?_
          refine J.top (y := nI ((fun v => Tot (up (sh μ 1) 6 k v) (μ 6) 0 7) v)) (by rw [r1 7 (by omega)]; rfl) ?_
          refine j_iload_n C dX4_cheapest_72 rfl ?_
          first | refine j_icmp_geN (tgt := 90) C dX4_cheapest_73 (by decide) (by omega) (by omega) (fun c_73 => ?_) (fun c_73 => ?_) | refine j_icmp_ge (tgt := 90) C dX4_cheapest_73 (by decide) (fun c_73 => ?_) (fun c_73 => ?_)
          · have hn7 := hbb.2 c_73
            first | refine in4 C dX4_cheapest_90 (nI_1 _) rfl ?_ | refine in4 C dX4_cheapest_90 rfl rfl ?_
            refine j_goto (tgt := 18) C dX4_cheapest_93 (by decide) ?_
            first
            | exact ih _ _ _ _ (by omega) (by omega) (by omega) r3 (hK.trans r4) (Or.inr ⟨by rw [Nat.add_sub_cancel]; exact hn7.symm, rfl⟩)
            | exact ih _ _ _ _ (by omega) (by omega) (by omega) r3 (hK.trans r4) (Or.inr ⟨by rw [Nat.add_sub_cancel]; exact hn7.symm, hf2⟩)
          · have hn7 := hbb.1 c_73
            refine j_aload_n C dX4_cheapest_76 rfl ?_
            refine g4_4 C dX4_cheapest_77 lFX4_29 ?_
            refine g3_0 C dX4_cheapest_80 lFX4_133 ?_
            refine j_bipush (v := nI 7) C dX4_cheapest_83 (by decide) ?_
            refine j_iald C dX4_cheapest_85 iA_23 (by omega) ?_
            refine J.top (y := nI ((fun v => Tot (up (sh μ 1) 6 k v) (μ 6) 0 7) v)) (by rw [r1 7 (by omega)]; rfl) ?_
            refine sn3 C dX4_cheapest_86 rfl ?_
            refine j_iload C dX4_cheapest_87 rfl ?_
            refine sn2 C dX4_cheapest_89 rfl ?_
            first | refine in4 C dX4_cheapest_90 (nI_1 _) rfl ?_ | refine in4 C dX4_cheapest_90 rfl rfl ?_
            refine j_goto (tgt := 18) C dX4_cheapest_93 (by decide) ?_
            first
            | exact ih _ _ _ _ (by omega) (by omega) (by omega) r3 (hK.trans r4) (Or.inr ⟨by rw [Nat.add_sub_cancel]; exact hn7.symm, rfl⟩)
            | exact ih _ _ _ _ (by omega) (by omega) (by omega) r3 (hK.trans r4) (Or.inr ⟨by rw [Nat.add_sub_cancel]; exact hn7.symm, hf2⟩)
  subst hv_8
  exact loop (mostN k + 1) 0 0 0 _ (by omega) (by omega) (by omega) cpH_TX cpH_KC (Or.inl rfl)
set_option maxRecDepth 100000 in
set_option maxHeartbeats 4000000 in
theorem ev_X4_fill {G : GX} {μ : Mem} (hE : EI (sh μ 1)) (hP : PI5 (sh μ 1)) : Ev G mX4_fill 6 [rf G 0] μ (PI (OutC 0 (nI (bIdx (fun v => Tot (up (sh μ 1) 6 8 v) (μ 6) 0 7) false 2)) μ)) := by
  refine Ev.of (own := RX4) (n := 0) (by decide) rfl rfl (catOK rfl) (fun X C E => ?_)
  show J G X 0 [some _] [] _
  refine j_aload_n C dX4_fill_0 rfl ?_
  refine j_bipush (v := nI 8) C dX4_fill_1 (by decide) ?_
  refine cVi1 C dX4_fill_3 lMX4_162 myX4_cheapest (ev_X4_cheapest (k := 8) hE hP (by omega)) (by omega) rc4 (Nat.le_of_ble_eq_true rfl) (fun v_3 μ_3 hv_3 => ?_)
  exact j_iret C E dX4_fill_6 ⟨_, rfl, hv_3⟩
set_option maxRecDepth 100000 in
set_option maxHeartbeats 4000000 in
theorem ev_X4_ramp {G : GX} {μ : Mem} (hE : EI (sh μ 1)) (hP : PI5 (sh μ 1)) : Ev G mX4_ramp 6 [rf G 0] μ (PI (OutC 0 (nI (bIdx (fun v => Tot (up (sh μ 1) 6 6 v) (μ 6) 0 7) false 1)) μ)) := by
  refine Ev.of (own := RX4) (n := 0) (by decide) rfl rfl (catOK rfl) (fun X C E => ?_)
  show J G X 0 [some _] [] _
  refine j_aload_n C dX4_ramp_0 rfl ?_
  refine j_bipush (v := nI 6) C dX4_ramp_1 (by decide) ?_
  refine cVi1 C dX4_ramp_3 lMX4_162 myX4_cheapest (ev_X4_cheapest (k := 6) hE hP (by omega)) (by omega) rc4 (Nat.le_of_ble_eq_true rfl) (fun v_3 μ_3 hv_3 => ?_)
  exact j_iret C E dX4_ramp_6 ⟨_, rfl, hv_3⟩
