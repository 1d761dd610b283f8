-- EVERY CHANGE, OF CLASS AND REFERENCE: one answer, and what holds between two calls holds
def IA (μ : Mem) : Prop := EI (sh μ 1) ∧ PI5 (sh μ 1) ∧ EQ (sh μ 1) (sh μ 38) ∧ μ 38 15 = 0
def IB (μ : Mem) : Prop := μ 38 23 = μ 0 3 ∧ μ 0 3 ≤ 1 ∧ (μ 0 3 = 1 → EI (sh μ 15) ∧ PI5 (sh μ 15) ∧ EQ (sh μ 15) (unp (μ 56)))
def IC (μ : Mem) : Prop := μ 38 16 = μ 34 1 ∧ μ 34 1 ≤ 96 ∧ μ 52 = μ 35 ∧ ∀ j, j < 96 → μ 35 j ≤ 255
def IDr (μ : Mem) : Prop := μ 38 20 = μ 0 10 ∧ μ 0 10 ≤ 12 ∧ μ 54 = μ 36 ∧ ∀ j, j < 12 → μ 36 j ≤ 99
theorem IV_of {μ : Mem} (a : IA μ) (b : IB μ) (c : IC μ) (d : IDr μ) (e : μ 55 = μ 37) : IV μ := ⟨a, b, c, d, e⟩
theorem IA_fr {μ ν : Mem} (h : IA μ) (g : ∀ q, 1 ≤ q → q ≤ 7 → ν q = μ q) (g5 : ∀ q, 39 ≤ q → q ≤ 44 → ν q = μ q) (g0 : ν 38 0 = μ 38 0) (gz : ν 38 15 = μ 38 15) : IA ν := by
  have q1 : EQ (sh ν 1) (sh μ 1) := EQ_sh (fun q h1 h2 => g q h1 (by omega))
  have q38 : EQ (sh ν 38) (sh μ 38) := ⟨g0, fun k i a b _ => congrFun (g5 (38 + k) (by omega) (by omega)) i, fun i _ => congrFun (g5 44 (by decide) (by decide)) i⟩
  exact ⟨EI.eq q1.symm h.1, PI5.eq q1.symm h.1 h.2.1, (q1.trans h.2.2.1).trans q38.symm, by rw [gz]; exact h.2.2.2⟩
theorem IB_fr {μ ν : Mem} (h : IB μ) (g0 : ν 0 3 = μ 0 3) (g23 : ν 38 23 = μ 38 23) (g : ∀ q, 15 ≤ q → q ≤ 21 → ν q = μ q) (g56 : ν 56 = μ 56) : IB ν := by
  have q15 : EQ (sh ν 15) (sh μ 15) := EQ_sh (fun q h1 h2 => g q h1 (by omega))
  refine ⟨by rw [g23, g0]; exact h.1, by rw [g0]; exact h.2.1, fun hh => ?_⟩
  rw [g0] at hh
  obtain ⟨a, b, c⟩ := h.2.2 hh
  exact ⟨EI.eq q15.symm a, PI5.eq q15.symm a b, by rw [g56]; exact q15.trans c⟩
theorem IC_fr {μ ν : Mem} (h : IC μ) (g16 : ν 38 16 = μ 38 16) (g34 : ν 34 1 = μ 34 1) (g52 : ν 52 = μ 52) (g35 : ν 35 = μ 35) : IC ν := by
  unfold IC
  rw [g16, g34, g52, g35]
  exact h
theorem ID_fr {μ ν : Mem} (h : IDr μ) (g20 : ν 38 20 = μ 38 20) (g10 : ν 0 10 = μ 0 10) (g54 : ν 54 = μ 54) (g36 : ν 36 = μ 36) : IDr ν := by
  unfold IDr
  rw [g20, g10, g54, g36]
  exact h
theorem OutG_one {k k' : Nat} {w w' v v' : Int32} {μ ν κ : Mem} {P P' : Mem → Prop} (h : IV μ) (r : OutG 37 k w μ P v ν) (s : OutG 55 k' w' ν P' v' κ) (hk : k = k') (hw : k = 0 → w = w') (hP : k = 0 → P ν → P' κ → IV κ) : v = v' ∧ IV κ := by
  subst hk
  rcases r with ⟨r1, r2, r3⟩ | ⟨r1, r2, r3⟩
  · rcases s with ⟨s1, s2, s3⟩ | ⟨s1, s2, s3⟩
    · exact ⟨by rw [r2, s2]; exact hw r1, hP r1 r3 s3⟩
    · omega
  · rcases s with ⟨s1, s2, s3⟩ | ⟨s1, s2, s3⟩
    · omega
    · subst r3
      exact ⟨by rw [r2, s2], by rw [s3]; exact IV_no h⟩
theorem OutG_RF {k : Nat} {w v : Int32} {μ ν : Mem} {P : Mem → Prop} (hP : ∀ κ, P κ → RF μ κ) (r : OutG 37 k w μ P v ν) : RF μ ν := by
  rcases r with ⟨_, _, r⟩ | ⟨_, _, r⟩
  · exact hP _ r
  · intro q hq; rw [r]; exact up_ne (by omega)
theorem rf_letter {μ : Mem} {n c m : Nat} : ∀ κ, κ = up (up μ 35 n c) 34 1 m → RF μ κ := fun κ e q hq => by rw [e, up_ne (by omega), up_ne (by omega)]
theorem s_letter {μ ν κ : Mem} {x : Int32} {v v9 : Int32} (h : IV μ) (r : OutG 37 (kLe (μ 34 1) x) (nI (μ 34 1 + 1)) μ (fun μ' => μ' = up (up μ 35 (μ 34 1) x.toNatClampNeg) 34 1 (μ 34 1 + 1)) v ν) (s : OutG 55 (kLe (ν 38 16) x) (nI (ν 38 16 + 1)) ν (fun μ' => μ' = up (up ν 38 16 (ν 38 16 + 1)) 52 (ν 38 16) x.toNatClampNeg) v9 κ) : v = v9 ∧ IV κ := by
  have hr := OutG_RF rf_letter r
  have e16 : ν 38 16 = μ 34 1 := by rw [hr 38 (by decide)]; exact h.2.2.1.1
  refine OutG_one h r s (by rw [e16]) (fun _ => by rw [e16]) (fun hk p q => ?_)
  rw [e16] at q
  obtain ⟨a, b, ⟨c1, c2, c3, c4⟩, d, e⟩ := h
  have hx : ¬ x < 0 ∧ ¬ (nI 255 < x ∨ 96 ≤ μ 34 1) := by
    by_cases q1 : x < 0
    · rw [kLe, if_pos q1] at hk; cases hk
    · by_cases q2 : nI 255 < x ∨ 96 ≤ μ 34 1
      · rw [kLe, if_neg q1, if_pos q2] at hk; cases hk
      · exact ⟨q1, q2⟩
  obtain ⟨z, hz, rfl⟩ := nI_of2 (n := 255) (M := nI 255) (x := x) (by decide) hx.1 (Int32.not_lt.mp (fun q1 => hx.2 (Or.inl q1)))
  have hn : μ 34 1 < 96 := by have := fun q1 => hx.2 (Or.inr q1); omega
  have hc : (nI z).toNatClampNeg = z := cl (by omega)
  rw [hc] at p q
  subst p
  subst q
  have g : ∀ q, q ≠ 34 → q ≠ 35 → q ≠ 38 → q ≠ 52 → up (up (up (up μ 35 (μ 34 1) z) 34 1 (μ 34 1 + 1)) 38 16 (μ 34 1 + 1)) 52 (μ 34 1) z q = μ q := fun q h1 h2 h3 h4 => by rw [up_ne h4, up_ne h3, up_ne h1, up_ne h2]
  have g38 : ∀ k, k ≠ 16 → up (up (up (up μ 35 (μ 34 1) z) 34 1 (μ 34 1 + 1)) 38 16 (μ 34 1 + 1)) 52 (μ 34 1) z 38 k = μ 38 k := fun k hk => by rw [up_ne (by decide), up_off (Or.inr hk), up_ne (by decide), up_ne (by decide)]
  refine IV_of (IA_fr a (fun q h1 h2 => g q (by omega) (by omega) (by omega) (by omega)) (fun q h1 h2 => g q (by omega) (by omega) (by omega) (by omega)) (g38 0 (by decide)) (g38 15 (by decide))) (IB_fr b (by rw [g 0 (by decide) (by decide) (by decide) (by decide)]) (g38 23 (by decide)) (fun q h1 h2 => g q (by omega) (by omega) (by omega) (by omega)) (g 56 (by decide) (by decide) (by decide) (by decide))) ⟨?_, ?_, ?_, fun j hj => ?_⟩ (ID_fr d (g38 20 (by decide)) (by rw [g 0 (by decide) (by decide) (by decide) (by decide)]) (g 54 (by decide) (by decide) (by decide) (by decide)) (g 36 (by decide) (by decide) (by decide) (by decide))) (by rw [g 55 (by decide) (by decide) (by decide) (by decide), g 37 (by decide) (by decide) (by decide) (by decide)]; exact e)
  · rw [up_ne (by decide), up_at, up_ne (by decide), up_ne (by decide), up_at]
  · rw [up_ne (by decide), up_ne (by decide), up_at]; omega
  · funext j
    by_cases q : j = μ 34 1
    · rw [q, up_at, up_ne (by decide), up_ne (by decide), up_ne (by decide), up_at]
    · rw [up_off (Or.inr q), up_ne (by decide), up_ne (by decide), up_ne (by decide), up_ne (by decide), up_ne (by decide), up_ne (by decide), up_off (Or.inr q), c3]
  · rw [up_ne (by decide), up_ne (by decide), up_ne (by decide)]
    by_cases q : j = μ 34 1
    · rw [q, up_at]; omega
    · rw [up_off (Or.inr q)]; exact c4 j hj
theorem rf_row {μ : Mem} {n c m : Nat} : ∀ κ, κ = up (up μ 36 n c) 0 10 m → RF μ κ := fun κ e q hq => by rw [e, up_ne (by omega), up_ne (by omega)]
theorem s_row {μ ν κ : Mem} {x : Int32} {v v9 : Int32} (h : IV μ) (r : OutG 37 (kRo (μ 0 10) x) (nI (μ 0 10 + 1)) μ (fun μ' => μ' = up (up μ 36 (μ 0 10) x.toNatClampNeg) 0 10 (μ 0 10 + 1)) v ν) (s : OutG 55 (kRo (ν 38 20) x) (nI (ν 38 20 + 1)) ν (fun μ' => μ' = up (up ν 38 20 (ν 38 20 + 1)) 54 (ν 38 20) x.toNatClampNeg) v9 κ) : v = v9 ∧ IV κ := by
  have hr := OutG_RF rf_row r
  have e16 : ν 38 20 = μ 0 10 := by rw [hr 38 (by decide)]; exact h.2.2.2.1.1
  refine OutG_one h r s (by rw [e16]) (fun _ => by rw [e16]) (fun hk p q => ?_)
  rw [e16] at q
  obtain ⟨a, b, c, ⟨d1, d2, d3, d4⟩, e⟩ := h
  have hx : ¬ x < 0 ∧ ¬ (nI 99 < x ∨ 12 ≤ μ 0 10) := by
    by_cases q1 : x < 0
    · rw [kRo, if_pos q1] at hk; cases hk
    · by_cases q2 : nI 99 < x ∨ 12 ≤ μ 0 10
      · rw [kRo, if_neg q1, if_pos q2] at hk; cases hk
      · exact ⟨q1, q2⟩
  obtain ⟨z, hz, rfl⟩ := nI_of2 (n := 99) (M := nI 99) (x := x) (by decide) hx.1 (Int32.not_lt.mp (fun q1 => hx.2 (Or.inl q1)))
  have hn : μ 0 10 < 12 := by have := fun q1 => hx.2 (Or.inr q1); omega
  have hc : (nI z).toNatClampNeg = z := cl (by omega)
  rw [hc] at p q
  subst p
  subst q
  have g : ∀ q, q ≠ 0 → q ≠ 36 → q ≠ 38 → q ≠ 54 → up (up (up (up μ 36 (μ 0 10) z) 0 10 (μ 0 10 + 1)) 38 20 (μ 0 10 + 1)) 54 (μ 0 10) z q = μ q := fun q h1 h2 h3 h4 => by rw [up_ne h4, up_ne h3, up_ne h1, up_ne h2]
  have g38 : ∀ k, k ≠ 20 → up (up (up (up μ 36 (μ 0 10) z) 0 10 (μ 0 10 + 1)) 38 20 (μ 0 10 + 1)) 54 (μ 0 10) z 38 k = μ 38 k := fun k hk => by rw [up_ne (by decide), up_off (Or.inr hk), up_ne (by decide), up_ne (by decide)]
  have g3 : up (up (up (up μ 36 (μ 0 10) z) 0 10 (μ 0 10 + 1)) 38 20 (μ 0 10 + 1)) 54 (μ 0 10) z 0 3 = μ 0 3 := by rw [up_ne (by decide), up_ne (by decide), up_off (Or.inr (by decide)), up_ne (by decide)]
  refine IV_of (IA_fr a (fun q h1 h2 => g q (by omega) (by omega) (by omega) (by omega)) (fun q h1 h2 => g q (by omega) (by omega) (by omega) (by omega)) (g38 0 (by decide)) (g38 15 (by decide))) (IB_fr b g3 (g38 23 (by decide)) (fun q h1 h2 => g q (by omega) (by omega) (by omega) (by omega)) (g 56 (by decide) (by decide) (by decide) (by decide))) (IC_fr c (g38 16 (by decide)) (by rw [g 34 (by decide) (by decide) (by decide) (by decide)]) (g 52 (by decide) (by decide) (by decide) (by decide)) (g 35 (by decide) (by decide) (by decide) (by decide))) ⟨?_, ?_, ?_, fun j hj => ?_⟩ (by rw [g 55 (by decide) (by decide) (by decide) (by decide), g 37 (by decide) (by decide) (by decide) (by decide)]; exact e)
  · rw [up_ne (by decide), up_at, up_ne (by decide), up_ne (by decide), up_at]
  · rw [up_ne (by decide), up_ne (by decide), up_at]; omega
  · funext j
    by_cases q : j = μ 0 10
    · rw [q, up_at, up_ne (by decide), up_ne (by decide), up_ne (by decide), up_at]
    · rw [up_off (Or.inr q), up_ne (by decide), up_ne (by decide), up_ne (by decide), up_ne (by decide), up_ne (by decide), up_ne (by decide), up_off (Or.inr q), d3]
  · rw [up_ne (by decide), up_ne (by decide), up_ne (by decide)]
    by_cases q : j = μ 0 10
    · rw [q, up_at]; omega
    · rw [up_off (Or.inr q)]; exact d4 j hj
/-- both houses changed alike, all else as it was -/
theorem IV_house {μ κ : Mem} (h : IV μ) (g : ∀ q, (q < 1 ∨ 14 < q) → q ≠ 38 → (q < 39 ∨ 44 < q) → q ≠ 53 → q ≠ 57 → κ q = μ q) (g38 : ∀ k, k ≠ 0 → k ≠ 18 → κ 38 k = μ 38 k) (hE : EI (sh κ 1)) (hP : PI5 (sh κ 1)) (hQ : EQ (sh κ 1) (sh κ 38)) : IV κ := by
  obtain ⟨a, b, c, d, e⟩ := h
  have f : ∀ q, (q < 1 ∨ 14 < q) → q < 38 → κ q = μ q := fun q h1 h2 => g q h1 (by omega) (by omega) (by omega) (by omega)
  have f2 : ∀ q, 44 < q → q ≠ 53 → q ≠ 57 → κ q = μ q := fun q h1 h2 h3 => g q (by omega) (by omega) (by omega) h2 h3
  exact IV_of ⟨hE, hP, hQ, by rw [g38 15 (by decide) (by decide)]; exact a.2.2.2⟩ (IB_fr b (by rw [f 0 (by omega) (by omega)]) (g38 23 (by decide) (by decide)) (fun q h1 h2 => f q (by omega) (by omega)) (f2 56 (by decide) (by decide) (by decide))) (IC_fr c (g38 16 (by decide) (by decide)) (by rw [f 34 (by omega) (by omega)]) (f2 52 (by decide) (by decide) (by decide)) (f 35 (by omega) (by omega))) (ID_fr d (g38 20 (by decide) (by decide)) (by rw [f 0 (by omega) (by omega)]) (f2 54 (by decide) (by decide) (by decide)) (f 36 (by omega) (by omega))) (by rw [f2 55 (by decide) (by decide) (by decide), f 37 (by omega) (by omega)]; exact e)
theorem sh1_up {ν : Mem} {a k v : Nat} : sh (up ν (1 + a) k v) 1 = up (sh ν 1) a k v := by
  funext q i
  by_cases h : q = a <;> simp [sh, up, h]
theorem sh_off {ν : Mem} {b a k v : Nat} (h : a < b) : sh (up ν a k v) b = sh ν b := funext fun q => up_ne (by omega)
theorem sh1_lo {ν : Mem} {a k v : Nat} (h : 7 < a) : EQ (sh (up ν a k v) 1) (sh ν 1) := EQ_sh (fun q _ h2 => up_ne (by omega))
theorem sh1_row {ν : Mem} {σ : Nat → Nat} : sh (rowM ν 6 σ) 1 = rowM (sh ν 1) 5 σ := by
  funext q
  by_cases h : q = 5
  · subst h; rfl
  · show (if 1 + q = 6 then σ else ν (1 + q)) = (if q = 5 then σ else ν (1 + q))
    rw [if_neg (by omega), if_neg h]
theorem rf_up {μ : Mem} {a k v : Nat} (h : a < 38) : ∀ κ, κ = up μ a k v → RF μ κ := fun κ e q hq => by rw [e, up_ne (by omega)]
theorem s_people {μ ν κ : Mem} {x y : Int32} {v v9 : Int32} (h : IV μ) (r : OutG 37 (if isFl (μ 1 0) x then (if y < nI 1 then 4 else if nI 20 < y then 6 else 0) else 1) (nI (μ 4 x.toNatClampNeg)) μ (fun μ' => μ' = up μ 4 x.toNatClampNeg y.toNatClampNeg) v ν) (s : OutG 55 (if isFl (ν 38 0) x then (if y < nI 1 then 4 else if nI 20 < y then 6 else 0) else 1) (nI (ν 41 x.toNatClampNeg)) ν (fun μ' => μ' = up ν 41 x.toNatClampNeg y.toNatClampNeg) v9 κ) : v = v9 ∧ IV κ := by
  have hr := OutG_RF (rf_up (by decide)) r
  have Q := IV_Q h
  rw [hr 38 (by decide), hr 41 (by decide)] at s
  refine OutG_one h r s (by rw [IV_n h]) (fun hk => ?_) (fun hk p q => ?_)
  · obtain ⟨j, hj, rfl⟩ := flj (IV_n6 h) (ifl0 hk)
    have hc : (nI j).toNatClampNeg = j := cl (by have := IV_n6 h; omega)
    rw [hc]
    exact congrArg nI (Q.2.1 3 j (by decide) (by decide) (by have := IV_n6 h; omega))
  · have hf := ifl0 hk
    rw [if_pos hf] at hk
    have hy : ¬ y < nI 1 ∧ ¬ nI 20 < y := by
      by_cases q1 : y < nI 1
      · rw [if_pos q1] at hk; cases hk
      · by_cases q2 : nI 20 < y
        · rw [if_neg q1, if_pos q2] at hk; cases hk
        · exact ⟨q1, q2⟩
    obtain ⟨z, hz, rfl⟩ := nI_of2 (n := 20) (M := nI 20) (x := y) (by decide) (fun q1 => hy.1 (Int32.lt_trans q1 (by decide))) (Int32.not_lt.mp hy.2)
    have hz1 : 1 ≤ z := by
      rcases Nat.lt_or_ge z 1 with q1 | q1
      · exact absurd ((nI_ltI (a := z) (b := 1) (by omega) (by decide)).mpr q1) hy.1
      · exact q1
    have hcz : (nI z).toNatClampNeg = z := cl (by omega)
    rw [hcz] at p q
    subst p
    subst q
    generalize x.toNatClampNeg = j
    have e1 : EQ (sh (up (up μ 4 j z) 41 j z) 1) (up (sh μ 1) 3 j z) := (sh1_lo (by decide)).trans (by rw [show sh (up μ 4 j z) 1 = up (sh μ 1) 3 j z from sh1_up (a := 3)]; exact EQ.refl _)
    have e2 : sh (up (up μ 4 j z) 41 j z) 38 = up (sh μ 38) 3 j z := by rw [shu3, sh_off (by decide)]
    have hE := EI_up3 (k := j) (IV_E h) hz1 hz
    refine IV_house h (fun q h1 h2 h3 h4 h5 => by rw [up_ne (by omega), up_ne (by omega)]) (fun k _ _ => by rw [up_ne (by decide), up_ne (by decide)]) (EI.eq e1.symm hE) (PI5.eq e1.symm hE (PI5_up (IV_P h) (by decide) (by decide))) ?_
    rw [e2]
    exact e1.trans (EQ_up Q)
theorem s_set {μ ν κ : Mem} {x y : Int32} {v v9 : Int32} (h : IV μ) (r : OutG 37 (kSe x y) (nI (μ 7 x.toNatClampNeg)) μ (fun μ' => μ' = up μ 7 x.toNatClampNeg y.toNatClampNeg) v ν) (s : OutG 55 (kSe x y) (nI (ν 44 x.toNatClampNeg)) ν (fun μ' => μ' = up ν 44 x.toNatClampNeg y.toNatClampNeg) v9 κ) : v = v9 ∧ IV κ := by
  have hr := OutG_RF (rf_up (by decide)) r
  have Q := IV_Q h
  rw [hr 44 (by decide)] at s
  have hx : kSe x y = 0 → (∃ j, j < 10 ∧ x = nI j) ∧ ¬ y < 0 ∧ ¬ nI (mostN x.toNatClampNeg) < y := fun hk => by
    have hf := if20 hk
    rw [kSe, if_pos hf] at hk
    refine ⟨fl_of (by decide) hf, ?_⟩
    by_cases q1 : y < 0
    · rw [if_pos q1] at hk; cases hk
    · by_cases q2 : nI (mostN x.toNatClampNeg) < y
      · rw [if_neg q1, if_pos q2] at hk; cases hk
      · exact ⟨q1, q2⟩
  refine OutG_one h r s rfl (fun hk => ?_) (fun hk p q => ?_)
  · obtain ⟨⟨j, hj, rfl⟩, -⟩ := hx hk
    have hc : (nI j).toNatClampNeg = j := cl (by omega)
    rw [hc]
    exact congrArg nI (Q.2.2 j hj)
  · obtain ⟨⟨j, hj, rfl⟩, hy1, hy2⟩ := hx hk
    have hc : (nI j).toNatClampNeg = j := cl (by omega)
    rw [hc] at p q hy2
    have hm := mostN_le j
    obtain ⟨z, hz, rfl⟩ := nI_of2 (n := mostN j) (M := nI (mostN j)) (x := y) (nI_toInt (by omega)) hy1 (Int32.not_lt.mp hy2)
    have hcz : (nI z).toNatClampNeg = z := cl (by omega)
    rw [hcz] at p q
    subst p
    subst q
    have e1 : EQ (sh (up (up μ 7 j z) 44 j z) 1) (up (sh μ 1) 6 j z) := (sh1_lo (by decide)).trans (by rw [show sh (up μ 7 j z) 1 = up (sh μ 1) 6 j z from sh1_up (a := 6)]; exact EQ.refl _)
    have e2 : sh (up (up μ 7 j z) 44 j z) 38 = up (sh μ 38) 6 j z := by rw [shu6, sh_off (by decide)]
    have hE := EI_up6 (k := j) (IV_E h) hz
    refine IV_house h (fun q h1 h2 h3 h4 h5 => by rw [up_ne (by omega), up_ne (by omega)]) (fun k _ _ => by rw [up_ne (by decide), up_ne (by decide)]) (EI.eq e1.symm hE) (PI5.eq e1.symm hE (PI5_up (IV_P h) (by decide) (by decide))) ?_
    rw [e2]
    exact e1.trans (EQ_up Q)
theorem rf_change {μ : Mem} {σ : Nat → Nat} : ∀ κ, κ = rowM μ 6 σ → RF μ κ := fun κ e q hq => by rw [e, rowM_ne (by omega)]
theorem s_change {μ ν κ : Mem} {x y : Int32} {v v9 : Int32} (h : IV μ) (r : OutG 37 (kCh (μ 1 0) x y) (nI (plc (μ 6) y.toNatClampNeg (μ 1 0))) μ (fun μ' => μ' = rowM μ 6 (swR (μ 6) (μ 1 0) x.toNatClampNeg y.toNatClampNeg)) v ν) (s : OutG 55 (kCh (ν 38 0) x y) (nI (plc (ν 43) y.toNatClampNeg (ν 38 0))) ν (fun μ' => μ' = rowM ν 43 (swR (ν 43) (ν 38 0) x.toNatClampNeg y.toNatClampNeg)) v9 κ) : v = v9 ∧ IV κ := by
  have hr := OutG_RF rf_change r
  have Q := IV_Q h
  have n6 := IV_n6 h
  rw [hr 38 (by decide), hr 43 (by decide)] at s
  refine OutG_one h r s (by rw [IV_n h]) (fun hk => ?_) (fun hk p q => ?_)
  · rw [IV_n h]
    exact congrArg nI (plc_eq _ (IV_o h))
  · have hf := ifl0 hk
    obtain ⟨hx, hy, hxy⟩ := hf
    obtain ⟨a, ha, rfl⟩ := flj n6 hx
    obtain ⟨b, hb, rfl⟩ := flj n6 hy
    have hca : (nI a).toNatClampNeg = a := cl (by omega)
    have hcb : (nI b).toNatClampNeg = b := cl (by omega)
    rw [hca, hcb] at p q
    subst p
    subst q
    have hab : a ≠ b := fun e => hxy (by rw [e])
    have e1 : EQ (sh (rowM (rowM μ 6 (swR (μ 6) (μ 1 0) a b)) 43 (swR (μ 43) (μ 38 0) a b)) 1) (rowM (sh μ 1) 5 (swR (sh μ 1 5) (sh μ 1 0 0) a b)) := (EQ_sh (fun q _ h2 => rowM_ne (by omega))).trans (by rw [sh1_row]; exact EQ.refl _)
    have e2 : EQ (sh (rowM (rowM μ 6 (swR (μ 6) (μ 1 0) a b)) 43 (swR (μ 43) (μ 38 0) a b)) 38) (rowM (sh μ 38) 5 (swR (sh μ 38 5) (sh μ 38 0 0) a b)) := by
      rw [sh_row43]
      exact EQ_row5 (EQ_sh (fun q h1 _ => rowM_ne (by omega)))
    have hE := EI_row5 (σ := swR (sh μ 1 5) (sh μ 1 0 0) a b) (IV_E h)
    exact IV_house h (fun q h1 h2 h3 h4 h5 => by rw [rowM_ne (by omega), rowM_ne (by omega)]) (fun k _ _ => by rw [rowM_ne (by decide), rowM_ne (by decide)]) (EI.eq e1.symm hE) (PI5.eq e1.symm hE (PI_swR (IV_P h) ha hb hab)) ((e1.trans (sw_EQ Q n6)).trans e2.symm)
theorem s_judge {μ ν κ : Mem} {v v9 : Int32} (h : IV μ) (r : v = fns (μ 36) (oServed (sh μ 1) (μ 6) 0) (μ 1 0) (μ 0 10) 0 ∧ KC (up μ 0 10 0) ν) (s : v9 = fns (ν 54) (oServed (sh ν 38) (ν 43) 0) (ν 38 0) (ν 38 20) 0 ∧ KM (up ν 38 20 0) κ) : v = v9 ∧ IV κ := by
  obtain ⟨r1, r2⟩ := r
  obtain ⟨s1, s2⟩ := s
  have hr : RF μ ν := fun q hq => (r2 q (by omega)).trans (up_ne (by omega))
  rw [RF_sh hr, hr 54 (by decide), hr 43 (by decide), hr 38 (by decide), IV_n h, h.2.2.2.1.1, h.2.2.2.1.2.2.1] at s1
  refine ⟨?_, ?_⟩
  · rw [r1, s1]
    exact fns_eq (fun i hi => (o_eq (w := 0) (IV_Q h) (IV_E h) (IV_O h) (IV_o h) hi).2.2.1) _ _ (fun _ _ => rfl)
  · have h2 : IV (up (up μ 0 10 0) 38 20 0) := by
      obtain ⟨a, b, c, ⟨d1, d2, d3, d4⟩, e⟩ := h
      have g : ∀ q, q ≠ 0 → q ≠ 38 → up (up μ 0 10 0) 38 20 0 q = μ q := fun q h1 h2 => by rw [up_ne h2, up_ne h1]
      have g38 : ∀ k, k ≠ 20 → up (up μ 0 10 0) 38 20 0 38 k = μ 38 k := fun k hk => by rw [up_off (Or.inr hk), up_ne (by decide)]
      exact IV_of (IA_fr a (fun q h1 h2 => g q (by omega) (by omega)) (fun q h1 h2 => g q (by omega) (by omega)) (g38 0 (by decide)) (g38 15 (by decide))) (IB_fr b (by rw [up_ne (by decide), up_off (Or.inr (by decide))]) (g38 23 (by decide)) (fun q h1 h2 => g q (by omega) (by omega)) (g 56 (by decide) (by decide))) (IC_fr c (g38 16 (by decide)) (by rw [g 34 (by decide) (by decide)]) (g 52 (by decide) (by decide)) (g 35 (by decide) (by decide))) ⟨by rw [up_at, up_ne (by decide), up_at], by rw [up_ne (by decide), up_at]; omega, by rw [g 54 (by decide) (by decide), g 36 (by decide) (by decide)]; exact d3, fun j hj => by rw [g 36 (by decide) (by decide)]; exact d4 j hj⟩ (by rw [g 55 (by decide) (by decide), g 37 (by decide) (by decide)]; exact e)
    refine IV_keep h2 (ν := up ν 38 20 0) (fun q hq => ?_) s2
    by_cases e : q = 38
    · subst e
      rw [up_self, up_self, r2 38 (by omega)]
    · rw [up_ne e, up_ne e]; exact r2 q hq
theorem s_house {μ ν κ : Mem} {v v9 : Int32} (h : IV μ) (r : HO (μ 35) (μ 34 1) (sh μ 1) v (sh ν 1) ∧ ν 34 = (fun i => if i = 1 then 0 else μ 34 i) ∧ ∀ q, (q < 1 ∨ 14 < q) → q ≠ 34 → ν q = μ q) (s : HO (ν 52) (ν 38 16) (sh ν 38) v9 (sh κ 38) ∧ FO ν κ) : v = v9 ∧ IV κ := by
  obtain ⟨r1, r2, r3⟩ := r
  obtain ⟨s1, s2, s3, s4⟩ := s
  have hr : RF μ ν := fun q hq => r3 q (by omega) (by omega)
  rw [RF_sh hr, hr 52 (by decide), hr 38 (by decide), h.2.2.1.1, h.2.2.1.2.2.1] at s1
  have h1 := HO_one (IV_Q h) (IV_E h) (IV_P h) h.2.2.1.2.1 r1 s1
  refine ⟨h1.1, ?_⟩
  have hep : EI (sh ν 1) ∧ PI5 (sh ν 1) := by
    rcases r1 with ⟨_, _, a⟩ | ⟨_, _, _, _, a⟩ | ⟨a1, a2, E9, F9, a3, a4, a5⟩
    · exact ⟨EI.eq a.symm (IV_E h), PI5.eq a.symm (IV_E h) (IV_P h)⟩
    · exact ⟨EI.eq a.symm (IV_E h), PI5.eq a.symm (IV_E h) (IV_P h)⟩
    · rcases a5 with ⟨a5, a6⟩ | ⟨_, a6⟩
      · rcases runA_ok _ _ _ _ _ _ h.2.2.1.2.1 (by omega) (by omega) a2 (EI.eq a3.symm (IV_E h)) (PI5.eq a3.symm (IV_E h) (IV_P h)) a4 with ⟨m, _, _, _, _, z5⟩ | ⟨m, z1, z2⟩
        · exact ⟨EI.eq a6.symm z5.1, PI5.eq a6.symm z5.1 z5.2⟩
        · rw [z2] at a5
          exact absurd a5 (Int32.not_lt.mpr (Int32.le_of_lt (neg_2000 (by omega))))
      · exact ⟨EI.eq a6.symm (IV_E h), PI5.eq a6.symm (IV_E h) (IV_P h)⟩
  have q1 : EQ (sh κ 1) (sh ν 1) := EQ_sh (fun q _ h2 => s2 q (by omega))
  obtain ⟨a, b, c, d, e⟩ := h
  have f : ∀ q, (q < 1 ∨ 14 < q) → q ≠ 34 → q < 38 → κ q = μ q := fun q x1 x2 x3 => (s2 q (by omega)).trans (r3 q x1 x2)
  have f2 : ∀ q, 44 < q → q ≠ 53 → q ≠ 57 → κ q = μ q := fun q x1 x2 x3 => (s2 q (by omega)).trans (r3 q (by omega) (by omega))
  have f38 : ∀ k, k ≠ 0 → k ≠ 16 → k ≠ 18 → κ 38 k = μ 38 k := fun k x1 x2 x3 => (s3 k x1 x2 x3).trans (congrFun (r3 38 (by omega) (by omega)) k)
  refine IV_of ⟨EI.eq q1.symm hep.1, PI5.eq q1.symm hep.1 hep.2, q1.trans h1.2, by rw [f38 15 (by decide) (by decide) (by decide)]; exact a.2.2.2⟩ (IB_fr b (by rw [f 0 (by omega) (by omega) (by omega)]) (f38 23 (by decide) (by decide) (by decide)) (fun q x1 x2 => f q (by omega) (by omega) (by omega)) (f2 56 (by decide) (by decide) (by decide))) ⟨?_, ?_, ?_, ?_⟩ (ID_fr d (f38 20 (by decide) (by decide) (by decide)) (by rw [f 0 (by omega) (by omega) (by omega)]) (f2 54 (by decide) (by decide) (by decide)) (f 36 (by omega) (by omega) (by omega))) (by rw [f2 55 (by decide) (by decide) (by decide), f 37 (by omega) (by omega) (by omega)]; exact e)
  · have e34 : κ 34 1 = 0 := by rw [s2 34 (by omega), r2]; rfl
    rw [s4, e34]
  · have e34 : κ 34 1 = 0 := by rw [s2 34 (by omega), r2]; rfl
    omega
  · rw [f2 52 (by decide) (by decide) (by decide), f 35 (by omega) (by omega) (by omega)]; exact c.2.2.1
  · rw [f 35 (by omega) (by omega) (by omega)]; exact c.2.2.2
theorem s_image {μ ν κ : Mem} {v v9 : Int32} (h : IV μ) (r : v = nI (μ 1 0) ∧ ν = up (cpH μ 15 1) 0 3 1) (s : v9 = nI (ν 38 0) ∧ ∃ σ : Nat → Nat, κ = rowM (up ν 38 23 1) 56 σ ∧ EQ (unp σ) (sh ν 38)) : v = v9 ∧ IV κ := by
  obtain ⟨r1, r2⟩ := r
  obtain ⟨s1, σ, s2, s3⟩ := s
  have hn : ∀ q, (q < 15 ∨ 21 < q) → q ≠ 0 → ν q = μ q := fun q x1 x2 => by rw [r2, up_ne x2]; exact cpH_off (by omega)
  have hr : RF μ ν := fun q hq => hn q (by omega) (by omega)
  have hn0 : ∀ k, k ≠ 3 → ν 0 k = μ 0 k := fun k hk => by rw [r2, up_off (Or.inr hk)]; exact congrFun (cpH_off (by omega)) k
  have hk : ∀ q, q ≠ 38 → q ≠ 56 → κ q = ν q := fun q x1 x2 => by rw [s2, rowM_ne x2, up_ne x1]
  have hk38 : ∀ k, k ≠ 23 → κ 38 k = μ 38 k := fun k hk => by rw [s2, rowM_ne (by decide), up_off (Or.inr hk), hr 38 (by decide)]
  rw [RF_sh hr] at s3
  have q15 : EQ (sh κ 15) (sh μ 1) := (EQ_sh (fun q x1 x2 => by rw [hk q (by omega) (by omega), r2, up_ne (by omega)])).trans (cpH_eq (μ := μ) isH_15 isH_1 (by decide))
  obtain ⟨a, b, c, d, e⟩ := h
  refine ⟨by rw [r1, s1, hr 38 (by decide)]; exact congrArg nI a.2.2.1.1, IV_of (IA_fr a (fun q x1 x2 => by rw [hk q (by omega) (by omega), hn q (by omega) (by omega)]) (fun q x1 x2 => by rw [hk q (by omega) (by omega), hn q (by omega) (by omega)]) (hk38 0 (by decide)) (hk38 15 (by decide))) ⟨?_, ?_, fun _ => ⟨EI.eq q15.symm a.1, PI5.eq q15.symm a.1 a.2.1, ?_⟩⟩ (IC_fr c (hk38 16 (by decide)) (by rw [hk 34 (by decide) (by decide), hn 34 (by omega) (by decide)]) (by rw [hk 52 (by decide) (by decide), hn 52 (by omega) (by decide)]) (by rw [hk 35 (by decide) (by decide), hn 35 (by omega) (by decide)])) (ID_fr d (hk38 20 (by decide)) (by rw [hk 0 (by decide) (by decide), hn0 10 (by decide)]) (by rw [hk 54 (by decide) (by decide), hn 54 (by omega) (by decide)]) (by rw [hk 36 (by decide) (by decide), hn 36 (by omega) (by decide)])) (by rw [hk 55 (by decide) (by decide), hn 55 (by omega) (by decide), hk 37 (by decide) (by decide), hn 37 (by omega) (by decide)]; exact e)⟩
  · rw [hk 0 (by decide) (by decide), s2, rowM_ne (by decide), up_at, r2, up_at]
  · rw [hk 0 (by decide) (by decide), r2, up_at]; omega
  · rw [show κ 56 = σ by rw [s2, rowM_at]]
    exact (q15.trans a.2.2.1).trans s3.symm
theorem s_on {μ ν κ : Mem} {v v9 : Int32} (h : IV μ) (r : OutG 37 (if μ 0 3 = 0 then 3 else 0) (nI (μ 15 0)) μ (fun μ' => μ' = cpH μ 1 15) v ν) (s : OutG 55 (if ν 38 23 = 0 then 3 else 0) (nI (ν 56 40)) ν (fun μ' => EQ (sh μ' 38) (unp (ν 56)) ∧ (∀ q, q < 38 ∨ 44 < q → μ' q = ν q) ∧ ∀ k, k ≠ 0 → μ' 38 k = ν 38 k) v9 κ) : v = v9 ∧ IV κ := by
  have hr := OutG_RF (fun κ e q hq => by rw [e]; exact cpH_off (by omega)) r
  rw [hr 38 (by decide), hr 56 (by decide)] at s
  have h1 : (if μ 0 3 = 0 then 3 else 0) = 0 → μ 0 3 = 1 := fun hk => by
    have := h.2.1.2.1
    by_cases q : μ 0 3 = 0
    · rw [if_pos q] at hk; cases hk
    · omega
  refine OutG_one h r s (by rw [h.2.1.1]) (fun hk => ?_) (fun hk p q => ?_)
  · obtain ⟨_, _, b⟩ := h.2.1.2.2 (h1 hk)
    exact congrArg nI b.1
  · obtain ⟨b1, b2, b3⟩ := h.2.1.2.2 (h1 hk)
    subst p
    obtain ⟨q1, q2, q3⟩ := q
    have e1 : EQ (sh κ 1) (sh μ 15) := (EQ_sh (fun q x1 x2 => q2 q (by omega))).trans (cpH_eq isH_1 isH_15 (by decide))
    exact IV_house h (fun q x1 x2 x3 x4 x5 => (q2 q (by omega)).trans (cpH_off (by omega))) (fun k x1 _ => q3 k x1) (EI.eq e1.symm b1) (PI5.eq e1.symm b1 b2) ((e1.trans b3).trans q1.symm)
