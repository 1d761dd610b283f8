-- CLASS AND REFERENCE SIDE BY SIDE: what holds between two calls; every ask answers alike
def IV (μ : Mem) : Prop :=
  (EI (sh μ 1) ∧ PI5 (sh μ 1) ∧ EQ (sh μ 1) (sh μ 38) ∧ μ 38 15 = 0) ∧ (μ 38 23 = μ 0 3 ∧ μ 0 3 ≤ 1 ∧ (μ 0 3 = 1 → EI (sh μ 15) ∧ PI5 (sh μ 15) ∧ EQ (sh μ 15) (unp (μ 56)))) ∧ (μ 38 16 = μ 34 1 ∧ μ 34 1 ≤ 96 ∧ μ 52 = μ 35 ∧ ∀ j, j < 96 → μ 35 j ≤ 255) ∧ (μ 38 20 = μ 0 10 ∧ μ 0 10 ≤ 12 ∧ μ 54 = μ 36 ∧ ∀ j, j < 12 → μ 36 j ≤ 99) ∧ μ 55 = μ 37
/-- the class's call has left the reference as it was -/
def RF (μ ν : Mem) : Prop := ∀ q, 38 ≤ q → ν q = μ q
theorem RF_sh {μ ν : Mem} (h : RF μ ν) : sh ν 38 = sh μ 38 := funext fun k => h (38 + k) (by omega)
theorem IV_E {μ : Mem} (h : IV μ) : EI (sh μ 1) := h.1.1
theorem IV_P {μ : Mem} (h : IV μ) : PI5 (sh μ 1) := h.1.2.1
theorem IV_Q {μ : Mem} (h : IV μ) : EQ (sh μ 1) (sh μ 38) := h.1.2.2.1
theorem IV_E5 {μ ν : Mem} (h : IV μ) (r : RF μ ν) : EI (sh ν 38) := by rw [RF_sh r]; exact EI.eq h.1.2.2.1 h.1.1
theorem IV_P5 {μ ν : Mem} (h : IV μ) (r : RF μ ν) : PI5 (sh ν 38) := by rw [RF_sh r]; exact PI5.eq h.1.2.2.1 h.1.1 h.1.2.1
theorem IV_z {μ ν : Mem} (h : IV μ) (r : RF μ ν) : ν 38 15 = 0 := by rw [r 38 (by decide)]; exact h.1.2.2.2
theorem IV_n {μ : Mem} (h : IV μ) : μ 38 0 = μ 1 0 := h.1.2.2.1.1.symm
theorem IV_n6 {μ : Mem} (h : IV μ) : μ 1 0 ≤ 6 := h.1.1.1
theorem IV_o {μ : Mem} (h : IV μ) : eqTo (sh μ 1 0 0) (μ 6) (μ 43) := fun i hi => h.1.2.2.1.2.1 5 i (by decide) (by decide) (by have := h.1.1.1; omega)
theorem IV_O {μ : Mem} (h : IV μ) : OI (sh μ 1) (μ 6) := h.1.2.1.1
theorem OutC_RF {k : Nat} {w v : Int32} {μ ν : Mem} (r : OutC k w μ v ν) : RF μ ν := fun q hq => by
  rcases r with ⟨_, _, r⟩ | ⟨_, _, r⟩
  · exact r q (by omega)
  · rw [r]; exact up_ne (by omega)
theorem OutCL_RF {k : Nat} {w v : Int64} {μ ν : Mem} (r : OutCL k w μ v ν) : RF μ ν := fun q hq => by
  rcases r with ⟨_, _, r⟩ | ⟨_, _, r⟩
  · exact r q (by omega)
  · rw [r]; exact up_ne (by omega)
theorem IV_keep {μ ν κ : Mem} (h : IV μ) (r : KC μ ν) (s : KM ν κ) : IV κ := by
  obtain ⟨⟨a1, a2, a3, a4⟩, ⟨b1, b2, b3⟩, ⟨c1, c2, c4, c3⟩, ⟨d1, d2, d4, d3⟩, e⟩ := h
  obtain ⟨s1, s2, s3, s4, s5, s6, s7, s8, s9, s10⟩ := s
  have rf : ∀ q, 38 ≤ q → ν q = μ q := fun q hq => r q (by omega)
  have g : ∀ q, q < 8 ∨ (15 ≤ q ∧ q < 22) ∨ (34 ≤ q ∧ q < 38) → κ q = μ q := fun q hq => (s1 q (by omega)).trans (r q (by omega))
  have q1 : EQ (sh κ 1) (sh μ 1) := EQ_sh (fun q h1 h2 => g q (by omega))
  have q15 : EQ (sh κ 15) (sh μ 15) := EQ_sh (fun q h1 h2 => g q (by omega))
  have e38 : sh ν 38 = sh μ 38 := funext fun k => rf (38 + k) (by omega)
  rw [e38] at s2
  refine ⟨⟨EI.eq q1.symm a1, PI5.eq q1.symm a1 a2, (q1.trans a3).trans s2.symm, ?_⟩, ⟨?_, ?_, fun hh => ?_⟩, ⟨?_, ?_, ?_, fun j hj => ?_⟩, ⟨?_, ?_, ?_, fun j hj => ?_⟩, ?_⟩
  · rw [s3, rf 38 (by decide)]; exact a4
  · rw [s6, rf 38 (by decide), g 0 (by decide)]; exact b1
  · rw [g 0 (by decide)]; exact b2
  · rw [g 0 (by decide)] at hh
    obtain ⟨b4, b5, b6⟩ := b3 hh
    refine ⟨EI.eq q15.symm b4, PI5.eq q15.symm b4 b5, ?_⟩
    rw [s10, rf 56 (by decide)]
    exact q15.trans b6
  · rw [s4, rf 38 (by decide), g 34 (by decide)]; exact c1
  · rw [g 34 (by decide)]; exact c2
  · rw [s7, rf 52 (by decide), g 35 (by decide)]; exact c4
  · rw [g 35 (by decide)]; exact c3 j hj
  · rw [s5, rf 38 (by decide), g 0 (by decide)]; exact d1
  · rw [g 0 (by decide)]; exact d2
  · rw [s8, rf 54 (by decide), g 36 (by decide)]; exact d4
  · rw [g 36 (by decide)]; exact d3 j hj
  · rw [s9, rf 55 (by decide), g 37 (by decide)]; exact e
theorem IV_no {μ : Mem} {k : Nat} (h : IV μ) : IV (up (up μ 37 k (μ 37 k + 1)) 55 k (up μ 37 k (μ 37 k + 1) 55 k + 1)) := by
  obtain ⟨⟨a1, a2, a3, a4⟩, ⟨b1, b2, b3⟩, ⟨c1, c2, c4, c3⟩, ⟨d1, d2, d4, d3⟩, e⟩ := h
  have g : ∀ q, q ≠ 37 → q ≠ 55 → up (up μ 37 k (μ 37 k + 1)) 55 k (up μ 37 k (μ 37 k + 1) 55 k + 1) q = μ q := fun q h1 h2 => by rw [up_ne h2, up_ne h1]
  have q1 : EQ (sh (up (up μ 37 k (μ 37 k + 1)) 55 k (up μ 37 k (μ 37 k + 1) 55 k + 1)) 1) (sh μ 1) := EQ_sh (fun q h1 h2 => g q (by omega) (by omega))
  have q15 : EQ (sh (up (up μ 37 k (μ 37 k + 1)) 55 k (up μ 37 k (μ 37 k + 1) 55 k + 1)) 15) (sh μ 15) := EQ_sh (fun q h1 h2 => g q (by omega) (by omega))
  have q38 : EQ (sh (up (up μ 37 k (μ 37 k + 1)) 55 k (up μ 37 k (μ 37 k + 1) 55 k + 1)) 38) (sh μ 38) := EQ_sh (fun q h1 h2 => g q (by omega) (by omega))
  refine ⟨⟨EI.eq q1.symm a1, PI5.eq q1.symm a1 a2, (q1.trans a3).trans q38.symm, ?_⟩, ⟨?_, ?_, fun hh => ?_⟩, ⟨?_, ?_, ?_, fun j hj => ?_⟩, ⟨?_, ?_, ?_, fun j hj => ?_⟩, ?_⟩
  · rw [g 38 (by decide) (by decide)]; exact a4
  · rw [g 38 (by decide) (by decide), g 0 (by decide) (by decide)]; exact b1
  · rw [g 0 (by decide) (by decide)]; exact b2
  · rw [g 0 (by decide) (by decide)] at hh
    obtain ⟨b4, b5, b6⟩ := b3 hh
    refine ⟨EI.eq q15.symm b4, PI5.eq q15.symm b4 b5, ?_⟩
    rw [g 56 (by decide) (by decide)]
    exact q15.trans b6
  · rw [g 38 (by decide) (by decide), g 34 (by decide) (by decide)]; exact c1
  · rw [g 34 (by decide) (by decide)]; exact c2
  · rw [g 52 (by decide) (by decide), g 35 (by decide) (by decide)]; exact c4
  · rw [g 35 (by decide) (by decide)]; exact c3 j hj
  · rw [g 38 (by decide) (by decide), g 0 (by decide) (by decide)]; exact d1
  · rw [g 0 (by decide) (by decide)]; exact d2
  · rw [g 54 (by decide) (by decide), g 36 (by decide) (by decide)]; exact d4
  · rw [g 36 (by decide) (by decide)]; exact d3 j hj
  · funext j
    by_cases q : j = k
    · subst q
      rw [up_at, up_ne (by decide), up_ne (by decide), up_at, e]
    · rw [up_off (Or.inr q), up_ne (by decide), up_ne (by decide), up_off (Or.inr q), e]
/-- two asks that are refused alike and answer alike -/
theorem IV_ask {k k' : Nat} {w w' v v' : Int32} {μ ν κ : Mem} (h : IV μ) (r : OutC k w μ v ν) (s : OutM k' w' ν v' κ) (hk : k = k') (hw : k = 0 → w = w') : v = v' ∧ IV κ := by
  subst hk
  rcases r with ⟨r1, r2, r3⟩ | ⟨r1, r2, r3⟩
  · rcases s with ⟨s1, s2, s3⟩ | ⟨s1, s2, s3⟩
    · exact ⟨by rw [r2, s2]; exact hw r1, IV_keep h r3 s3⟩
    · omega
  · rcases s with ⟨s1, s2, s3⟩ | ⟨s1, s2, s3⟩
    · omega
    · subst r3
      exact ⟨by rw [r2, s2], by rw [s3]; exact IV_no h⟩
theorem IV_askL {k k' : Nat} {w w' v v' : Int64} {μ ν κ : Mem} (h : IV μ) (r : OutCL k w μ v ν) (s : OutML k' w' ν v' κ) (hk : k = k') (hw : k = 0 → w = w') : v = v' ∧ IV κ := by
  subst hk
  rcases r with ⟨r1, r2, r3⟩ | ⟨r1, r2, r3⟩
  · rcases s with ⟨s1, s2, s3⟩ | ⟨s1, s2, s3⟩
    · exact ⟨by rw [r2, s2]; exact hw r1, IV_keep h r3 s3⟩
    · omega
  · rcases s with ⟨s1, s2, s3⟩ | ⟨s1, s2, s3⟩
    · omega
    · subst r3
      exact ⟨by rw [r2, s2], by rw [s3]; exact IV_no h⟩
-- WHAT ASKS ANSWER, of like houses
theorem kFl_0 {n : Nat} {x : Int32} (hn : n ≤ 6) (h : kFl n x = 0) : ∃ j, j < n ∧ x = nI j := by
  by_cases c : isFl n x
  · exact fl_of (by omega) c
  · rw [kFl, if_neg c] at h; cases h
theorem bIdx_eq {f g : Nat → Nat} {m : Bool} : ∀ T, (∀ t, t ≤ T → f t = g t) → bIdx f m T = bIdx g m T
  | 0, _ => rfl
  | T + 1, h => by
    have ih := bIdx_eq (m := m) T (fun t ht => h t (by omega))
    have hl := bIdx_le g m T
    cases m with
    | true =>
      have a := bIdx_t (f := f) (v9 := T + 1) (b9 := bIdx f true T) (l9 := f (bIdx f true T)) (by omega) rfl rfl
      have b := bIdx_t (f := g) (v9 := T + 1) (b9 := bIdx g true T) (l9 := g (bIdx g true T)) (by omega) rfl rfl
      rw [ih, h _ (show bIdx g true T ≤ T + 1 by omega), h (T + 1) (by omega)] at a
      rcases Nat.lt_or_ge (g (bIdx g true T)) (g (T + 1)) with q | q
      · rw [a.1 q, b.1 q]
      · rw [a.2 q, b.2 q]
    | false =>
      have a := bIdx_f (f := f) (v9 := T + 1) (b9 := bIdx f false T) (l9 := f (bIdx f false T)) (by omega) rfl rfl
      have b := bIdx_f (f := g) (v9 := T + 1) (b9 := bIdx g false T) (l9 := g (bIdx g false T)) (by omega) rfl rfl
      rw [ih, h _ (show bIdx g false T ≤ T + 1 by omega), h (T + 1) (by omega)] at a
      rcases Nat.lt_or_ge (g (T + 1)) (g (bIdx g false T)) with q | q
      · rw [a.1 q, b.1 q]
      · rw [a.2 q, b.2 q]
theorem fst0_eq {f g : Nat → Nat} : ∀ k v, (∀ t, v ≤ t → t < v + k → f t = g t) → fst0 f k v = fst0 g k v
  | 0, _, _ => rfl
  | k + 1, v, h => by
    rw [fst0, fst0, h v (by omega) (by omega), fst0_eq k (v + 1) (fun t a b => h t (by omega) (by omega))]
theorem tdn_eq {f g : Nat → Nat} {m had : Nat} : ∀ t, (∀ v, had < v → v ≤ t → f v = g v) → tdn f m had t = tdn g m had t
  | 0, _ => rfl
  | t + 1, h => by
    rw [tdn, tdn, tdn_eq t (fun v a b => h v a (by omega))]
    by_cases c : had < t + 1
    · rw [if_pos c, if_pos c, h (t + 1) c (by omega)]
    · rw [if_neg c, if_neg c]
theorem maxTo_eq {f g : Nat → Nat} : ∀ n, (∀ i, i < n → f i = g i) → maxTo f n = maxTo g n
  | 0, _ => rfl
  | n + 1, h => by rw [maxTo, maxTo, maxTo_eq n (fun i hi => h i (by omega)), h n (by omega)]
theorem ctF_eq {p q : Nat → Bool} : ∀ n, (∀ i, i < n → p i = q i) → ctF p n = ctF q n ∧ ffF p n = ffF q n
  | 0, _ => ⟨rfl, rfl⟩
  | n + 1, h => by
    have ih := ctF_eq n (fun i hi => h i (by omega))
    rw [ctF, ctF, ffF, ffF, ih.1, ih.2, h n (by omega)]
    exact ⟨rfl, rfl⟩
section LIKE
variable {E F : Mem} {ρ σ : Nat → Nat}
theorem Tot_up {a k v w t : Nat} (h : EQ E F) (hE : EI (up E a k v)) (h0 : a ≠ 0) (ho : OI E ρ) (hop : eqTo (E 0 0) ρ σ) : Tot (up E a k v) ρ w t = Tot (up F a k v) σ w t := by
  have e0 : up E a k v 0 = E 0 := up_ne (Ne.symm h0)
  exact Tot_eq (EQ_up h) hE (by unfold OI; rw [e0]; exact ho) (by rw [e0]; exact hop)
theorem valO_eq {k t : Nat} (h : EQ E F) (hE : EI E) (ht : t < nP (E 0 0)) : valO E k t = valO F k t := by
  unfold valO
  rw [← h.1]
  exact Tot_eq h hE (OI_pf hE ht) (eqTo.refl _)
theorem bstI_eq {k : Nat} (h : EQ E F) (hE : EI E) : bstI E k = bstI F k := by
  unfold bstI
  rw [← h.1]
  have := nP_b hE.1
  exact bIdx_eq _ (fun t ht => valO_eq h hE (by omega))
theorem fitO_eq {N M : Nat → Nat} {c t : Nat} (h : EQ E F) (hE : EI E) (hN : ∀ j, j < c → N j = M j) (ht : t < nP (E 0 0)) : fitO E N c t = fitO F M c t := by
  unfold fitO
  rw [← h.1]
  have hs : eqTo (E 0 0) (oServed E (pf (E 0 0) t) 0) (oServed F (pf (E 0 0) t) 0) := fun i hi => (o_eq h hE (OI_pf hE ht) (eqTo.refl _) hi).2.2.1
  rw [fns_eq hs c 0 (fun j hj => hN j (by omega))]
theorem dayE_EQ {z : Int32} {d : Nat} (h : EQ E F) : EQ (dayE E z d) (dayE F z d) := by
  refine ⟨by rw [dayE, dayE, rowM_ne (by decide), rowM_ne (by decide)]; exact h.1, fun k i a b c => ?_, fun i a => by rw [dayE, dayE, rowM_ne (by decide), rowM_ne (by decide)]; exact h.2.2 i a⟩
  by_cases q : k = 3
  · rw [q, dayE, dayE, rowM_at, rowM_at, ppl, ppl, h.1, h.2.1 3 i (by decide) (by decide) c]
  · rw [dayE, dayE, rowM_ne q, rowM_ne q]; exact h.2.1 k i a b c
theorem dayC_eq {z : Int32} {d : Nat} (h : EQ E F) (hE : EI E) (ho : OI E ρ) (hop : eqTo (E 0 0) ρ σ) : dayC E ρ z d = dayC F σ z d := by
  have e0 : dayE E z d 0 = E 0 := rowM_ne (by decide)
  exact Tot_eq (dayE_EQ h) (dayE_EI hE) (by unfold OI; rw [e0]; exact ho) (by rw [e0]; exact hop)
end LIKE
