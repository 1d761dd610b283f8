-- WHAT TWO LIKE HOUSES GIVE IS ALIKE; HOW GREAT IT CAN BE
theorem sumTo_eq {f g : Nat → Nat} : ∀ (n : Nat), (∀ i, i < n → f i = g i) → sumTo f n = sumTo g n
  | 0, _ => rfl
  | n + 1, h => by rw [sumTo, sumTo, h n (by omega), sumTo_eq n (fun i hi => h i (by omega))]
theorem sumTo_le {f : Nat → Nat} {B : Nat} : ∀ (n : Nat), (∀ i, i < n → f i ≤ B) → sumTo f n ≤ n * B
  | 0, _ => by simp [sumTo]
  | n + 1, h => by
    have h1 := h n (by omega)
    have h2 := sumTo_le n (fun i hi => h i (by omega))
    rw [sumTo, Nat.succ_mul]
    omega
theorem EQ.refl (E : Mem) : EQ E E := ⟨rfl, fun _ _ _ _ _ => rfl, fun _ _ => rfl⟩
theorem EQ.symm {E F : Mem} (h : EQ E F) : EQ F E := ⟨h.1.symm, fun k i a b c => (h.2.1 k i a b c).symm, fun i a => (h.2.2 i a).symm⟩
theorem EQ.trans {E F K : Mem} (h : EQ E F) (g : EQ F K) : EQ E K := ⟨h.1.trans g.1, fun k i a b c => (h.2.1 k i a b c).trans (g.2.1 k i a b c), fun i a => (h.2.2 i a).trans (g.2.2 i a)⟩
/-- the order of a house is one of its floors -/
def PI5 (E : Mem) : Prop := OI E (E 5) ∧ (∀ i j, i < E 0 0 → j < E 0 0 → E 5 i = E 5 j → i = j) ∧ ∀ f, f < E 0 0 → ∃ p, p < E 0 0 ∧ E 5 p = f
theorem EI.eq {E F : Mem} (h : EQ E F) (hE : EI E) : EI F := by
  obtain ⟨a, b, c⟩ := hE
  have h0 : E 0 0 = F 0 0 := h.1
  refine ⟨by omega, fun f hf => ?_, fun k hk => by rw [← h.2.2 k hk]; exact c k hk⟩
  rw [← h.2.1 1 f (by omega) (by omega) (by omega), ← h.2.1 2 f (by omega) (by omega) (by omega), ← h.2.1 3 f (by omega) (by omega) (by omega), ← h.2.1 4 f (by omega) (by omega) (by omega)]
  exact b f (by omega)
theorem PI5.eq {E F : Mem} (h : EQ E F) (hE : EI E) (hP : PI5 E) : PI5 F := by
  have h0 : E 0 0 = F 0 0 := h.1
  have h6 := hE.1
  have h5 : ∀ i, i < F 0 0 → E 5 i = F 5 i := fun i hi => h.2.1 5 i (by omega) (by omega) (by omega)
  refine ⟨fun i hi => ?_, fun i j hi hj he => hP.2.1 i j (by omega) (by omega) (by rw [h5 i hi, h5 j hj]; exact he), fun f hf => ?_⟩
  · have := hP.1 i (by omega)
    rw [← h5 i hi]
    omega
  · obtain ⟨p, hp, hpf⟩ := hP.2.2 f (by omega)
    exact ⟨p, by omega, by rw [← h5 p (by omega)]; exact hpf⟩
/-- the place of a floor -/
def plc (ρ : Nat → Nat) (f : Nat) : Nat → Nat
  | 0 => 0
  | n + 1 => if ρ n = f then n else plc ρ f n
theorem plc_ok {ρ : Nat → Nat} {f : Nat} : ∀ (n : Nat), (∃ p, p < n ∧ ρ p = f) → plc ρ f n < n ∧ ρ (plc ρ f n) = f
  | 0, h => by obtain ⟨p, hp, -⟩ := h; omega
  | n + 1, h => by
    rw [plc]
    split
    · rename_i q; exact ⟨by omega, q⟩
    · rename_i q
      obtain ⟨p, hp, hpf⟩ := h
      have hpn : p ≠ n := fun e => q (by rw [← e]; exact hpf)
      have := plc_ok n ⟨p, by omega, hpf⟩
      exact ⟨by omega, this.2⟩
theorem plc_eq {ρ σ : Nat → Nat} {f : Nat} : ∀ (n : Nat), eqTo n ρ σ → plc ρ f n = plc σ f n
  | 0, _ => rfl
  | n + 1, h => by rw [plc, plc, h n (by omega), plc_eq n (fun i hi => h i (by omega))]
theorem PI5.plc {E : Mem} (h : PI5 E) {f : Nat} (hf : f < E 0 0) : plc (E 5) f (E 0 0) < E 0 0 ∧ E 5 (plc (E 5) f (E 0 0)) = f ∧ ∀ j, j < plc (E 5) f (E 0 0) → ¬ E 5 j = f := by
  have := plc_ok (E 0 0) (h.2.2 f hf)
  exact ⟨this.1, this.2, fun j hj e => by have := h.2.1 j _ (by omega) this.1 (e.trans this.2.symm); omega⟩
theorem vNext_eq {E F : Mem} {w f i c : Nat} {s : RS} (h1 : E 1 f = F 1 f) (h3 : E 3 f = F 3 f) (h4 : E 4 f = F 4 f) (h6 : ∀ k, k < 10 → E 6 k = F 6 k) (h0 : E 0 0 = F 0 0) :
    vNext E w f i c s = vNext F w f i c s ∧ vWarm E f c s = vWarm F f c s ∧ vServed E f c s = vServed F f c s ∧ vIced E w f i c s = vIced F w f i c s ∧ vCold E f c s = vCold F f c s ∧ vStand E f c s = vStand F f c s ∧ vMiss E f c s = vMiss F f c s ∧ vBunl E w f i c s = vBunl F w f i c s := by
  have e8 := h6 8 (by decide)
  have e9 := h6 9 (by decide)
  unfold vNext vCold vWarm vStand vMiss vBunl vIced vEaten vServed vClk vCups vBase vSince vCome vEach vKept
  rw [h1, h3, h4, e8, e9, h0]
  exact ⟨rfl, rfl, rfl, rfl, rfl, rfl, rfl, rfl⟩
theorem rs_eq {E F : Mem} {o p : Nat → Nat} {w : Nat} (h : EQ E F) (hE : EI E) (ho : OI E o) (hop : eqTo (E 0 0) o p) : ∀ i, i ≤ E 0 0 → rs E o w i = rs F p w i
  | 0, _ => by
    simp only [rs, h.2.2 0 (by decide), h.2.2 1 (by decide), h.2.2 2 (by decide), h.2.2 3 (by decide), h.2.2 4 (by decide)]
  | i + 1, hi => by
    have h6 := hE.1
    have hoi := ho i (by omega)
    have hop' := hop i (by omega)
    have hv : ∀ s, vMin E o i s = vMin F p i s := by
      intro s
      have hf : vFrom E o i = vFrom F p i := by
        unfold vFrom
        by_cases q : i = 0
        · rw [if_pos q, if_pos q, h.2.2 5 (by decide)]
        · rw [if_neg q, if_neg q, ← hop (i - 1) (by omega)]
          have := ho (i - 1) (by omega)
          exact h.2.1 2 _ (by omega) (by omega) (by omega)
      simp only [vMin, hf, ← hop', h.2.2 6 (by decide), h.2.2 7 (by decide), h.2.1 2 (o i) (by omega) (by omega) (by omega)]
    rw [rs, rs, ← rs_eq h hE ho hop i (by omega), ← hv, ← hop']
    exact (vNext_eq (h.2.1 1 _ (by omega) (by omega) (by omega)) (h.2.1 3 _ (by omega) (by omega) (by omega)) (h.2.1 4 _ (by omega) (by omega) (by omega)) h.2.2 h.1).1
theorem o_eq {E F : Mem} {o p : Nat → Nat} {w : Nat} (h : EQ E F) (hE : EI E) (ho : OI E o) (hop : eqTo (E 0 0) o p) {i : Nat} (hi : i < E 0 0) :
    oMin E o w i = oMin F p w i ∧ oWarm E o w i = oWarm F p w i ∧ oServed E o w i = oServed F p w i ∧ oIced E o w i = oIced F p w i ∧ oCold E o w i = oCold F p w i ∧ oStand E o w i = oStand F p w i ∧ oMiss E o w i = oMiss F p w i ∧ oBunl E o w i = oBunl F p w i := by
  have h6 := hE.1
  have hoi := ho i hi
  have hop' := hop i hi
  have hr := rs_eq (w := w) h hE ho hop i (by omega)
  have hm : oMin E o w i = oMin F p w i := by
    have hf : vFrom E o i = vFrom F p i := by
      unfold vFrom
      by_cases q : i = 0
      · rw [if_pos q, if_pos q, h.2.2 5 (by decide)]
      · rw [if_neg q, if_neg q, ← hop (i - 1) (by omega)]
        have := ho (i - 1) (by omega)
        exact h.2.1 2 _ (by omega) (by omega) (by omega)
    simp only [oMin, vMin, hr, hf, ← hop', h.2.2 6 (by decide), h.2.2 7 (by decide), h.2.1 2 (o i) (by omega) (by omega) (by omega)]
  have := vNext_eq (w := w) (i := i) (c := oMin E o w i) (s := rs E o w i) (h.2.1 1 (o i) (by omega) (by omega) (by omega)) (h.2.1 3 (o i) (by omega) (by omega) (by omega)) (h.2.1 4 (o i) (by omega) (by omega) (by omega)) h.2.2 h.1
  refine ⟨hm, ?_⟩
  simp only [oWarm, oServed, oIced, oCold, oStand, oMiss, oBunl, ← hm, ← hop', ← hr]
  exact this.2
theorem Tot_eq {E F : Mem} {o p : Nat → Nat} {w k : Nat} (h : EQ E F) (hE : EI E) (ho : OI E o) (hop : eqTo (E 0 0) o p) : Tot E o w k = Tot F p w k := by
  have h0 : E 0 0 = F 0 0 := h.1
  have a := fun i hi => o_eq (w := w) h hE ho hop (i := i) hi
  have e1 := sumTo_eq (E 0 0) (fun i hi => (a i hi).2.2.1)
  have e2 := sumTo_eq (E 0 0) (fun i hi => (a i hi).2.2.2.2.2.2.1)
  have e3 := sumTo_eq (E 0 0) (fun i hi => (a i hi).2.2.2.2.1)
  have e4 := sumTo_eq (E 0 0) (fun i hi => (a i hi).2.2.2.1)
  have e5 := sumTo_eq (E 0 0) (fun i hi => (a i hi).2.2.2.2.2.2.2)
  have e6 := sumTo_eq (E 0 0) (fun i hi => (a i hi).2.2.2.2.2.1)
  have e7 := rs_eq (w := w) h hE ho hop (E 0 0) (Nat.le_refl _)
  unfold Tot
  rw [e1, e2, e3, e4, e5, e6, e7, h0]
theorem o_b {E : Mem} {o : Nat → Nat} {w i : Nat} (hE : EI E) (ho : OI E o) (hi : i < E 0 0) : oMin E o w i ≤ 400 ∧ oWarm E o w i ≤ 99 ∧ oServed E o w i ≤ 20 ∧ oIced E o w i ≤ 60 ∧ oCold E o w i ≤ 20 ∧ oStand E o w i ≤ 10000 ∧ oMiss E o w i ≤ 20 ∧ oBunl E o w i ≤ 20 := by
  have hs := rs_b (w := w) hE ho i (by omega)
  obtain ⟨m1, m2⟩ := vMin_b hE ho hi hs
  obtain ⟨a1, a2, a3, a4, a5, a6, a7, a8, a9, a10⟩ := v_b hE (ho i hi) hs m2
  have h6 := hE.1
  have hst : vStand E (o i) (vMin E o i (rs E o w i)) (rs E o w i) ≤ 20 * 450 := Nat.mul_le_mul a1 (by omega)
  have hic : vIced E w (o i) i (vMin E o i (rs E o w i)) (rs E o w i) ≤ (rs E o w i).2.2.2.2.1 - vKept E i := Nat.min_le_right _ _
  have hcd : vCold E (o i) (vMin E o i (rs E o w i)) (rs E o w i) ≤ vServed E (o i) (vMin E o i (rs E o w i)) (rs E o w i) := by unfold vCold; split <;> omega
  have hbl : vBunl E w (o i) i (vMin E o i (rs E o w i)) (rs E o w i) ≤ vServed E (o i) (vMin E o i (rs E o w i)) (rs E o w i) := by unfold vBunl bLess; omega
  have hms : vMiss E (o i) (vMin E o i (rs E o w i)) (rs E o w i) ≤ vCome E (o i) (vMin E o i (rs E o w i)) := by unfold vMiss; omega
  obtain ⟨b1, b2, b3, b4, b5, b6⟩ := hs
  refine ⟨?_, ?_, ?_, ?_, ?_, ?_, ?_, ?_⟩ <;> simp only [oMin, oWarm, oServed, oIced, oCold, oStand, oMiss, oBunl] <;> omega
theorem sum6 {f : Nat → Nat} {n B : Nat} (hn : n ≤ 6) (h : ∀ i, i < n → f i ≤ B) : sumTo f n ≤ 6 * B := Nat.le_trans (sumTo_le n h) (Nat.mul_le_mul_right B hn)
theorem Tot_b {E : Mem} {o : Nat → Nat} {w k : Nat} (hE : EI E) (ho : OI E o) : Tot E o w k ≤ 100000 := by
  have h6 := hE.1
  have a := fun i (hi : i < E 0 0) => o_b (w := w) hE ho hi
  have e1 := sum6 h6 (fun i hi => (a i hi).2.2.1)
  have e2 := sum6 h6 (fun i hi => (a i hi).2.2.2.2.2.2.1)
  have e3 := sum6 h6 (fun i hi => (a i hi).2.2.2.2.1)
  have e4 := sum6 h6 (fun i hi => (a i hi).2.2.2.1)
  have e5 := sum6 h6 (fun i hi => (a i hi).2.2.2.2.2.2.2)
  have e6 := sum6 h6 (fun i hi => (a i hi).2.2.2.2.2.1)
  have e7 := (rs_b (w := w) hE ho (E 0 0) (Nat.le_refl _)).1
  unfold Tot
  (repeat' split) <;> omega
-- WHAT A CALL THAT ONLY ASKS LEAVES: refused (its number k counted), or answered with all that lasts as it was
def KC (μ μ' : Mem) : Prop := ∀ q, q < 8 ∨ (15 ≤ q ∧ q < 22) ∨ 34 ≤ q → μ' q = μ q
def KM (μ μ' : Mem) : Prop := (∀ q, q < 38 → μ' q = μ q) ∧ EQ (sh μ' 38) (sh μ 38) ∧ μ' 38 15 = μ 38 15 ∧ μ' 38 16 = μ 38 16 ∧ μ' 38 20 = μ 38 20 ∧ μ' 38 23 = μ 38 23 ∧ μ' 52 = μ 52 ∧ μ' 54 = μ 54 ∧ μ' 55 = μ 55 ∧ μ' 56 = μ 56
def OutC (k : Nat) (w : Int32) (μ : Mem) (v : Int32) (μ' : Mem) : Prop := (k = 0 ∧ v = w ∧ KC μ μ') ∨ (0 < k ∧ v = -nI k ∧ μ' = up μ 37 k (μ 37 k + 1))
def OutM (k : Nat) (w : Int32) (μ : Mem) (v : Int32) (μ' : Mem) : Prop := (k = 0 ∧ v = w ∧ KM μ μ') ∨ (0 < k ∧ v = -nI k ∧ μ' = up μ 55 k (μ 55 k + 1))
theorem KC.refl (μ : Mem) : KC μ μ := fun _ _ => rfl
theorem KM.refl (μ : Mem) : KM μ μ := ⟨fun _ _ => rfl, EQ.refl _, rfl, rfl, rfl, rfl, rfl, rfl, rfl, rfl⟩
theorem KC.trans {a b c : Mem} (h : KC a b) (g : KC b c) : KC a c := fun q hq => (g q hq).trans (h q hq)
theorem outC_ok {k : Nat} {w v : Int32} {μ μ' : Mem} (hk : k = 0) (hv : v = w) (h : KC μ μ') : PI (OutC k w μ) (some (.int v)) μ' := ⟨v, rfl, Or.inl ⟨hk, hv, h⟩⟩
theorem outC_no {k j : Nat} {w v : Int32} {μ : Mem} (hk : k = j) (hj : 0 < j) (hv : v = -nI j) : PI (OutC k w μ) (some (.int v)) (up μ 37 j (μ 37 j + 1)) := ⟨v, rfl, Or.inr ⟨by omega, by rw [hk]; exact hv, by rw [hk]⟩⟩
theorem outM_ok {k : Nat} {w v : Int32} {μ μ' : Mem} (hk : k = 0) (hv : v = w) (h : KM μ μ') : PI (OutM k w μ) (some (.int v)) μ' := ⟨v, rfl, Or.inl ⟨hk, hv, h⟩⟩
theorem outM_no {k j : Nat} {w v : Int32} {μ : Mem} (hk : k = j) (hj : 0 < j) (hv : v = -nI j) : PI (OutM k w μ) (some (.int v)) (up μ 55 j (μ 55 j + 1)) := ⟨v, rfl, Or.inr ⟨by omega, by rw [hk]; exact hv, by rw [hk]⟩⟩
-- conditions of the calls
abbrev isFl (n : Nat) (x : Int32) : Prop := 0 ≤ x ∧ x < nI n
abbrev isTo (x : Int32) : Prop := 0 ≤ x ∧ x < nI 8
theorem RPost.KC {μ E : Mem} {o : Nat → Nat} {w : Nat} {μ' : Mem} (h : RPost μ E o w μ') : KC μ μ' := fun q hq => h.1 q (by omega)
