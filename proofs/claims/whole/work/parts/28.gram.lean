-- LETTERS: how a text is read
def slen (c : Nat) : Nat := if c = 102 then 7 else if c = 117 then 6 else if c = 98 then 8 else if c = 115 then 3 else if c = 103 then 4 else if c = 114 then 5 else if c = 120 then 4 else 0
def isKd (c : Nat) : Prop := c = 111 ∨ c = 109 ∨ c = 116 ∨ c = 100 ∨ c = 103 ∨ c = 113
def kdN (c : Nat) : Nat := if c = 111 then 0 else if c = 109 then 1 else if c = 116 then 2 else if c = 100 then 3 else if c = 103 then 4 else 5
def mayS (L : Nat → Nat) (a i z : Nat) : Prop := if i = z - 1 then L (a + i) = 59 else if i = 1 ∧ L a = 102 then isKd (L (a + i)) else 48 ≤ L (a + i) ∧ L (a + i) ≤ 57
def WF (L : Nat → Nat) (n a : Nat) : Prop := 0 < slen (L a) ∧ a + slen (L a) ≤ n ∧ ∀ i, 1 ≤ i → i < slen (L a) → mayS L a i (slen (L a))
def dg (L : Nat → Nat) (i : Nat) : Nat := L i - 48
def tw2 (L : Nat → Nat) (i : Nat) : Nat := 10 * dg L i + dg L (i + 1)
def okE (L : Nat → Nat) (a : Nat) (E : Mem) : Prop :=
  if L a = 102 then E 0 0 < 6 ∧ 1 ≤ tw2 L (a + 3) ∧ tw2 L (a + 3) ≤ 20
  else if L a = 117 then tw2 L (a + 1) ≤ 40 ∧ tw2 L (a + 3) ≤ 99
  else if L a = 98 then tw2 L (a + 1) ≤ 60 ∧ tw2 L (a + 3) ≤ 60 ∧ tw2 L (a + 5) ≤ 60
  else if L a = 115 then dg L (a + 1) ≤ 9
  else if L a = 103 then dg L (a + 1) ≤ 1 ∧ dg L (a + 2) ≤ 9
  else if L a = 114 then dg L (a + 1) ≤ 2 ∧ tw2 L (a + 2) ≤ 20
  else dg L (a + 1) < E 0 0 ∧ dg L (a + 2) < E 0 0 ∧ ¬ dg L (a + 1) = dg L (a + 2)
def adE (E : Mem) (k l p t : Nat) : Mem := up (up (up (up (up (up E 1 (E 0 0) k) 2 (E 0 0) l) 3 (E 0 0) p) 4 (E 0 0) t) 5 (E 0 0) (E 0 0)) 0 0 (E 0 0 + 1)
def apE (L : Nat → Nat) (a : Nat) (E : Mem) : Mem :=
  if L a = 102 then adE E (kdN (L (a + 1))) (dg L (a + 2)) (tw2 L (a + 3)) (dg L (a + 5))
  else if L a = 117 then up (up E 6 0 (tw2 L (a + 1))) 6 1 (tw2 L (a + 3))
  else if L a = 98 then up (up (up E 6 2 (tw2 L (a + 1))) 6 3 (tw2 L (a + 3))) 6 4 (tw2 L (a + 5))
  else if L a = 115 then up E 6 5 (dg L (a + 1))
  else if L a = 103 then up (up E 6 6 (dg L (a + 1))) 6 7 (dg L (a + 2))
  else if L a = 114 then up (up E 6 8 (dg L (a + 1))) 6 9 (tw2 L (a + 2))
  else rowM E 5 (swR (E 5) (E 0 0) (dg L (a + 1)) (dg L (a + 2)))
theorem slen_b (c : Nat) : slen c ≤ 8 := by unfold slen; (repeat' split) <;> omega
theorem slen_0 {c : Nat} : 0 < slen c ↔ (c = 102 ∨ c = 117 ∨ c = 98 ∨ c = 115 ∨ c = 103 ∨ c = 114 ∨ c = 120) := by
  unfold slen
  (repeat' split) <;> omega
theorem dg_of {L : Nat → Nat} {n a i : Nat} (h : WF L n a) (h1 : 1 ≤ i) (h2 : i < slen (L a) - 1) (h3 : ¬ (i = 1 ∧ L a = 102)) : 48 ≤ L (a + i) ∧ L (a + i) ≤ 57 := by
  have := h.2.2 i h1 (by omega)
  unfold mayS at this
  rw [if_neg (by omega), if_neg h3] at this
  exact this
theorem adE_EI {E : Mem} {k l p t : Nat} (h : EI E) (hn : E 0 0 < 6) (hk : k ≤ 5) (hl : l ≤ 9) (hp : 1 ≤ p ∧ p ≤ 20) (ht : t ≤ 9) : EI (adE E k l p t) := by
  have e0 : adE E k l p t 0 0 = E 0 0 + 1 := up_at
  refine ⟨by rw [e0]; omega, fun f hf => ?_, fun q hq => ?_⟩
  · rw [e0] at hf
    by_cases e : f = E 0 0
    · subst e
      simp only [adE, up]
      simp
      omega
    · have := h.2.1 f (by omega)
      simp only [adE, up]
      simp [e]
      omega
  · have := h.2.2 q hq
    simp only [adE, up]
    simp
    exact this
theorem adE_PI {E : Mem} {k l p t : Nat} (hP : PI5 E) : PI5 (adE E k l p t) := by
  have e0 : adE E k l p t 0 0 = E 0 0 + 1 := up_at
  have e5 : ∀ i, adE E k l p t 5 i = if i = E 0 0 then E 0 0 else E 5 i := by
    intro i
    simp [adE, up]
  refine ⟨fun i hi => ?_, fun i j hi hj he => ?_, fun f hf => ?_⟩
  · rw [e0] at hi ⊢
    rw [e5]
    split
    · omega
    · have := hP.1 i (by omega); omega
  · rw [e0] at hi hj
    rw [e5, e5] at he
    by_cases a : i = E 0 0 <;> by_cases b : j = E 0 0
    · omega
    · rw [if_pos a, if_neg b] at he
      have := hP.1 j (by omega)
      omega
    · rw [if_neg a, if_pos b] at he
      have := hP.1 i (by omega)
      omega
    · rw [if_neg a, if_neg b] at he
      exact hP.2.1 i j (by omega) (by omega) he
  · rw [e0] at hf
    by_cases a : f = E 0 0
    · exact ⟨E 0 0, by rw [e0]; omega, by rw [e5, if_pos rfl, a]⟩
    · obtain ⟨p9, hp, hpf⟩ := hP.2.2 f (by omega)
      exact ⟨p9, by rw [e0]; omega, by rw [e5, if_neg (by omega)]; exact hpf⟩
theorem EI_row5 {E : Mem} {σ : Nat → Nat} (h : EI E) : EI (rowM E 5 σ) := by
  have e : ∀ q, q ≠ 5 → rowM E 5 σ q = E q := fun q hq => rowM_ne hq
  refine ⟨by rw [e 0 (by decide)]; exact h.1, fun f hf => ?_, fun k hk => by rw [e 6 (by decide)]; exact h.2.2 k hk⟩
  rw [e 0 (by decide)] at hf
  rw [e 1 (by decide), e 2 (by decide), e 3 (by decide), e 4 (by decide)]
  exact h.2.1 f hf
theorem swR_at {ρ : Nat → Nat} {n a b i : Nat} : swR ρ n a b i = if i = plc ρ a n then b else if i = plc ρ b n then a else ρ i := rfl
theorem PI_swR {E : Mem} {a b : Nat} (hP : PI5 E) (ha : a < E 0 0) (hb : b < E 0 0) (hab : a ≠ b) : PI5 (rowM E 5 (swR (E 5) (E 0 0) a b)) := by
  obtain ⟨q1, q2, q3⟩ := hP.plc ha
  obtain ⟨r1, r2, r3⟩ := hP.plc hb
  have hpq : plc (E 5) b (E 0 0) ≠ plc (E 5) a (E 0 0) := fun e => hab (by rw [← q2, ← r2, e])
  have e0 : rowM E 5 (swR (E 5) (E 0 0) a b) 0 = E 0 := rowM_ne (by decide)
  have e5 : ∀ i, rowM E 5 (swR (E 5) (E 0 0) a b) 5 i = if i = plc (E 5) a (E 0 0) then b else if i = plc (E 5) b (E 0 0) then a else E 5 i := by
    intro i
    rw [rowM_at]
    rfl
  unfold PI5 OI
  rw [e0]
  refine ⟨fun i hi => ?_, fun i j hi hj he => ?_, fun f hf => ?_⟩
  · rw [e5]
    have := hP.1 i hi
    (repeat' split) <;> omega
  · rw [e5, e5] at he
    have inj := fun x y (hx : x < E 0 0) (hy : y < E 0 0) => hP.2.1 x y hx hy
    have i1 := fun (z : E 5 i = a) => inj i _ hi q1 (z.trans q2.symm)
    have i2 := fun (z : E 5 i = b) => inj i _ hi r1 (z.trans r2.symm)
    have j1 := fun (z : E 5 j = a) => inj j _ hj q1 (z.trans q2.symm)
    have j2 := fun (z : E 5 j = b) => inj j _ hj r1 (z.trans r2.symm)
    by_cases a1 : i = plc (E 5) a (E 0 0)
    · rw [if_pos a1] at he
      by_cases b1 : j = plc (E 5) a (E 0 0)
      · omega
      · rw [if_neg b1] at he
        by_cases b2 : j = plc (E 5) b (E 0 0)
        · rw [if_pos b2] at he; omega
        · rw [if_neg b2] at he; exact absurd (j2 he.symm) b2
    · rw [if_neg a1] at he
      by_cases a2 : i = plc (E 5) b (E 0 0)
      · rw [if_pos a2] at he
        by_cases b1 : j = plc (E 5) a (E 0 0)
        · rw [if_pos b1] at he; omega
        · rw [if_neg b1] at he
          by_cases b2 : j = plc (E 5) b (E 0 0)
          · omega
          · rw [if_neg b2] at he; exact absurd (j1 he.symm) b1
      · rw [if_neg a2] at he
        by_cases b1 : j = plc (E 5) a (E 0 0)
        · rw [if_pos b1] at he; exact absurd (i2 he) a2
        · rw [if_neg b1] at he
          by_cases b2 : j = plc (E 5) b (E 0 0)
          · rw [if_pos b2] at he; exact absurd (i1 he) a1
          · rw [if_neg b2] at he; exact inj i j hi hj he
  · by_cases f1 : f = a
    · exact ⟨_, r1, by rw [e5, if_neg hpq, if_pos rfl, f1]⟩
    · by_cases f2 : f = b
      · exact ⟨_, q1, by rw [e5, if_pos rfl, f2]⟩
      · obtain ⟨p9, hp, hpf⟩ := hP.2.2 f hf
        exact ⟨p9, hp, by
          rw [e5, if_neg (fun e => f1 (by rw [← hpf, e]; exact q2)), if_neg (fun e => f2 (by rw [← hpf, e]; exact r2))]
          exact hpf⟩
theorem apE_ok {L : Nat → Nat} {n a : Nat} {E : Mem} (hW : WF L n a) (hE : EI E) (hP : PI5 E) (ho : okE L a E) : EI (apE L a E) ∧ PI5 (apE L a E) := by
  have hz := slen_0.mp hW.1
  have hd := fun i h1 h2 h3 => dg_of (i := i) hW h1 h2 h3
  unfold okE at ho
  unfold apE
  by_cases c1 : L a = 102
  · rw [if_pos c1] at ho ⊢
    have e7 : slen (L a) = 7 := by rw [c1]; rfl
    have d2 := hd 2 (by omega) (by omega) (by omega)
    have d5 := hd 5 (by omega) (by omega) (by omega)
    exact ⟨adE_EI hE ho.1 (by unfold kdN; (repeat' split) <;> omega) (by unfold dg; omega) ho.2 (by unfold dg; omega), adE_PI hP⟩
  · rw [if_neg c1] at ho ⊢
    by_cases c2 : L a = 117
    · rw [if_pos c2] at ho ⊢
      exact ⟨EI_up6 (EI_up6 hE ho.1) ho.2, PI5_up (PI5_up hP (by decide) (by decide)) (by decide) (by decide)⟩
    · rw [if_neg c2] at ho ⊢
      by_cases c3 : L a = 98
      · rw [if_pos c3] at ho ⊢
        exact ⟨EI_up6 (EI_up6 (EI_up6 hE ho.1) ho.2.1) ho.2.2, PI5_up (PI5_up (PI5_up hP (by decide) (by decide)) (by decide) (by decide)) (by decide) (by decide)⟩
      · rw [if_neg c3] at ho ⊢
        by_cases c4 : L a = 115
        · rw [if_pos c4] at ho ⊢
          exact ⟨EI_up6 hE ho, PI5_up hP (by decide) (by decide)⟩
        · rw [if_neg c4] at ho ⊢
          by_cases c5 : L a = 103
          · rw [if_pos c5] at ho ⊢
            exact ⟨EI_up6 (EI_up6 hE ho.1) ho.2, PI5_up (PI5_up hP (by decide) (by decide)) (by decide) (by decide)⟩
          · rw [if_neg c5] at ho ⊢
            by_cases c6 : L a = 114
            · rw [if_pos c6] at ho ⊢
              exact ⟨EI_up6 (EI_up6 hE ho.1) ho.2, PI5_up (PI5_up hP (by decide) (by decide)) (by decide) (by decide)⟩
            · rw [if_neg c6] at ho ⊢
              exact ⟨EI_row5 hE, PI_swR hP ho.1 ho.2.1 ho.2.2⟩
-- where a text can't go on
theorem mayS_dec (L : Nat → Nat) (a i z : Nat) : mayS L a i z ∨ ¬ mayS L a i z := Classical.em _
/-- w is the first wrong place of the text from the statement at a on -/
def bad (L : Nat → Nat) (n : Nat) (a w : Nat) : Prop := (slen (L a) = 0 ∧ w = a) ∨ (0 < slen (L a) ∧ ∃ i, 1 ≤ i ∧ i < slen (L a) ∧ w = a + i ∧ (∀ j, 1 ≤ j → j < i → a + j < n ∧ mayS L a j (slen (L a))) ∧ (n ≤ a + i ∨ ¬ mayS L a i (slen (L a))))
/-- from a on: nothing is wrong, or w is -/
def good (L : Nat → Nat) (n : Nat) : Nat → Nat → Prop
  | 0, a => n ≤ a
  | k + 1, a => n ≤ a ∨ (a < n ∧ WF L n a ∧ good L n k (a + slen (L a)))
def badA (L : Nat → Nat) (n w : Nat) : Nat → Nat → Prop
  | 0, _ => False
  | k + 1, a => a < n ∧ (bad L n a w ∨ (WF L n a ∧ badA L n w k (a + slen (L a))))
