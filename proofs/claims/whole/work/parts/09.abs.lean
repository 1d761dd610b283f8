-- THE ROUND AS A MATTER OF NUMBERS: E is a house (E 0 0 floors, E 1 kinds, E 2 levels, E 3 people, E 4 chats, E 5 order, E 6 settings), o an order, w whether one bun each
def sh (μ : Mem) (b : Nat) : Mem := fun k => μ (b + k)
abbrev RS : Type := Nat × Nat × Nat × Nat × Nat × Nat
def tGoes (g lift a b : Nat) : Nat := if a = b then 0 else if g = 0 then lift + dist a b else 3 * dist a b
def tComes (k p m : Nat) : Nat := if k = 1 ∨ k = 5 then (if m < 10 then 0 else p) else if k = 2 ∨ k = 4 then (p + 1) / 2 else p
def tServes (k c n : Nat) : Nat := if k = 3 then (n + 1) / 2 + c + 2 else if k = 5 then ((n + 1) / 2 + c) / 2 else (n + 1) / 2 + c
def vFrom (E : Mem) (o : Nat → Nat) (i : Nat) : Nat := if i = 0 then E 6 5 else E 2 (o (i - 1))
def vMin (E : Mem) (o : Nat → Nat) (i : Nat) (s : RS) : Nat := s.1 + tGoes (E 6 6) (E 6 7) (vFrom E o i) (E 2 (o i))
-- a visit at floor f, she being there at minute c, with s of the round so far
def vCome (E : Mem) (f c : Nat) : Nat := tComes (E 1 f) (E 3 f) c
def vDeg (c : Nat) (s : RS) : Nat := s.2.2.1 - (c - s.2.2.2.1) / 4
def vFill (E : Mem) (f c : Nat) (s : RS) : Prop := s.2.1 < vCome E f c ∧ 0 < E 6 8
def vClk (E : Mem) (f c : Nat) (s : RS) : Nat := if s.2.1 < vCome E f c ∧ 0 < E 6 8 then (if E 6 8 = 1 then c + 11 else c + 6) else c
def vWarm (E : Mem) (f c : Nat) (s : RS) : Nat := if s.2.1 < vCome E f c ∧ 0 < E 6 8 then (if E 6 8 = 1 then 90 else (vDeg c s + 90) / 2) else vDeg c s
def vBase (E : Mem) (f c : Nat) (s : RS) : Nat := if s.2.1 < vCome E f c ∧ 0 < E 6 8 then (if E 6 8 = 1 then 90 else (vDeg c s + 90) / 2) else s.2.2.1
def vSince (E : Mem) (f c : Nat) (s : RS) : Nat := if s.2.1 < vCome E f c ∧ 0 < E 6 8 then (if E 6 8 = 1 then c + 11 else c + 6) else s.2.2.2.1
def vCups (E : Mem) (f c : Nat) (s : RS) : Nat := if s.2.1 < vCome E f c ∧ 0 < E 6 8 then (if E 6 8 = 1 then 40 else min 40 (s.2.1 + 20)) else s.2.1
def vServed (E : Mem) (f c : Nat) (s : RS) : Nat := min (vCome E f c) (vCups E f c s)
def vStand (E : Mem) (f c : Nat) (s : RS) : Nat := vCome E f c * vClk E f c s
def vCold (E : Mem) (f c : Nat) (s : RS) : Nat := if vWarm E f c s < 60 then vServed E f c s else 0
def vEach (E : Mem) (w f : Nat) : Nat := if w = 1 then 1 else if E 1 f = 4 then 3 else 1
def vKept (E : Mem) (i : Nat) : Nat := if i + 1 = E 0 0 then 0 else E 6 9
def bEaten (m each kept iced others : Nat) : Nat := min (m * each) ((iced - kept) + others)
def bIced (m each kept iced others : Nat) : Nat := min (bEaten m each kept iced others) (iced - kept)
def bLess (m each kept iced others : Nat) : Nat := m - (if each = 3 then (bEaten m each kept iced others + 3 - 1) / 3 else bEaten m each kept iced others)
def vEaten (E : Mem) (w f i c : Nat) (s : RS) : Nat := bEaten (vServed E f c s) (vEach E w f) (vKept E i) s.2.2.2.2.1 s.2.2.2.2.2
def vIced (E : Mem) (w f i c : Nat) (s : RS) : Nat := bIced (vServed E f c s) (vEach E w f) (vKept E i) s.2.2.2.2.1 s.2.2.2.2.2
def vBunl (E : Mem) (w f i c : Nat) (s : RS) : Nat := bLess (vServed E f c s) (vEach E w f) (vKept E i) s.2.2.2.2.1 s.2.2.2.2.2
def vMiss (E : Mem) (f c : Nat) (s : RS) : Nat := vCome E f c - vServed E f c s
def vNext (E : Mem) (w f i c : Nat) (s : RS) : RS :=
  (vClk E f c s + tServes (E 1 f) (E 4 f) (vServed E f c s), vCups E f c s - vServed E f c s, vBase E f c s, vSince E f c s, s.2.2.2.2.1 - vIced E w f i c s, s.2.2.2.2.2 - (vEaten E w f i c s - vIced E w f i c s))
/-- the round so far, at i floors -/
def rs (E : Mem) (o : Nat → Nat) (w : Nat) : Nat → RS
  | 0 => (0, E 6 0, E 6 1, 0, E 6 2, E 6 3 + E 6 4)
  | i + 1 => vNext E w (o i) i (vMin E o i (rs E o w i)) (rs E o w i)
def oMin (E : Mem) (o : Nat → Nat) (w i : Nat) : Nat := vMin E o i (rs E o w i)
def oWarm (E : Mem) (o : Nat → Nat) (w i : Nat) : Nat := vWarm E (o i) (oMin E o w i) (rs E o w i)
def oServed (E : Mem) (o : Nat → Nat) (w i : Nat) : Nat := vServed E (o i) (oMin E o w i) (rs E o w i)
def oIced (E : Mem) (o : Nat → Nat) (w i : Nat) : Nat := vIced E w (o i) i (oMin E o w i) (rs E o w i)
def oCold (E : Mem) (o : Nat → Nat) (w i : Nat) : Nat := vCold E (o i) (oMin E o w i) (rs E o w i)
def oStand (E : Mem) (o : Nat → Nat) (w i : Nat) : Nat := vStand E (o i) (oMin E o w i) (rs E o w i)
def oMiss (E : Mem) (o : Nat → Nat) (w i : Nat) : Nat := vMiss E (o i) (oMin E o w i) (rs E o w i)
def oBunl (E : Mem) (o : Nat → Nat) (w i : Nat) : Nat := vBunl E w (o i) i (oMin E o w i) (rs E o w i)
def sumTo (f : Nat → Nat) : Nat → Nat
  | 0 => 0
  | k + 1 => sumTo f k + f k
/-- TOTALS by their numbers -/
def Tot (E : Mem) (o : Nat → Nat) (w k : Nat) : Nat :=
  if k = 0 then (rs E o w (E 0 0)).1
  else if k = 1 then sumTo (oServed E o w) (E 0 0)
  else if k = 2 then sumTo (oMiss E o w) (E 0 0)
  else if k = 3 then sumTo (oCold E o w) (E 0 0)
  else if k = 4 then sumTo (oIced E o w) (E 0 0)
  else if k = 5 then sumTo (oBunl E o w) (E 0 0)
  else if k = 6 then sumTo (oStand E o w) (E 0 0)
  else (rs E o w (E 0 0)).1 + 2 * sumTo (oCold E o w) (E 0 0) + 3 * sumTo (oBunl E o w) (E 0 0) + 4 * sumTo (oMiss E o w) (E 0 0)
/-- a house is as it must be -/
def EI (E : Mem) : Prop := E 0 0 ≤ 6 ∧ (∀ f, f < E 0 0 → E 1 f ≤ 5 ∧ E 2 f ≤ 9 ∧ 1 ≤ E 3 f ∧ E 3 f ≤ 20 ∧ E 4 f ≤ 9) ∧ ∀ k, k < 10 → E 6 k ≤ mostN k
def OI (E : Mem) (o : Nat → Nat) : Prop := ∀ i, i < E 0 0 → o i < E 0 0
/-- what holds of the round so far -/
def SB (i : Nat) (s : RS) : Prop := s.1 ≤ 60 * i ∧ s.2.2.2.1 ≤ s.1 ∧ s.2.1 ≤ 40 ∧ s.2.2.1 ≤ 99 ∧ s.2.2.2.2.1 ≤ 60 ∧ s.2.2.2.2.2 ≤ 120
theorem dist_le {a b : Nat} (ha : a ≤ 9) (hb : b ≤ 9) : dist a b ≤ 9 := by unfold dist; split <;> omega
theorem tGoes_le {g l a b : Nat} (hl : l ≤ 9) (ha : a ≤ 9) (hb : b ≤ 9) : tGoes g l a b ≤ 27 := by
  have := dist_le ha hb
  unfold tGoes
  split
  · omega
  · split <;> omega
theorem tComes_le {k p m : Nat} (hp : p ≤ 20) : tComes k p m ≤ 20 := by unfold tComes; (repeat' split) <;> omega
theorem tServes_le {k c n : Nat} (hn : n ≤ 20) (hc : c ≤ 9) : tServes k c n ≤ 21 := by unfold tServes; (repeat' split) <;> omega
theorem EI.set {E : Mem} (h : EI E) : E 6 0 ≤ 40 ∧ E 6 1 ≤ 99 ∧ E 6 2 ≤ 60 ∧ E 6 3 ≤ 60 ∧ E 6 4 ≤ 60 ∧ E 6 5 ≤ 9 ∧ E 6 6 ≤ 1 ∧ E 6 7 ≤ 9 ∧ E 6 8 ≤ 2 ∧ E 6 9 ≤ 20 :=
  ⟨h.2.2 0 (by decide), h.2.2 1 (by decide), h.2.2 2 (by decide), h.2.2 3 (by decide), h.2.2 4 (by decide), h.2.2 5 (by decide), h.2.2 6 (by decide), h.2.2 7 (by decide), h.2.2 8 (by decide), h.2.2 9 (by decide)⟩
theorem vFrom_le {E : Mem} {o : Nat → Nat} {i : Nat} (h : EI E) (ho : OI E o) (hi : i < E 0 0) : vFrom E o i ≤ 9 := by
  unfold vFrom
  split
  · exact h.set.2.2.2.2.2.1
  · exact (h.2.1 _ (ho (i - 1) (by omega))).2.1
theorem vMin_b {E : Mem} {o : Nat → Nat} {i : Nat} {s : RS} (h : EI E) (ho : OI E o) (hi : i < E 0 0) (hs : SB i s) : vMin E o i s ≤ 60 * i + 27 ∧ s.1 ≤ vMin E o i s := by
  have h1 := tGoes_le (g := E 6 6) h.set.2.2.2.2.2.2.2.1 (vFrom_le h ho hi) (h.2.1 _ (ho i hi)).2.1
  have h2 := hs.1
  unfold vMin
  omega
/-- what holds in a visit -/
theorem v_b {E : Mem} {f c : Nat} {s : RS} {i : Nat} (h : EI E) (hf : f < E 0 0) (hs : SB i s) (h1 : s.1 ≤ c) : vCome E f c ≤ 20 ∧ vServed E f c s ≤ vCome E f c ∧ vServed E f c s ≤ vCups E f c s ∧ vCups E f c s ≤ 40 ∧ vDeg c s ≤ 99 ∧ vWarm E f c s ≤ 99 ∧ vBase E f c s ≤ 99 ∧ vSince E f c s ≤ vClk E f c s ∧ c ≤ vClk E f c s ∧ vClk E f c s ≤ c + 11 := by
  obtain ⟨b1, b2, b3, b4, b5, b6⟩ := hs
  have hc : vCome E f c ≤ 20 := tComes_le (h.2.1 f hf).2.2.2.1
  have hd : vDeg c s ≤ 99 := by unfold vDeg; omega
  refine ⟨hc, Nat.min_le_left _ _, Nat.min_le_right _ _, ?_, hd, ?_, ?_, ?_, ?_, ?_⟩
  · unfold vCups; (repeat' split) <;> omega
  · unfold vWarm; (repeat' split) <;> omega
  · unfold vBase; (repeat' split) <;> omega
  · unfold vSince vClk; (repeat' split) <;> omega
  · unfold vClk; (repeat' split) <;> omega
  · unfold vClk; (repeat' split) <;> omega
theorem vNext_b {E : Mem} {o : Nat → Nat} {w i : Nat} {s : RS} (h : EI E) (ho : OI E o) (hi : i < E 0 0) (hs : SB i s) : SB (i + 1) (vNext E w (o i) i (vMin E o i s) s) := by
  obtain ⟨m1, m2⟩ := vMin_b h ho hi hs
  obtain ⟨a1, a2, a3, a4, a5, a6, a7, a8, a9, a10⟩ := v_b h (ho i hi) hs m2
  have hsv : tServes (E 1 (o i)) (E 4 (o i)) (vServed E (o i) (vMin E o i s) s) ≤ 21 := tServes_le (by omega) (h.2.1 _ (ho i hi)).2.2.2.2
  obtain ⟨b1, b2, b3, b4, b5, b6⟩ := hs
  refine ⟨?_, ?_, ?_, ?_, ?_, ?_⟩ <;> simp only [vNext] <;> omega
theorem rs_b {E : Mem} {o : Nat → Nat} {w : Nat} (h : EI E) (ho : OI E o) : ∀ i, i ≤ E 0 0 → SB i (rs E o w i)
  | 0, _ => by
    have := h.set
    refine ⟨?_, ?_, ?_, ?_, ?_, ?_⟩ <;> simp only [rs] <;> omega
  | i + 1, hi => vNext_b h ho (by omega) (rs_b h ho i (by omega))
