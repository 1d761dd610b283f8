-- THE ROUND'S OWN MEMORY, row by row
def u1 (f : Nat → Nat) (i v : Nat) : Nat → Nat := fun k => if k = i then v else f k
theorem u1_at {f : Nat → Nat} {i v : Nat} : u1 f i v i = v := by simp [u1]
theorem u1_ne {f : Nat → Nat} {i v k : Nat} (h : k ≠ i) : u1 f i v k = f k := by simp [u1, h]
def TT (t0 t1 t2 t3 t4 t5 t6 t7 : Nat) (r : Nat → Nat) : Nat → Nat := fun k => if k = 0 then t0 else if k = 1 then t1 else if k = 2 then t2 else if k = 3 then t3 else if k = 4 then t4 else if k = 5 then t5 else if k = 6 then t6 else if k = 7 then t7 else r k
def RM (μ0 : Mem) (c7 c8 c9 c10 c11 c12 c13 : Nat) (t mi wa se ic co sd : Nat → Nat) : Mem := fun q => if q = 22 then (fun k => if k = 7 then c7 else if k = 8 then c8 else if k = 9 then c9 else if k = 10 then c10 else if k = 11 then c11 else if k = 12 then c12 else if k = 13 then c13 else μ0 22 k) else if q = 23 then t else if q = 24 then mi else if q = 25 then wa else if q = 26 then se else if q = 27 then ic else if q = 28 then co else if q = 29 then sd else μ0 q
theorem RM_self {μ : Mem} : μ = RM μ (μ 22 7) (μ 22 8) (μ 22 9) (μ 22 10) (μ 22 11) (μ 22 12) (μ 22 13) (μ 23) (μ 24) (μ 25) (μ 26) (μ 27) (μ 28) (μ 29) := by
  funext q i
  by_cases h : q = 22
  · subst h
    simp only [RM, if_pos]
    (repeat' split) <;> first | rfl | (rename_i h; rw [h])
  · simp only [RM, if_neg h]
    (repeat' split) <;> first | rfl | (rename_i h; rw [h])
theorem RM_off {μ0 : Mem} {c7 c8 c9 c10 c11 c12 c13 : Nat} {t mi wa se ic co sd : Nat → Nat} {q : Nat} (h : q < 22 ∨ 29 < q) : (RM μ0 c7 c8 c9 c10 c11 c12 c13 t mi wa se ic co sd) q = μ0 q := by
  simp only [RM]
  rw [if_neg (by omega), if_neg (by omega), if_neg (by omega), if_neg (by omega), if_neg (by omega), if_neg (by omega), if_neg (by omega), if_neg (by omega)]
theorem up_R7 {μ0 : Mem} {c7 c8 c9 c10 c11 c12 c13 : Nat} {t mi wa se ic co sd : Nat → Nat} {v : Nat} : up (RM μ0 c7 c8 c9 c10 c11 c12 c13 t mi wa se ic co sd) 22 7 v = (RM μ0 v c8 c9 c10 c11 c12 c13 t mi wa se ic co sd) := by
  funext q i
  by_cases h : q = 22
  · subst h
    by_cases h2 : i = 7
    · subst h2; rfl
    · simp [up, RM, h2]
  · simp [up, RM, h]
theorem up_R8 {μ0 : Mem} {c7 c8 c9 c10 c11 c12 c13 : Nat} {t mi wa se ic co sd : Nat → Nat} {v : Nat} : up (RM μ0 c7 c8 c9 c10 c11 c12 c13 t mi wa se ic co sd) 22 8 v = (RM μ0 c7 v c9 c10 c11 c12 c13 t mi wa se ic co sd) := by
  funext q i
  by_cases h : q = 22
  · subst h
    by_cases h2 : i = 8
    · subst h2; rfl
    · simp [up, RM, h2]
  · simp [up, RM, h]
theorem up_R9 {μ0 : Mem} {c7 c8 c9 c10 c11 c12 c13 : Nat} {t mi wa se ic co sd : Nat → Nat} {v : Nat} : up (RM μ0 c7 c8 c9 c10 c11 c12 c13 t mi wa se ic co sd) 22 9 v = (RM μ0 c7 c8 v c10 c11 c12 c13 t mi wa se ic co sd) := by
  funext q i
  by_cases h : q = 22
  · subst h
    by_cases h2 : i = 9
    · subst h2; rfl
    · simp [up, RM, h2]
  · simp [up, RM, h]
theorem up_R10 {μ0 : Mem} {c7 c8 c9 c10 c11 c12 c13 : Nat} {t mi wa se ic co sd : Nat → Nat} {v : Nat} : up (RM μ0 c7 c8 c9 c10 c11 c12 c13 t mi wa se ic co sd) 22 10 v = (RM μ0 c7 c8 c9 v c11 c12 c13 t mi wa se ic co sd) := by
  funext q i
  by_cases h : q = 22
  · subst h
    by_cases h2 : i = 10
    · subst h2; rfl
    · simp [up, RM, h2]
  · simp [up, RM, h]
theorem up_R11 {μ0 : Mem} {c7 c8 c9 c10 c11 c12 c13 : Nat} {t mi wa se ic co sd : Nat → Nat} {v : Nat} : up (RM μ0 c7 c8 c9 c10 c11 c12 c13 t mi wa se ic co sd) 22 11 v = (RM μ0 c7 c8 c9 c10 v c12 c13 t mi wa se ic co sd) := by
  funext q i
  by_cases h : q = 22
  · subst h
    by_cases h2 : i = 11
    · subst h2; rfl
    · simp [up, RM, h2]
  · simp [up, RM, h]
theorem up_R12 {μ0 : Mem} {c7 c8 c9 c10 c11 c12 c13 : Nat} {t mi wa se ic co sd : Nat → Nat} {v : Nat} : up (RM μ0 c7 c8 c9 c10 c11 c12 c13 t mi wa se ic co sd) 22 12 v = (RM μ0 c7 c8 c9 c10 c11 v c13 t mi wa se ic co sd) := by
  funext q i
  by_cases h : q = 22
  · subst h
    by_cases h2 : i = 12
    · subst h2; rfl
    · simp [up, RM, h2]
  · simp [up, RM, h]
theorem up_R13 {μ0 : Mem} {c7 c8 c9 c10 c11 c12 c13 : Nat} {t mi wa se ic co sd : Nat → Nat} {v : Nat} : up (RM μ0 c7 c8 c9 c10 c11 c12 c13 t mi wa se ic co sd) 22 13 v = (RM μ0 c7 c8 c9 c10 c11 c12 v t mi wa se ic co sd) := by
  funext q i
  by_cases h : q = 22
  · subst h
    by_cases h2 : i = 13
    · subst h2; rfl
    · simp [up, RM, h2]
  · simp [up, RM, h]
theorem up_R23 {μ0 : Mem} {c7 c8 c9 c10 c11 c12 c13 : Nat} {t mi wa se ic co sd : Nat → Nat} {i v : Nat} : up (RM μ0 c7 c8 c9 c10 c11 c12 c13 t mi wa se ic co sd) 23 i v = (RM μ0 c7 c8 c9 c10 c11 c12 c13 (u1 t i v) mi wa se ic co sd) := by
  funext q j
  by_cases h : q = 23
  · subst h
    by_cases h2 : j = i
    · subst h2; simp [up, RM, u1]
    · simp [up, RM, u1, h2]
  · simp [up, RM, u1, h]
theorem up_R24 {μ0 : Mem} {c7 c8 c9 c10 c11 c12 c13 : Nat} {t mi wa se ic co sd : Nat → Nat} {i v : Nat} : up (RM μ0 c7 c8 c9 c10 c11 c12 c13 t mi wa se ic co sd) 24 i v = (RM μ0 c7 c8 c9 c10 c11 c12 c13 t (u1 mi i v) wa se ic co sd) := by
  funext q j
  by_cases h : q = 24
  · subst h
    by_cases h2 : j = i
    · subst h2; simp [up, RM, u1]
    · simp [up, RM, u1, h2]
  · simp [up, RM, u1, h]
theorem up_R25 {μ0 : Mem} {c7 c8 c9 c10 c11 c12 c13 : Nat} {t mi wa se ic co sd : Nat → Nat} {i v : Nat} : up (RM μ0 c7 c8 c9 c10 c11 c12 c13 t mi wa se ic co sd) 25 i v = (RM μ0 c7 c8 c9 c10 c11 c12 c13 t mi (u1 wa i v) se ic co sd) := by
  funext q j
  by_cases h : q = 25
  · subst h
    by_cases h2 : j = i
    · subst h2; simp [up, RM, u1]
    · simp [up, RM, u1, h2]
  · simp [up, RM, u1, h]
theorem up_R26 {μ0 : Mem} {c7 c8 c9 c10 c11 c12 c13 : Nat} {t mi wa se ic co sd : Nat → Nat} {i v : Nat} : up (RM μ0 c7 c8 c9 c10 c11 c12 c13 t mi wa se ic co sd) 26 i v = (RM μ0 c7 c8 c9 c10 c11 c12 c13 t mi wa (u1 se i v) ic co sd) := by
  funext q j
  by_cases h : q = 26
  · subst h
    by_cases h2 : j = i
    · subst h2; simp [up, RM, u1]
    · simp [up, RM, u1, h2]
  · simp [up, RM, u1, h]
theorem up_R27 {μ0 : Mem} {c7 c8 c9 c10 c11 c12 c13 : Nat} {t mi wa se ic co sd : Nat → Nat} {i v : Nat} : up (RM μ0 c7 c8 c9 c10 c11 c12 c13 t mi wa se ic co sd) 27 i v = (RM μ0 c7 c8 c9 c10 c11 c12 c13 t mi wa se (u1 ic i v) co sd) := by
  funext q j
  by_cases h : q = 27
  · subst h
    by_cases h2 : j = i
    · subst h2; simp [up, RM, u1]
    · simp [up, RM, u1, h2]
  · simp [up, RM, u1, h]
theorem up_R28 {μ0 : Mem} {c7 c8 c9 c10 c11 c12 c13 : Nat} {t mi wa se ic co sd : Nat → Nat} {i v : Nat} : up (RM μ0 c7 c8 c9 c10 c11 c12 c13 t mi wa se ic co sd) 28 i v = (RM μ0 c7 c8 c9 c10 c11 c12 c13 t mi wa se ic (u1 co i v) sd) := by
  funext q j
  by_cases h : q = 28
  · subst h
    by_cases h2 : j = i
    · subst h2; simp [up, RM, u1]
    · simp [up, RM, u1, h2]
  · simp [up, RM, u1, h]
theorem up_R29 {μ0 : Mem} {c7 c8 c9 c10 c11 c12 c13 : Nat} {t mi wa se ic co sd : Nat → Nat} {i v : Nat} : up (RM μ0 c7 c8 c9 c10 c11 c12 c13 t mi wa se ic co sd) 29 i v = (RM μ0 c7 c8 c9 c10 c11 c12 c13 t mi wa se ic co (u1 sd i v)) := by
  funext q j
  by_cases h : q = 29
  · subst h
    by_cases h2 : j = i
    · subst h2; simp [up, RM, u1]
    · simp [up, RM, u1, h2]
  · simp [up, RM, u1, h]
theorem u1_T0 {t0 t1 t2 t3 t4 t5 t6 t7 v : Nat} {r : Nat → Nat} : u1 (TT t0 t1 t2 t3 t4 t5 t6 t7 r) 0 v = TT v t1 t2 t3 t4 t5 t6 t7 r := by
  funext j
  by_cases h : j = 0
  · subst h; rfl
  · simp [u1, TT, h]
theorem u1_T1 {t0 t1 t2 t3 t4 t5 t6 t7 v : Nat} {r : Nat → Nat} : u1 (TT t0 t1 t2 t3 t4 t5 t6 t7 r) 1 v = TT t0 v t2 t3 t4 t5 t6 t7 r := by
  funext j
  by_cases h : j = 1
  · subst h; rfl
  · simp [u1, TT, h]
theorem u1_T2 {t0 t1 t2 t3 t4 t5 t6 t7 v : Nat} {r : Nat → Nat} : u1 (TT t0 t1 t2 t3 t4 t5 t6 t7 r) 2 v = TT t0 t1 v t3 t4 t5 t6 t7 r := by
  funext j
  by_cases h : j = 2
  · subst h; rfl
  · simp [u1, TT, h]
theorem u1_T3 {t0 t1 t2 t3 t4 t5 t6 t7 v : Nat} {r : Nat → Nat} : u1 (TT t0 t1 t2 t3 t4 t5 t6 t7 r) 3 v = TT t0 t1 t2 v t4 t5 t6 t7 r := by
  funext j
  by_cases h : j = 3
  · subst h; rfl
  · simp [u1, TT, h]
theorem u1_T4 {t0 t1 t2 t3 t4 t5 t6 t7 v : Nat} {r : Nat → Nat} : u1 (TT t0 t1 t2 t3 t4 t5 t6 t7 r) 4 v = TT t0 t1 t2 t3 v t5 t6 t7 r := by
  funext j
  by_cases h : j = 4
  · subst h; rfl
  · simp [u1, TT, h]
theorem u1_T5 {t0 t1 t2 t3 t4 t5 t6 t7 v : Nat} {r : Nat → Nat} : u1 (TT t0 t1 t2 t3 t4 t5 t6 t7 r) 5 v = TT t0 t1 t2 t3 t4 v t6 t7 r := by
  funext j
  by_cases h : j = 5
  · subst h; rfl
  · simp [u1, TT, h]
theorem u1_T6 {t0 t1 t2 t3 t4 t5 t6 t7 v : Nat} {r : Nat → Nat} : u1 (TT t0 t1 t2 t3 t4 t5 t6 t7 r) 6 v = TT t0 t1 t2 t3 t4 t5 v t7 r := by
  funext j
  by_cases h : j = 6
  · subst h; rfl
  · simp [u1, TT, h]
theorem u1_T7 {t0 t1 t2 t3 t4 t5 t6 t7 v : Nat} {r : Nat → Nat} : u1 (TT t0 t1 t2 t3 t4 t5 t6 t7 r) 7 v = TT t0 t1 t2 t3 t4 t5 t6 v r := by
  funext j
  by_cases h : j = 7
  · subst h; rfl
  · simp [u1, TT, h]
section JRM
variable {G : GX} {X : XC} {own : String} {cc : ByteArray} {d pc : Nat} {lv : List (Option Value)} {st : List Value}
theorem g3_7R {ix : Nat} {μ0 : Mem} {c7 c8 c9 c10 c11 c12 c13 : Nat} {t mi wa se ic co sd : Nat → Nat} (C : Cx G X own cc d) (hd : decode cc pc = .ok (.getfield ix, 3)) (hlk : Cond.fieldLink own ix "TrolleyAtEleven$Round" "clock" "I" ∈ WS) (k : J G X (pc + 3) lv (.int (nI c7) :: st) (RM μ0 c7 c8 c9 c10 c11 c12 c13 t mi wa se ic co sd)) : J G X pc lv (rf G 22 :: st) (RM μ0 c7 c8 c9 c10 c11 c12 c13 t mi wa se ic co sd) :=
  g3_7 C hd hlk k
theorem p3_7R {ix v : Nat} {μ0 : Mem} {c7 c8 c9 c10 c11 c12 c13 : Nat} {t mi wa se ic co sd : Nat → Nat} (C : Cx G X own cc d) (hd : decode cc pc = .ok (.putfield ix, 3)) (hlk : Cond.fieldLink own ix "TrolleyAtEleven$Round" "clock" "I" ∈ WS) (k : J G X (pc + 3) lv st (RM μ0 v c8 c9 c10 c11 c12 c13 t mi wa se ic co sd)) : J G X pc lv (.int (nI v) :: rf G 22 :: st) (RM μ0 c7 c8 c9 c10 c11 c12 c13 t mi wa se ic co sd) :=
  p3_7 C hd hlk (J.mem up_R7 k)
theorem g3_8R {ix : Nat} {μ0 : Mem} {c7 c8 c9 c10 c11 c12 c13 : Nat} {t mi wa se ic co sd : Nat → Nat} (C : Cx G X own cc d) (hd : decode cc pc = .ok (.getfield ix, 3)) (hlk : Cond.fieldLink own ix "TrolleyAtEleven$Round" "cups" "I" ∈ WS) (k : J G X (pc + 3) lv (.int (nI c8) :: st) (RM μ0 c7 c8 c9 c10 c11 c12 c13 t mi wa se ic co sd)) : J G X pc lv (rf G 22 :: st) (RM μ0 c7 c8 c9 c10 c11 c12 c13 t mi wa se ic co sd) :=
  g3_8 C hd hlk k
theorem p3_8R {ix v : Nat} {μ0 : Mem} {c7 c8 c9 c10 c11 c12 c13 : Nat} {t mi wa se ic co sd : Nat → Nat} (C : Cx G X own cc d) (hd : decode cc pc = .ok (.putfield ix, 3)) (hlk : Cond.fieldLink own ix "TrolleyAtEleven$Round" "cups" "I" ∈ WS) (k : J G X (pc + 3) lv st (RM μ0 c7 v c9 c10 c11 c12 c13 t mi wa se ic co sd)) : J G X pc lv (.int (nI v) :: rf G 22 :: st) (RM μ0 c7 c8 c9 c10 c11 c12 c13 t mi wa se ic co sd) :=
  p3_8 C hd hlk (J.mem up_R8 k)
theorem g3_9R {ix : Nat} {μ0 : Mem} {c7 c8 c9 c10 c11 c12 c13 : Nat} {t mi wa se ic co sd : Nat → Nat} (C : Cx G X own cc d) (hd : decode cc pc = .ok (.getfield ix, 3)) (hlk : Cond.fieldLink own ix "TrolleyAtEleven$Round" "warmWhenFilled" "I" ∈ WS) (k : J G X (pc + 3) lv (.int (nI c9) :: st) (RM μ0 c7 c8 c9 c10 c11 c12 c13 t mi wa se ic co sd)) : J G X pc lv (rf G 22 :: st) (RM μ0 c7 c8 c9 c10 c11 c12 c13 t mi wa se ic co sd) :=
  g3_9 C hd hlk k
theorem p3_9R {ix v : Nat} {μ0 : Mem} {c7 c8 c9 c10 c11 c12 c13 : Nat} {t mi wa se ic co sd : Nat → Nat} (C : Cx G X own cc d) (hd : decode cc pc = .ok (.putfield ix, 3)) (hlk : Cond.fieldLink own ix "TrolleyAtEleven$Round" "warmWhenFilled" "I" ∈ WS) (k : J G X (pc + 3) lv st (RM μ0 c7 c8 v c10 c11 c12 c13 t mi wa se ic co sd)) : J G X pc lv (.int (nI v) :: rf G 22 :: st) (RM μ0 c7 c8 c9 c10 c11 c12 c13 t mi wa se ic co sd) :=
  p3_9 C hd hlk (J.mem up_R9 k)
theorem g3_10R {ix : Nat} {μ0 : Mem} {c7 c8 c9 c10 c11 c12 c13 : Nat} {t mi wa se ic co sd : Nat → Nat} (C : Cx G X own cc d) (hd : decode cc pc = .ok (.getfield ix, 3)) (hlk : Cond.fieldLink own ix "TrolleyAtEleven$Round" "filledAt" "I" ∈ WS) (k : J G X (pc + 3) lv (.int (nI c10) :: st) (RM μ0 c7 c8 c9 c10 c11 c12 c13 t mi wa se ic co sd)) : J G X pc lv (rf G 22 :: st) (RM μ0 c7 c8 c9 c10 c11 c12 c13 t mi wa se ic co sd) :=
  g3_10 C hd hlk k
theorem p3_10R {ix v : Nat} {μ0 : Mem} {c7 c8 c9 c10 c11 c12 c13 : Nat} {t mi wa se ic co sd : Nat → Nat} (C : Cx G X own cc d) (hd : decode cc pc = .ok (.putfield ix, 3)) (hlk : Cond.fieldLink own ix "TrolleyAtEleven$Round" "filledAt" "I" ∈ WS) (k : J G X (pc + 3) lv st (RM μ0 c7 c8 c9 v c11 c12 c13 t mi wa se ic co sd)) : J G X pc lv (.int (nI v) :: rf G 22 :: st) (RM μ0 c7 c8 c9 c10 c11 c12 c13 t mi wa se ic co sd) :=
  p3_10 C hd hlk (J.mem up_R10 k)
theorem g3_11R {ix : Nat} {μ0 : Mem} {c7 c8 c9 c10 c11 c12 c13 : Nat} {t mi wa se ic co sd : Nat → Nat} (C : Cx G X own cc d) (hd : decode cc pc = .ok (.getfield ix, 3)) (hlk : Cond.fieldLink own ix "TrolleyAtEleven$Round" "icedLeft" "I" ∈ WS) (k : J G X (pc + 3) lv (.int (nI c11) :: st) (RM μ0 c7 c8 c9 c10 c11 c12 c13 t mi wa se ic co sd)) : J G X pc lv (rf G 22 :: st) (RM μ0 c7 c8 c9 c10 c11 c12 c13 t mi wa se ic co sd) :=
  g3_11 C hd hlk k
theorem p3_11R {ix v : Nat} {μ0 : Mem} {c7 c8 c9 c10 c11 c12 c13 : Nat} {t mi wa se ic co sd : Nat → Nat} (C : Cx G X own cc d) (hd : decode cc pc = .ok (.putfield ix, 3)) (hlk : Cond.fieldLink own ix "TrolleyAtEleven$Round" "icedLeft" "I" ∈ WS) (k : J G X (pc + 3) lv st (RM μ0 c7 c8 c9 c10 v c12 c13 t mi wa se ic co sd)) : J G X pc lv (.int (nI v) :: rf G 22 :: st) (RM μ0 c7 c8 c9 c10 c11 c12 c13 t mi wa se ic co sd) :=
  p3_11 C hd hlk (J.mem up_R11 k)
theorem g3_12R {ix : Nat} {μ0 : Mem} {c7 c8 c9 c10 c11 c12 c13 : Nat} {t mi wa se ic co sd : Nat → Nat} (C : Cx G X own cc d) (hd : decode cc pc = .ok (.getfield ix, 3)) (hlk : Cond.fieldLink own ix "TrolleyAtEleven$Round" "othersLeft" "I" ∈ WS) (k : J G X (pc + 3) lv (.int (nI c12) :: st) (RM μ0 c7 c8 c9 c10 c11 c12 c13 t mi wa se ic co sd)) : J G X pc lv (rf G 22 :: st) (RM μ0 c7 c8 c9 c10 c11 c12 c13 t mi wa se ic co sd) :=
  g3_12 C hd hlk k
theorem p3_12R {ix v : Nat} {μ0 : Mem} {c7 c8 c9 c10 c11 c12 c13 : Nat} {t mi wa se ic co sd : Nat → Nat} (C : Cx G X own cc d) (hd : decode cc pc = .ok (.putfield ix, 3)) (hlk : Cond.fieldLink own ix "TrolleyAtEleven$Round" "othersLeft" "I" ∈ WS) (k : J G X (pc + 3) lv st (RM μ0 c7 c8 c9 c10 c11 v c13 t mi wa se ic co sd)) : J G X pc lv (.int (nI v) :: rf G 22 :: st) (RM μ0 c7 c8 c9 c10 c11 c12 c13 t mi wa se ic co sd) :=
  p3_12 C hd hlk (J.mem up_R12 k)
theorem g3_13R {ix : Nat} {μ0 : Mem} {c7 c8 c9 c10 c11 c12 c13 : Nat} {t mi wa se ic co sd : Nat → Nat} (C : Cx G X own cc d) (hd : decode cc pc = .ok (.getfield ix, 3)) (hlk : Cond.fieldLink own ix "TrolleyAtEleven$Round" "oneBunEach" "Z" ∈ WS) (k : J G X (pc + 3) lv (.int (nI c13) :: st) (RM μ0 c7 c8 c9 c10 c11 c12 c13 t mi wa se ic co sd)) : J G X pc lv (rf G 22 :: st) (RM μ0 c7 c8 c9 c10 c11 c12 c13 t mi wa se ic co sd) :=
  g3_13 C hd hlk k
theorem p3_13R {ix v : Nat} {μ0 : Mem} {c7 c8 c9 c10 c11 c12 c13 : Nat} {t mi wa se ic co sd : Nat → Nat} (C : Cx G X own cc d) (hd : decode cc pc = .ok (.putfield ix, 3)) (hlk : Cond.fieldLink own ix "TrolleyAtEleven$Round" "oneBunEach" "Z" ∈ WS) (hz : v = 0 ∨ v = 1) (k : J G X (pc + 3) lv st (RM μ0 c7 c8 c9 c10 c11 c12 v t mi wa se ic co sd)) : J G X pc lv (.int (nI v) :: rf G 22 :: st) (RM μ0 c7 c8 c9 c10 c11 c12 c13 t mi wa se ic co sd) :=
  p3_13 C hd hlk hz (J.mem up_R13 k)
theorem ra23 {j : Nat} {μ0 : Mem} {c7 c8 c9 c10 c11 c12 c13 : Nat} {t mi wa se ic co sd : Nat → Nat} (C : Cx G X own cc d) (hd : decode cc pc = .ok (.iaload, 1)) (hj : j < 8) (k : J G X (pc + 1) lv (.int (nI (t j)) :: st) (RM μ0 c7 c8 c9 c10 c11 c12 c13 t mi wa se ic co sd)) : J G X pc lv (.int (nI j) :: rf G 23 :: st) (RM μ0 c7 c8 c9 c10 c11 c12 c13 t mi wa se ic co sd) :=
  j_iald C hd iA_23 hj k
theorem ra23h {j v : Nat} {μ0 : Mem} {c7 c8 c9 c10 c11 c12 c13 : Nat} {t mi wa se ic co sd : Nat → Nat} (C : Cx G X own cc d) (hd : decode cc pc = .ok (.iaload, 1)) (hj : j < 8) (k : J G X (pc + 1) lv (.int (nI v) :: st) (RM μ0 c7 c8 c9 c10 c11 c12 c13 (u1 t j v) mi wa se ic co sd)) : J G X pc lv (.int (nI j) :: rf G 23 :: st) (RM μ0 c7 c8 c9 c10 c11 c12 c13 (u1 t j v) mi wa se ic co sd) :=
  j_iald C hd iA_23 hj (by show J G X (pc + 1) lv (.int (nI (u1 t j v j)) :: st) _; rw [u1_at]; exact k)
theorem rs23 {j v : Nat} {μ0 : Mem} {c7 c8 c9 c10 c11 c12 c13 : Nat} {t mi wa se ic co sd : Nat → Nat} (C : Cx G X own cc d) (hd : decode cc pc = .ok (.iastore, 1)) (hj : j < 8) (k : J G X (pc + 1) lv st (RM μ0 c7 c8 c9 c10 c11 c12 c13 (u1 t j v) mi wa se ic co sd)) : J G X pc lv (.int (nI v) :: .int (nI j) :: rf G 23 :: st) (RM μ0 c7 c8 c9 c10 c11 c12 c13 t mi wa se ic co sd) :=
  j_iast C hd iA_23 hj (J.mem up_R23 k)
theorem ra24 {j : Nat} {μ0 : Mem} {c7 c8 c9 c10 c11 c12 c13 : Nat} {t mi wa se ic co sd : Nat → Nat} (C : Cx G X own cc d) (hd : decode cc pc = .ok (.iaload, 1)) (hj : j < 6) (k : J G X (pc + 1) lv (.int (nI (mi j)) :: st) (RM μ0 c7 c8 c9 c10 c11 c12 c13 t mi wa se ic co sd)) : J G X pc lv (.int (nI j) :: rf G 24 :: st) (RM μ0 c7 c8 c9 c10 c11 c12 c13 t mi wa se ic co sd) :=
  j_iald C hd iA_24 hj k
theorem ra24h {j v : Nat} {μ0 : Mem} {c7 c8 c9 c10 c11 c12 c13 : Nat} {t mi wa se ic co sd : Nat → Nat} (C : Cx G X own cc d) (hd : decode cc pc = .ok (.iaload, 1)) (hj : j < 6) (k : J G X (pc + 1) lv (.int (nI v) :: st) (RM μ0 c7 c8 c9 c10 c11 c12 c13 t (u1 mi j v) wa se ic co sd)) : J G X pc lv (.int (nI j) :: rf G 24 :: st) (RM μ0 c7 c8 c9 c10 c11 c12 c13 t (u1 mi j v) wa se ic co sd) :=
  j_iald C hd iA_24 hj (by show J G X (pc + 1) lv (.int (nI (u1 mi j v j)) :: st) _; rw [u1_at]; exact k)
theorem rs24 {j v : Nat} {μ0 : Mem} {c7 c8 c9 c10 c11 c12 c13 : Nat} {t mi wa se ic co sd : Nat → Nat} (C : Cx G X own cc d) (hd : decode cc pc = .ok (.iastore, 1)) (hj : j < 6) (k : J G X (pc + 1) lv st (RM μ0 c7 c8 c9 c10 c11 c12 c13 t (u1 mi j v) wa se ic co sd)) : J G X pc lv (.int (nI v) :: .int (nI j) :: rf G 24 :: st) (RM μ0 c7 c8 c9 c10 c11 c12 c13 t mi wa se ic co sd) :=
  j_iast C hd iA_24 hj (J.mem up_R24 k)
theorem ra25 {j : Nat} {μ0 : Mem} {c7 c8 c9 c10 c11 c12 c13 : Nat} {t mi wa se ic co sd : Nat → Nat} (C : Cx G X own cc d) (hd : decode cc pc = .ok (.iaload, 1)) (hj : j < 6) (k : J G X (pc + 1) lv (.int (nI (wa j)) :: st) (RM μ0 c7 c8 c9 c10 c11 c12 c13 t mi wa se ic co sd)) : J G X pc lv (.int (nI j) :: rf G 25 :: st) (RM μ0 c7 c8 c9 c10 c11 c12 c13 t mi wa se ic co sd) :=
  j_iald C hd iA_25 hj k
theorem ra25h {j v : Nat} {μ0 : Mem} {c7 c8 c9 c10 c11 c12 c13 : Nat} {t mi wa se ic co sd : Nat → Nat} (C : Cx G X own cc d) (hd : decode cc pc = .ok (.iaload, 1)) (hj : j < 6) (k : J G X (pc + 1) lv (.int (nI v) :: st) (RM μ0 c7 c8 c9 c10 c11 c12 c13 t mi (u1 wa j v) se ic co sd)) : J G X pc lv (.int (nI j) :: rf G 25 :: st) (RM μ0 c7 c8 c9 c10 c11 c12 c13 t mi (u1 wa j v) se ic co sd) :=
  j_iald C hd iA_25 hj (by show J G X (pc + 1) lv (.int (nI (u1 wa j v j)) :: st) _; rw [u1_at]; exact k)
theorem rs25 {j v : Nat} {μ0 : Mem} {c7 c8 c9 c10 c11 c12 c13 : Nat} {t mi wa se ic co sd : Nat → Nat} (C : Cx G X own cc d) (hd : decode cc pc = .ok (.iastore, 1)) (hj : j < 6) (k : J G X (pc + 1) lv st (RM μ0 c7 c8 c9 c10 c11 c12 c13 t mi (u1 wa j v) se ic co sd)) : J G X pc lv (.int (nI v) :: .int (nI j) :: rf G 25 :: st) (RM μ0 c7 c8 c9 c10 c11 c12 c13 t mi wa se ic co sd) :=
  j_iast C hd iA_25 hj (J.mem up_R25 k)
theorem ra26 {j : Nat} {μ0 : Mem} {c7 c8 c9 c10 c11 c12 c13 : Nat} {t mi wa se ic co sd : Nat → Nat} (C : Cx G X own cc d) (hd : decode cc pc = .ok (.iaload, 1)) (hj : j < 6) (k : J G X (pc + 1) lv (.int (nI (se j)) :: st) (RM μ0 c7 c8 c9 c10 c11 c12 c13 t mi wa se ic co sd)) : J G X pc lv (.int (nI j) :: rf G 26 :: st) (RM μ0 c7 c8 c9 c10 c11 c12 c13 t mi wa se ic co sd) :=
  j_iald C hd iA_26 hj k
theorem ra26h {j v : Nat} {μ0 : Mem} {c7 c8 c9 c10 c11 c12 c13 : Nat} {t mi wa se ic co sd : Nat → Nat} (C : Cx G X own cc d) (hd : decode cc pc = .ok (.iaload, 1)) (hj : j < 6) (k : J G X (pc + 1) lv (.int (nI v) :: st) (RM μ0 c7 c8 c9 c10 c11 c12 c13 t mi wa (u1 se j v) ic co sd)) : J G X pc lv (.int (nI j) :: rf G 26 :: st) (RM μ0 c7 c8 c9 c10 c11 c12 c13 t mi wa (u1 se j v) ic co sd) :=
  j_iald C hd iA_26 hj (by show J G X (pc + 1) lv (.int (nI (u1 se j v j)) :: st) _; rw [u1_at]; exact k)
theorem rs26 {j v : Nat} {μ0 : Mem} {c7 c8 c9 c10 c11 c12 c13 : Nat} {t mi wa se ic co sd : Nat → Nat} (C : Cx G X own cc d) (hd : decode cc pc = .ok (.iastore, 1)) (hj : j < 6) (k : J G X (pc + 1) lv st (RM μ0 c7 c8 c9 c10 c11 c12 c13 t mi wa (u1 se j v) ic co sd)) : J G X pc lv (.int (nI v) :: .int (nI j) :: rf G 26 :: st) (RM μ0 c7 c8 c9 c10 c11 c12 c13 t mi wa se ic co sd) :=
  j_iast C hd iA_26 hj (J.mem up_R26 k)
theorem ra27 {j : Nat} {μ0 : Mem} {c7 c8 c9 c10 c11 c12 c13 : Nat} {t mi wa se ic co sd : Nat → Nat} (C : Cx G X own cc d) (hd : decode cc pc = .ok (.iaload, 1)) (hj : j < 6) (k : J G X (pc + 1) lv (.int (nI (ic j)) :: st) (RM μ0 c7 c8 c9 c10 c11 c12 c13 t mi wa se ic co sd)) : J G X pc lv (.int (nI j) :: rf G 27 :: st) (RM μ0 c7 c8 c9 c10 c11 c12 c13 t mi wa se ic co sd) :=
  j_iald C hd iA_27 hj k
theorem ra27h {j v : Nat} {μ0 : Mem} {c7 c8 c9 c10 c11 c12 c13 : Nat} {t mi wa se ic co sd : Nat → Nat} (C : Cx G X own cc d) (hd : decode cc pc = .ok (.iaload, 1)) (hj : j < 6) (k : J G X (pc + 1) lv (.int (nI v) :: st) (RM μ0 c7 c8 c9 c10 c11 c12 c13 t mi wa se (u1 ic j v) co sd)) : J G X pc lv (.int (nI j) :: rf G 27 :: st) (RM μ0 c7 c8 c9 c10 c11 c12 c13 t mi wa se (u1 ic j v) co sd) :=
  j_iald C hd iA_27 hj (by show J G X (pc + 1) lv (.int (nI (u1 ic j v j)) :: st) _; rw [u1_at]; exact k)
theorem rs27 {j v : Nat} {μ0 : Mem} {c7 c8 c9 c10 c11 c12 c13 : Nat} {t mi wa se ic co sd : Nat → Nat} (C : Cx G X own cc d) (hd : decode cc pc = .ok (.iastore, 1)) (hj : j < 6) (k : J G X (pc + 1) lv st (RM μ0 c7 c8 c9 c10 c11 c12 c13 t mi wa se (u1 ic j v) co sd)) : J G X pc lv (.int (nI v) :: .int (nI j) :: rf G 27 :: st) (RM μ0 c7 c8 c9 c10 c11 c12 c13 t mi wa se ic co sd) :=
  j_iast C hd iA_27 hj (J.mem up_R27 k)
theorem ra28 {j : Nat} {μ0 : Mem} {c7 c8 c9 c10 c11 c12 c13 : Nat} {t mi wa se ic co sd : Nat → Nat} (C : Cx G X own cc d) (hd : decode cc pc = .ok (.iaload, 1)) (hj : j < 6) (k : J G X (pc + 1) lv (.int (nI (co j)) :: st) (RM μ0 c7 c8 c9 c10 c11 c12 c13 t mi wa se ic co sd)) : J G X pc lv (.int (nI j) :: rf G 28 :: st) (RM μ0 c7 c8 c9 c10 c11 c12 c13 t mi wa se ic co sd) :=
  j_iald C hd iA_28 hj k
theorem ra28h {j v : Nat} {μ0 : Mem} {c7 c8 c9 c10 c11 c12 c13 : Nat} {t mi wa se ic co sd : Nat → Nat} (C : Cx G X own cc d) (hd : decode cc pc = .ok (.iaload, 1)) (hj : j < 6) (k : J G X (pc + 1) lv (.int (nI v) :: st) (RM μ0 c7 c8 c9 c10 c11 c12 c13 t mi wa se ic (u1 co j v) sd)) : J G X pc lv (.int (nI j) :: rf G 28 :: st) (RM μ0 c7 c8 c9 c10 c11 c12 c13 t mi wa se ic (u1 co j v) sd) :=
  j_iald C hd iA_28 hj (by show J G X (pc + 1) lv (.int (nI (u1 co j v j)) :: st) _; rw [u1_at]; exact k)
theorem rs28 {j v : Nat} {μ0 : Mem} {c7 c8 c9 c10 c11 c12 c13 : Nat} {t mi wa se ic co sd : Nat → Nat} (C : Cx G X own cc d) (hd : decode cc pc = .ok (.iastore, 1)) (hj : j < 6) (k : J G X (pc + 1) lv st (RM μ0 c7 c8 c9 c10 c11 c12 c13 t mi wa se ic (u1 co j v) sd)) : J G X pc lv (.int (nI v) :: .int (nI j) :: rf G 28 :: st) (RM μ0 c7 c8 c9 c10 c11 c12 c13 t mi wa se ic co sd) :=
  j_iast C hd iA_28 hj (J.mem up_R28 k)
theorem ra29 {j : Nat} {μ0 : Mem} {c7 c8 c9 c10 c11 c12 c13 : Nat} {t mi wa se ic co sd : Nat → Nat} (C : Cx G X own cc d) (hd : decode cc pc = .ok (.iaload, 1)) (hj : j < 6) (k : J G X (pc + 1) lv (.int (nI (sd j)) :: st) (RM μ0 c7 c8 c9 c10 c11 c12 c13 t mi wa se ic co sd)) : J G X pc lv (.int (nI j) :: rf G 29 :: st) (RM μ0 c7 c8 c9 c10 c11 c12 c13 t mi wa se ic co sd) :=
  j_iald C hd iA_29 hj k
theorem ra29h {j v : Nat} {μ0 : Mem} {c7 c8 c9 c10 c11 c12 c13 : Nat} {t mi wa se ic co sd : Nat → Nat} (C : Cx G X own cc d) (hd : decode cc pc = .ok (.iaload, 1)) (hj : j < 6) (k : J G X (pc + 1) lv (.int (nI v) :: st) (RM μ0 c7 c8 c9 c10 c11 c12 c13 t mi wa se ic co (u1 sd j v))) : J G X pc lv (.int (nI j) :: rf G 29 :: st) (RM μ0 c7 c8 c9 c10 c11 c12 c13 t mi wa se ic co (u1 sd j v)) :=
  j_iald C hd iA_29 hj (by show J G X (pc + 1) lv (.int (nI (u1 sd j v j)) :: st) _; rw [u1_at]; exact k)
theorem rs29 {j v : Nat} {μ0 : Mem} {c7 c8 c9 c10 c11 c12 c13 : Nat} {t mi wa se ic co sd : Nat → Nat} (C : Cx G X own cc d) (hd : decode cc pc = .ok (.iastore, 1)) (hj : j < 6) (k : J G X (pc + 1) lv st (RM μ0 c7 c8 c9 c10 c11 c12 c13 t mi wa se ic co (u1 sd j v))) : J G X pc lv (.int (nI v) :: .int (nI j) :: rf G 29 :: st) (RM μ0 c7 c8 c9 c10 c11 c12 c13 t mi wa se ic co sd) :=
  j_iast C hd iA_29 hj (J.mem up_R29 k)
theorem ra23_0 {μ0 : Mem} {c7 c8 c9 c10 c11 c12 c13 : Nat} {mi wa se ic co sd : Nat → Nat} {t0 t1 t2 t3 t4 t5 t6 t7 : Nat} {r : Nat → Nat} (C : Cx G X own cc d) (hd : decode cc pc = .ok (.iaload, 1)) (k : J G X (pc + 1) lv (.int (nI t0) :: st) (RM μ0 c7 c8 c9 c10 c11 c12 c13 (TT t0 t1 t2 t3 t4 t5 t6 t7 r) mi wa se ic co sd)) : J G X pc lv (.int (nI 0) :: rf G 23 :: st) (RM μ0 c7 c8 c9 c10 c11 c12 c13 (TT t0 t1 t2 t3 t4 t5 t6 t7 r) mi wa se ic co sd) :=
  j_iald C hd iA_23 (by decide) k
theorem rs23_0 {v : Nat} {μ0 : Mem} {c7 c8 c9 c10 c11 c12 c13 : Nat} {mi wa se ic co sd : Nat → Nat} {t0 t1 t2 t3 t4 t5 t6 t7 : Nat} {r : Nat → Nat} (C : Cx G X own cc d) (hd : decode cc pc = .ok (.iastore, 1)) (k : J G X (pc + 1) lv st (RM μ0 c7 c8 c9 c10 c11 c12 c13 (TT v t1 t2 t3 t4 t5 t6 t7 r) mi wa se ic co sd)) : J G X pc lv (.int (nI v) :: .int (nI 0) :: rf G 23 :: st) (RM μ0 c7 c8 c9 c10 c11 c12 c13 (TT t0 t1 t2 t3 t4 t5 t6 t7 r) mi wa se ic co sd) :=
  j_iast C hd iA_23 (by decide) (J.mem up_R23 (J.mem (by rw [u1_T0]) k))
theorem ra23_1 {μ0 : Mem} {c7 c8 c9 c10 c11 c12 c13 : Nat} {mi wa se ic co sd : Nat → Nat} {t0 t1 t2 t3 t4 t5 t6 t7 : Nat} {r : Nat → Nat} (C : Cx G X own cc d) (hd : decode cc pc = .ok (.iaload, 1)) (k : J G X (pc + 1) lv (.int (nI t1) :: st) (RM μ0 c7 c8 c9 c10 c11 c12 c13 (TT t0 t1 t2 t3 t4 t5 t6 t7 r) mi wa se ic co sd)) : J G X pc lv (.int (nI 1) :: rf G 23 :: st) (RM μ0 c7 c8 c9 c10 c11 c12 c13 (TT t0 t1 t2 t3 t4 t5 t6 t7 r) mi wa se ic co sd) :=
  j_iald C hd iA_23 (by decide) k
theorem rs23_1 {v : Nat} {μ0 : Mem} {c7 c8 c9 c10 c11 c12 c13 : Nat} {mi wa se ic co sd : Nat → Nat} {t0 t1 t2 t3 t4 t5 t6 t7 : Nat} {r : Nat → Nat} (C : Cx G X own cc d) (hd : decode cc pc = .ok (.iastore, 1)) (k : J G X (pc + 1) lv st (RM μ0 c7 c8 c9 c10 c11 c12 c13 (TT t0 v t2 t3 t4 t5 t6 t7 r) mi wa se ic co sd)) : J G X pc lv (.int (nI v) :: .int (nI 1) :: rf G 23 :: st) (RM μ0 c7 c8 c9 c10 c11 c12 c13 (TT t0 t1 t2 t3 t4 t5 t6 t7 r) mi wa se ic co sd) :=
  j_iast C hd iA_23 (by decide) (J.mem up_R23 (J.mem (by rw [u1_T1]) k))
theorem ra23_2 {μ0 : Mem} {c7 c8 c9 c10 c11 c12 c13 : Nat} {mi wa se ic co sd : Nat → Nat} {t0 t1 t2 t3 t4 t5 t6 t7 : Nat} {r : Nat → Nat} (C : Cx G X own cc d) (hd : decode cc pc = .ok (.iaload, 1)) (k : J G X (pc + 1) lv (.int (nI t2) :: st) (RM μ0 c7 c8 c9 c10 c11 c12 c13 (TT t0 t1 t2 t3 t4 t5 t6 t7 r) mi wa se ic co sd)) : J G X pc lv (.int (nI 2) :: rf G 23 :: st) (RM μ0 c7 c8 c9 c10 c11 c12 c13 (TT t0 t1 t2 t3 t4 t5 t6 t7 r) mi wa se ic co sd) :=
  j_iald C hd iA_23 (by decide) k
theorem rs23_2 {v : Nat} {μ0 : Mem} {c7 c8 c9 c10 c11 c12 c13 : Nat} {mi wa se ic co sd : Nat → Nat} {t0 t1 t2 t3 t4 t5 t6 t7 : Nat} {r : Nat → Nat} (C : Cx G X own cc d) (hd : decode cc pc = .ok (.iastore, 1)) (k : J G X (pc + 1) lv st (RM μ0 c7 c8 c9 c10 c11 c12 c13 (TT t0 t1 v t3 t4 t5 t6 t7 r) mi wa se ic co sd)) : J G X pc lv (.int (nI v) :: .int (nI 2) :: rf G 23 :: st) (RM μ0 c7 c8 c9 c10 c11 c12 c13 (TT t0 t1 t2 t3 t4 t5 t6 t7 r) mi wa se ic co sd) :=
  j_iast C hd iA_23 (by decide) (J.mem up_R23 (J.mem (by rw [u1_T2]) k))
theorem ra23_3 {μ0 : Mem} {c7 c8 c9 c10 c11 c12 c13 : Nat} {mi wa se ic co sd : Nat → Nat} {t0 t1 t2 t3 t4 t5 t6 t7 : Nat} {r : Nat → Nat} (C : Cx G X own cc d) (hd : decode cc pc = .ok (.iaload, 1)) (k : J G X (pc + 1) lv (.int (nI t3) :: st) (RM μ0 c7 c8 c9 c10 c11 c12 c13 (TT t0 t1 t2 t3 t4 t5 t6 t7 r) mi wa se ic co sd)) : J G X pc lv (.int (nI 3) :: rf G 23 :: st) (RM μ0 c7 c8 c9 c10 c11 c12 c13 (TT t0 t1 t2 t3 t4 t5 t6 t7 r) mi wa se ic co sd) :=
  j_iald C hd iA_23 (by decide) k
theorem rs23_3 {v : Nat} {μ0 : Mem} {c7 c8 c9 c10 c11 c12 c13 : Nat} {mi wa se ic co sd : Nat → Nat} {t0 t1 t2 t3 t4 t5 t6 t7 : Nat} {r : Nat → Nat} (C : Cx G X own cc d) (hd : decode cc pc = .ok (.iastore, 1)) (k : J G X (pc + 1) lv st (RM μ0 c7 c8 c9 c10 c11 c12 c13 (TT t0 t1 t2 v t4 t5 t6 t7 r) mi wa se ic co sd)) : J G X pc lv (.int (nI v) :: .int (nI 3) :: rf G 23 :: st) (RM μ0 c7 c8 c9 c10 c11 c12 c13 (TT t0 t1 t2 t3 t4 t5 t6 t7 r) mi wa se ic co sd) :=
  j_iast C hd iA_23 (by decide) (J.mem up_R23 (J.mem (by rw [u1_T3]) k))
theorem ra23_4 {μ0 : Mem} {c7 c8 c9 c10 c11 c12 c13 : Nat} {mi wa se ic co sd : Nat → Nat} {t0 t1 t2 t3 t4 t5 t6 t7 : Nat} {r : Nat → Nat} (C : Cx G X own cc d) (hd : decode cc pc = .ok (.iaload, 1)) (k : J G X (pc + 1) lv (.int (nI t4) :: st) (RM μ0 c7 c8 c9 c10 c11 c12 c13 (TT t0 t1 t2 t3 t4 t5 t6 t7 r) mi wa se ic co sd)) : J G X pc lv (.int (nI 4) :: rf G 23 :: st) (RM μ0 c7 c8 c9 c10 c11 c12 c13 (TT t0 t1 t2 t3 t4 t5 t6 t7 r) mi wa se ic co sd) :=
  j_iald C hd iA_23 (by decide) k
theorem rs23_4 {v : Nat} {μ0 : Mem} {c7 c8 c9 c10 c11 c12 c13 : Nat} {mi wa se ic co sd : Nat → Nat} {t0 t1 t2 t3 t4 t5 t6 t7 : Nat} {r : Nat → Nat} (C : Cx G X own cc d) (hd : decode cc pc = .ok (.iastore, 1)) (k : J G X (pc + 1) lv st (RM μ0 c7 c8 c9 c10 c11 c12 c13 (TT t0 t1 t2 t3 v t5 t6 t7 r) mi wa se ic co sd)) : J G X pc lv (.int (nI v) :: .int (nI 4) :: rf G 23 :: st) (RM μ0 c7 c8 c9 c10 c11 c12 c13 (TT t0 t1 t2 t3 t4 t5 t6 t7 r) mi wa se ic co sd) :=
  j_iast C hd iA_23 (by decide) (J.mem up_R23 (J.mem (by rw [u1_T4]) k))
theorem ra23_5 {μ0 : Mem} {c7 c8 c9 c10 c11 c12 c13 : Nat} {mi wa se ic co sd : Nat → Nat} {t0 t1 t2 t3 t4 t5 t6 t7 : Nat} {r : Nat → Nat} (C : Cx G X own cc d) (hd : decode cc pc = .ok (.iaload, 1)) (k : J G X (pc + 1) lv (.int (nI t5) :: st) (RM μ0 c7 c8 c9 c10 c11 c12 c13 (TT t0 t1 t2 t3 t4 t5 t6 t7 r) mi wa se ic co sd)) : J G X pc lv (.int (nI 5) :: rf G 23 :: st) (RM μ0 c7 c8 c9 c10 c11 c12 c13 (TT t0 t1 t2 t3 t4 t5 t6 t7 r) mi wa se ic co sd) :=
  j_iald C hd iA_23 (by decide) k
theorem rs23_5 {v : Nat} {μ0 : Mem} {c7 c8 c9 c10 c11 c12 c13 : Nat} {mi wa se ic co sd : Nat → Nat} {t0 t1 t2 t3 t4 t5 t6 t7 : Nat} {r : Nat → Nat} (C : Cx G X own cc d) (hd : decode cc pc = .ok (.iastore, 1)) (k : J G X (pc + 1) lv st (RM μ0 c7 c8 c9 c10 c11 c12 c13 (TT t0 t1 t2 t3 t4 v t6 t7 r) mi wa se ic co sd)) : J G X pc lv (.int (nI v) :: .int (nI 5) :: rf G 23 :: st) (RM μ0 c7 c8 c9 c10 c11 c12 c13 (TT t0 t1 t2 t3 t4 t5 t6 t7 r) mi wa se ic co sd) :=
  j_iast C hd iA_23 (by decide) (J.mem up_R23 (J.mem (by rw [u1_T5]) k))
theorem ra23_6 {μ0 : Mem} {c7 c8 c9 c10 c11 c12 c13 : Nat} {mi wa se ic co sd : Nat → Nat} {t0 t1 t2 t3 t4 t5 t6 t7 : Nat} {r : Nat → Nat} (C : Cx G X own cc d) (hd : decode cc pc = .ok (.iaload, 1)) (k : J G X (pc + 1) lv (.int (nI t6) :: st) (RM μ0 c7 c8 c9 c10 c11 c12 c13 (TT t0 t1 t2 t3 t4 t5 t6 t7 r) mi wa se ic co sd)) : J G X pc lv (.int (nI 6) :: rf G 23 :: st) (RM μ0 c7 c8 c9 c10 c11 c12 c13 (TT t0 t1 t2 t3 t4 t5 t6 t7 r) mi wa se ic co sd) :=
  j_iald C hd iA_23 (by decide) k
theorem rs23_6 {v : Nat} {μ0 : Mem} {c7 c8 c9 c10 c11 c12 c13 : Nat} {mi wa se ic co sd : Nat → Nat} {t0 t1 t2 t3 t4 t5 t6 t7 : Nat} {r : Nat → Nat} (C : Cx G X own cc d) (hd : decode cc pc = .ok (.iastore, 1)) (k : J G X (pc + 1) lv st (RM μ0 c7 c8 c9 c10 c11 c12 c13 (TT t0 t1 t2 t3 t4 t5 v t7 r) mi wa se ic co sd)) : J G X pc lv (.int (nI v) :: .int (nI 6) :: rf G 23 :: st) (RM μ0 c7 c8 c9 c10 c11 c12 c13 (TT t0 t1 t2 t3 t4 t5 t6 t7 r) mi wa se ic co sd) :=
  j_iast C hd iA_23 (by decide) (J.mem up_R23 (J.mem (by rw [u1_T6]) k))
theorem ra23_7 {μ0 : Mem} {c7 c8 c9 c10 c11 c12 c13 : Nat} {mi wa se ic co sd : Nat → Nat} {t0 t1 t2 t3 t4 t5 t6 t7 : Nat} {r : Nat → Nat} (C : Cx G X own cc d) (hd : decode cc pc = .ok (.iaload, 1)) (k : J G X (pc + 1) lv (.int (nI t7) :: st) (RM μ0 c7 c8 c9 c10 c11 c12 c13 (TT t0 t1 t2 t3 t4 t5 t6 t7 r) mi wa se ic co sd)) : J G X pc lv (.int (nI 7) :: rf G 23 :: st) (RM μ0 c7 c8 c9 c10 c11 c12 c13 (TT t0 t1 t2 t3 t4 t5 t6 t7 r) mi wa se ic co sd) :=
  j_iald C hd iA_23 (by decide) k
theorem rs23_7 {v : Nat} {μ0 : Mem} {c7 c8 c9 c10 c11 c12 c13 : Nat} {mi wa se ic co sd : Nat → Nat} {t0 t1 t2 t3 t4 t5 t6 t7 : Nat} {r : Nat → Nat} (C : Cx G X own cc d) (hd : decode cc pc = .ok (.iastore, 1)) (k : J G X (pc + 1) lv st (RM μ0 c7 c8 c9 c10 c11 c12 c13 (TT t0 t1 t2 t3 t4 t5 t6 v r) mi wa se ic co sd)) : J G X pc lv (.int (nI v) :: .int (nI 7) :: rf G 23 :: st) (RM μ0 c7 c8 c9 c10 c11 c12 c13 (TT t0 t1 t2 t3 t4 t5 t6 t7 r) mi wa se ic co sd) :=
  j_iast C hd iA_23 (by decide) (J.mem up_R23 (J.mem (by rw [u1_T7]) k))
theorem rah {a n j : Nat} {μ0 : Mem} {c7 c8 c9 c10 c11 c12 c13 : Nat} {t mi wa se ic co sd : Nat → Nat} (C : Cx G X own cc d) (hd : decode cc pc = .ok (.iaload, 1)) (ha : isA a n) (hj : j < n) (hq : a < 22 ∨ 29 < a) (k : J G X (pc + 1) lv (.int (nI (μ0 a j)) :: st) (RM μ0 c7 c8 c9 c10 c11 c12 c13 t mi wa se ic co sd)) : J G X pc lv (.int (nI j) :: rf G a :: st) (RM μ0 c7 c8 c9 c10 c11 c12 c13 t mi wa se ic co sd) :=
  j_iald C hd ha hj (by rw [RM_off hq]; exact k)
theorem g0_0R {ix h : Nat} (hh : isH h) {μ0 : Mem} {c7 c8 c9 c10 c11 c12 c13 : Nat} {t mi wa se ic co sd : Nat → Nat} (C : Cx G X own cc d) (hd : decode cc pc = .ok (.getfield ix, 3)) (hlk : Cond.fieldLink own ix "TrolleyAtEleven$House" "floors" "I" ∈ WS) (k : J G X (pc + 3) lv (.int (nI (μ0 h 0)) :: st) (RM μ0 c7 c8 c9 c10 c11 c12 c13 t mi wa se ic co sd)) : J G X pc lv (rf G h :: st) (RM μ0 c7 c8 c9 c10 c11 c12 c13 t mi wa se ic co sd) :=
  g0_0 hh C hd hlk (by rw [RM_off (Or.inl (by have := isH_le hh; omega))]; exact k)
end JRM
def PVe (μ1 : Mem) : PO := fun r μ' => r = none ∧ μ' = μ1
section JCE
variable {G : GX} {X : XC} {own : String} {cc : ByteArray} {d pc : Nat} {lv : List (Option Value)} {st : List Value} {μ : Mem}
theorem cVw0 {md : MD} {d' o ix : Nat} {μ1 : Mem} (C : Cx G X own cc d) (hd : decode cc pc = .ok (.invokevirtual ix, 3)) (hlk : Cond.methodLink own ix md.1 ∈ WS) (hm : MyV md 0) (hE : Ev G md d' [rf G o] μ (PVe μ1)) (hdd : d' + 1 ≤ d) (ho : Rcv G o md.1.cls) (hst : (st.map fun v => v.category).sum ≤ 8) (k : J G X (pc + 3) lv st μ1) : J G X pc lv (rf G o :: st) μ :=
  j_callV (av := []) C hd hlk hm hE hdd rfl ho hst (fun r μ2 h => by obtain ⟨rfl, rfl⟩ := h; exact k)
theorem cVw1 {md : MD} {d' o ix : Nat} {μ1 : Mem} {a0 : Value} (C : Cx G X own cc d) (hd : decode cc pc = .ok (.invokevirtual ix, 3)) (hlk : Cond.methodLink own ix md.1 ∈ WS) (hm : MyV md 1) (hE : Ev G md d' [rf G o, a0] μ (PVe μ1)) (hdd : d' + 1 ≤ d) (ho : Rcv G o md.1.cls) (hst : (st.map fun v => v.category).sum ≤ 8) (k : J G X (pc + 3) lv st μ1) : J G X pc lv (a0 :: rf G o :: st) μ :=
  j_callV (av := [a0]) C hd hlk hm hE hdd rfl ho hst (fun r μ2 h => by obtain ⟨rfl, rfl⟩ := h; exact k)
theorem cVw2 {md : MD} {d' o ix : Nat} {μ1 : Mem} {a0 a1 : Value} (C : Cx G X own cc d) (hd : decode cc pc = .ok (.invokevirtual ix, 3)) (hlk : Cond.methodLink own ix md.1 ∈ WS) (hm : MyV md 2) (hE : Ev G md d' [rf G o, a0, a1] μ (PVe μ1)) (hdd : d' + 1 ≤ d) (ho : Rcv G o md.1.cls) (hst : (st.map fun v => v.category).sum ≤ 8) (k : J G X (pc + 3) lv st μ1) : J G X pc lv (a1 :: a0 :: rf G o :: st) μ :=
  j_callV (av := [a0, a1]) C hd hlk hm hE hdd rfl ho hst (fun r μ2 h => by obtain ⟨rfl, rfl⟩ := h; exact k)
theorem cVw3 {md : MD} {d' o ix : Nat} {μ1 : Mem} {a0 a1 a2 : Value} (C : Cx G X own cc d) (hd : decode cc pc = .ok (.invokevirtual ix, 3)) (hlk : Cond.methodLink own ix md.1 ∈ WS) (hm : MyV md 3) (hE : Ev G md d' [rf G o, a0, a1, a2] μ (PVe μ1)) (hdd : d' + 1 ≤ d) (ho : Rcv G o md.1.cls) (hst : (st.map fun v => v.category).sum ≤ 8) (k : J G X (pc + 3) lv st μ1) : J G X pc lv (a2 :: a1 :: a0 :: rf G o :: st) μ :=
  j_callV (av := [a0, a1, a2]) C hd hlk hm hE hdd rfl ho hst (fun r μ2 h => by obtain ⟨rfl, rfl⟩ := h; exact k)
theorem cVw4 {md : MD} {d' o ix : Nat} {μ1 : Mem} {a0 a1 a2 a3 : Value} (C : Cx G X own cc d) (hd : decode cc pc = .ok (.invokevirtual ix, 3)) (hlk : Cond.methodLink own ix md.1 ∈ WS) (hm : MyV md 4) (hE : Ev G md d' [rf G o, a0, a1, a2, a3] μ (PVe μ1)) (hdd : d' + 1 ≤ d) (ho : Rcv G o md.1.cls) (hst : (st.map fun v => v.category).sum ≤ 8) (k : J G X (pc + 3) lv st μ1) : J G X pc lv (a3 :: a2 :: a1 :: a0 :: rf G o :: st) μ :=
  j_callV (av := [a0, a1, a2, a3]) C hd hlk hm hE hdd rfl ho hst (fun r μ2 h => by obtain ⟨rfl, rfl⟩ := h; exact k)
end JCE
