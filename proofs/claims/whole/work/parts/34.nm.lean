-- THE REFERENCE'S ROUND: its own memory, row by row
def BB (b0 b1 b2 : Nat) (r : Nat → Nat) : Nat → Nat := fun k => if k = 0 then b0 else if k = 1 then b1 else if k = 2 then b2 else r k
def NM (μ0 : Mem) (cm b0 b1 b2 : Nat) (t mi wa se ic sd : Nat → Nat) : Mem := fun q => if q = 38 then (fun k => if k = 14 then cm else μ0 38 k) else if q = 45 then BB b0 b1 b2 (μ0 45) else if q = 46 then t else if q = 47 then mi else if q = 48 then wa else if q = 49 then se else if q = 50 then ic else if q = 51 then sd else μ0 q
theorem NM_self {μ : Mem} : μ = NM μ (μ 38 14) (μ 45 0) (μ 45 1) (μ 45 2) (μ 46) (μ 47) (μ 48) (μ 49) (μ 50) (μ 51) := by
  funext q i
  by_cases h : q = 38
  · subst h
    show _ = (if i = 14 then μ 38 14 else μ 38 i)
    split
    · rename_i h9; rw [h9]
    · rfl
  · by_cases h2 : q = 45
    · subst h2
      show _ = (if i = 0 then μ 45 0 else if i = 1 then μ 45 1 else if i = 2 then μ 45 2 else μ 45 i)
      (repeat' split) <;> first | rfl | (rename_i h9; rw [h9])
    · simp only [NM, if_neg h, if_neg h2]
      (repeat' split) <;> first | rfl | (rename_i h9; rw [h9])
theorem NM_off {μ0 : Mem} {cm b0 b1 b2 : Nat} {t mi wa se ic sd : Nat → Nat} {q : Nat} (h : q < 38 ∨ 51 < q ∨ (38 < q ∧ q < 45)) : (NM μ0 cm b0 b1 b2 t mi wa se ic sd) q = μ0 q := by
  simp only [NM]
  rw [if_neg (by omega), if_neg (by omega), if_neg (by omega), if_neg (by omega), if_neg (by omega), if_neg (by omega), if_neg (by omega), if_neg (by omega)]
theorem NM_38 {μ0 : Mem} {cm b0 b1 b2 : Nat} {t mi wa se ic sd : Nat → Nat} {k : Nat} (h : k ≠ 14) : (NM μ0 cm b0 b1 b2 t mi wa se ic sd) 38 k = μ0 38 k := by
  show (if k = 14 then cm else μ0 38 k) = _
  rw [if_neg h]
theorem up_N14 {μ0 : Mem} {cm b0 b1 b2 : Nat} {t mi wa se ic sd : Nat → Nat} {v : Nat} : up (NM μ0 cm b0 b1 b2 t mi wa se ic sd) 38 14 v = (NM μ0 v b0 b1 b2 t mi wa se ic sd) := by
  funext q i
  by_cases h : q = 38
  · subst h
    by_cases h2 : i = 14
    · subst h2; rfl
    · simp [up, NM, h2]
  · simp [up, NM, h]
theorem up_N45_0 {μ0 : Mem} {cm b0 b1 b2 : Nat} {t mi wa se ic sd : Nat → Nat} {v : Nat} : up (NM μ0 cm b0 b1 b2 t mi wa se ic sd) 45 0 v = (NM μ0 cm v b1 b2 t mi wa se ic sd) := by
  funext q i
  by_cases h : q = 45
  · subst h
    by_cases h2 : i = 0
    · subst h2; rfl
    · simp [up, NM, BB, h2]
  · simp [up, NM, h]
theorem up_N45_1 {μ0 : Mem} {cm b0 b1 b2 : Nat} {t mi wa se ic sd : Nat → Nat} {v : Nat} : up (NM μ0 cm b0 b1 b2 t mi wa se ic sd) 45 1 v = (NM μ0 cm b0 v b2 t mi wa se ic sd) := by
  funext q i
  by_cases h : q = 45
  · subst h
    by_cases h2 : i = 1
    · subst h2; rfl
    · simp [up, NM, BB, h2]
  · simp [up, NM, h]
theorem up_N45_2 {μ0 : Mem} {cm b0 b1 b2 : Nat} {t mi wa se ic sd : Nat → Nat} {v : Nat} : up (NM μ0 cm b0 b1 b2 t mi wa se ic sd) 45 2 v = (NM μ0 cm b0 b1 v t mi wa se ic sd) := by
  funext q i
  by_cases h : q = 45
  · subst h
    by_cases h2 : i = 2
    · subst h2; rfl
    · simp [up, NM, BB, h2]
  · simp [up, NM, h]
theorem up_N46 {μ0 : Mem} {cm b0 b1 b2 : Nat} {t mi wa se ic sd : Nat → Nat} {i v : Nat} : up (NM μ0 cm b0 b1 b2 t mi wa se ic sd) 46 i v = (NM μ0 cm b0 b1 b2 (u1 t i v) mi wa se ic sd) := by
  funext q j
  by_cases h : q = 46
  · subst h
    by_cases h2 : j = i
    · subst h2; simp [up, NM, u1]
    · simp [up, NM, u1, h2]
  · simp [up, NM, u1, h]
theorem up_N47 {μ0 : Mem} {cm b0 b1 b2 : Nat} {t mi wa se ic sd : Nat → Nat} {i v : Nat} : up (NM μ0 cm b0 b1 b2 t mi wa se ic sd) 47 i v = (NM μ0 cm b0 b1 b2 t (u1 mi i v) wa se ic sd) := by
  funext q j
  by_cases h : q = 47
  · subst h
    by_cases h2 : j = i
    · subst h2; simp [up, NM, u1]
    · simp [up, NM, u1, h2]
  · simp [up, NM, u1, h]
theorem up_N48 {μ0 : Mem} {cm b0 b1 b2 : Nat} {t mi wa se ic sd : Nat → Nat} {i v : Nat} : up (NM μ0 cm b0 b1 b2 t mi wa se ic sd) 48 i v = (NM μ0 cm b0 b1 b2 t mi (u1 wa i v) se ic sd) := by
  funext q j
  by_cases h : q = 48
  · subst h
    by_cases h2 : j = i
    · subst h2; simp [up, NM, u1]
    · simp [up, NM, u1, h2]
  · simp [up, NM, u1, h]
theorem up_N49 {μ0 : Mem} {cm b0 b1 b2 : Nat} {t mi wa se ic sd : Nat → Nat} {i v : Nat} : up (NM μ0 cm b0 b1 b2 t mi wa se ic sd) 49 i v = (NM μ0 cm b0 b1 b2 t mi wa (u1 se i v) ic sd) := by
  funext q j
  by_cases h : q = 49
  · subst h
    by_cases h2 : j = i
    · subst h2; simp [up, NM, u1]
    · simp [up, NM, u1, h2]
  · simp [up, NM, u1, h]
theorem up_N50 {μ0 : Mem} {cm b0 b1 b2 : Nat} {t mi wa se ic sd : Nat → Nat} {i v : Nat} : up (NM μ0 cm b0 b1 b2 t mi wa se ic sd) 50 i v = (NM μ0 cm b0 b1 b2 t mi wa se (u1 ic i v) sd) := by
  funext q j
  by_cases h : q = 50
  · subst h
    by_cases h2 : j = i
    · subst h2; simp [up, NM, u1]
    · simp [up, NM, u1, h2]
  · simp [up, NM, u1, h]
theorem up_N51 {μ0 : Mem} {cm b0 b1 b2 : Nat} {t mi wa se ic sd : Nat → Nat} {i v : Nat} : up (NM μ0 cm b0 b1 b2 t mi wa se ic sd) 51 i v = (NM μ0 cm b0 b1 b2 t mi wa se ic (u1 sd i v)) := by
  funext q j
  by_cases h : q = 51
  · subst h
    by_cases h2 : j = i
    · subst h2; simp [up, NM, u1]
    · simp [up, NM, u1, h2]
  · simp [up, NM, u1, h]
theorem u1_u1 {f : Nat → Nat} {i a b : Nat} : u1 (u1 f i a) i b = u1 f i b := by
  funext j
  by_cases h : j = i
  · subst h; rw [u1_at, u1_at]
  · rw [u1_ne h, u1_ne h, u1_ne h]
section JNM
variable {G : GX} {X : XC} {own : String} {cc : ByteArray} {d pc : Nat} {lv : List (Option Value)} {st : List Value}
theorem g5_0N {ix : Nat} {μ0 : Mem} {cm b0 b1 b2 : Nat} {t mi wa se ic sd : Nat → Nat} (C : Cx G X own cc d) (hd : decode cc pc = .ok (.getfield ix, 3)) (hlk : Cond.fieldLink own ix "TrolleyAtElevenModel" "floors" "I" ∈ WS) (k : J G X (pc + 3) lv (.int (nI (μ0 38 0)) :: st) (NM μ0 cm b0 b1 b2 t mi wa se ic sd)) : J G X pc lv (rf G 38 :: st) (NM μ0 cm b0 b1 b2 t mi wa se ic sd) :=
  g5_0 C hd hlk k
theorem g5_15N {ix : Nat} {μ0 : Mem} {cm b0 b1 b2 : Nat} {t mi wa se ic sd : Nat → Nat} (C : Cx G X own cc d) (hd : decode cc pc = .ok (.getfield ix, 3)) (hlk : Cond.fieldLink own ix "TrolleyAtElevenModel" "oneEach" "Z" ∈ WS) (k : J G X (pc + 3) lv (.int (nI (μ0 38 15)) :: st) (NM μ0 cm b0 b1 b2 t mi wa se ic sd)) : J G X pc lv (rf G 38 :: st) (NM μ0 cm b0 b1 b2 t mi wa se ic sd) :=
  g5_15 C hd hlk k
theorem g5_14N {ix : Nat} {μ0 : Mem} {cm b0 b1 b2 : Nat} {t mi wa se ic sd : Nat → Nat} (C : Cx G X own cc d) (hd : decode cc pc = .ok (.getfield ix, 3)) (hlk : Cond.fieldLink own ix "TrolleyAtElevenModel" "cold" "I" ∈ WS) (k : J G X (pc + 3) lv (.int (nI cm) :: st) (NM μ0 cm b0 b1 b2 t mi wa se ic sd)) : J G X pc lv (rf G 38 :: st) (NM μ0 cm b0 b1 b2 t mi wa se ic sd) :=
  g5_14 C hd hlk k
theorem p5_14N {ix v : Nat} {μ0 : Mem} {cm b0 b1 b2 : Nat} {t mi wa se ic sd : Nat → Nat} (C : Cx G X own cc d) (hd : decode cc pc = .ok (.putfield ix, 3)) (hlk : Cond.fieldLink own ix "TrolleyAtElevenModel" "cold" "I" ∈ WS) (k : J G X (pc + 3) lv st (NM μ0 v b0 b1 b2 t mi wa se ic sd)) : J G X pc lv (.int (nI v) :: rf G 38 :: st) (NM μ0 cm b0 b1 b2 t mi wa se ic sd) :=
  p5_14 C hd hlk (J.mem up_N14 k)
theorem na45_0 {μ0 : Mem} {cm b0 b1 b2 : Nat} {t mi wa se ic sd : Nat → Nat} (C : Cx G X own cc d) (hd : decode cc pc = .ok (.iaload, 1)) (k : J G X (pc + 1) lv (.int (nI b0) :: st) (NM μ0 cm b0 b1 b2 t mi wa se ic sd)) : J G X pc lv (.int (nI 0) :: rf G 45 :: st) (NM μ0 cm b0 b1 b2 t mi wa se ic sd) :=
  j_iald C hd iA_45 (by decide) k
theorem ns45_0 {v : Nat} {μ0 : Mem} {cm b0 b1 b2 : Nat} {t mi wa se ic sd : Nat → Nat} (C : Cx G X own cc d) (hd : decode cc pc = .ok (.iastore, 1)) (k : J G X (pc + 1) lv st (NM μ0 cm v b1 b2 t mi wa se ic sd)) : J G X pc lv (.int (nI v) :: .int (nI 0) :: rf G 45 :: st) (NM μ0 cm b0 b1 b2 t mi wa se ic sd) :=
  j_iast C hd iA_45 (by decide) (J.mem up_N45_0 k)
theorem na45_1 {μ0 : Mem} {cm b0 b1 b2 : Nat} {t mi wa se ic sd : Nat → Nat} (C : Cx G X own cc d) (hd : decode cc pc = .ok (.iaload, 1)) (k : J G X (pc + 1) lv (.int (nI b1) :: st) (NM μ0 cm b0 b1 b2 t mi wa se ic sd)) : J G X pc lv (.int (nI 1) :: rf G 45 :: st) (NM μ0 cm b0 b1 b2 t mi wa se ic sd) :=
  j_iald C hd iA_45 (by decide) k
theorem ns45_1 {v : Nat} {μ0 : Mem} {cm b0 b1 b2 : Nat} {t mi wa se ic sd : Nat → Nat} (C : Cx G X own cc d) (hd : decode cc pc = .ok (.iastore, 1)) (k : J G X (pc + 1) lv st (NM μ0 cm b0 v b2 t mi wa se ic sd)) : J G X pc lv (.int (nI v) :: .int (nI 1) :: rf G 45 :: st) (NM μ0 cm b0 b1 b2 t mi wa se ic sd) :=
  j_iast C hd iA_45 (by decide) (J.mem up_N45_1 k)
theorem na45_2 {μ0 : Mem} {cm b0 b1 b2 : Nat} {t mi wa se ic sd : Nat → Nat} (C : Cx G X own cc d) (hd : decode cc pc = .ok (.iaload, 1)) (k : J G X (pc + 1) lv (.int (nI b2) :: st) (NM μ0 cm b0 b1 b2 t mi wa se ic sd)) : J G X pc lv (.int (nI 2) :: rf G 45 :: st) (NM μ0 cm b0 b1 b2 t mi wa se ic sd) :=
  j_iald C hd iA_45 (by decide) k
theorem ns45_2 {v : Nat} {μ0 : Mem} {cm b0 b1 b2 : Nat} {t mi wa se ic sd : Nat → Nat} (C : Cx G X own cc d) (hd : decode cc pc = .ok (.iastore, 1)) (k : J G X (pc + 1) lv st (NM μ0 cm b0 b1 v t mi wa se ic sd)) : J G X pc lv (.int (nI v) :: .int (nI 2) :: rf G 45 :: st) (NM μ0 cm b0 b1 b2 t mi wa se ic sd) :=
  j_iast C hd iA_45 (by decide) (J.mem up_N45_2 k)
theorem na46 {j : Nat} {μ0 : Mem} {cm b0 b1 b2 : Nat} {t mi wa se ic sd : Nat → Nat} (C : Cx G X own cc d) (hd : decode cc pc = .ok (.iaload, 1)) (hj : j < 8) (k : J G X (pc + 1) lv (.int (nI (t j)) :: st) (NM μ0 cm b0 b1 b2 t mi wa se ic sd)) : J G X pc lv (.int (nI j) :: rf G 46 :: st) (NM μ0 cm b0 b1 b2 t mi wa se ic sd) :=
  j_iald C hd iA_46 hj k
theorem na46h {j v : Nat} {μ0 : Mem} {cm b0 b1 b2 : Nat} {t mi wa se ic sd : Nat → Nat} (C : Cx G X own cc d) (hd : decode cc pc = .ok (.iaload, 1)) (hj : j < 8) (k : J G X (pc + 1) lv (.int (nI v) :: st) (NM μ0 cm b0 b1 b2 (u1 t j v) mi wa se ic sd)) : J G X pc lv (.int (nI j) :: rf G 46 :: st) (NM μ0 cm b0 b1 b2 (u1 t j v) mi wa se ic sd) :=
  j_iald C hd iA_46 hj (by show J G X (pc + 1) lv (.int (nI (u1 t j v j)) :: st) _; rw [u1_at]; exact k)
theorem ns46 {j v : Nat} {μ0 : Mem} {cm b0 b1 b2 : Nat} {t mi wa se ic sd : Nat → Nat} (C : Cx G X own cc d) (hd : decode cc pc = .ok (.iastore, 1)) (hj : j < 8) (k : J G X (pc + 1) lv st (NM μ0 cm b0 b1 b2 (u1 t j v) mi wa se ic sd)) : J G X pc lv (.int (nI v) :: .int (nI j) :: rf G 46 :: st) (NM μ0 cm b0 b1 b2 t mi wa se ic sd) :=
  j_iast C hd iA_46 hj (J.mem up_N46 k)
theorem ns46h {j v x : Nat} {μ0 : Mem} {cm b0 b1 b2 : Nat} {t mi wa se ic sd : Nat → Nat} (C : Cx G X own cc d) (hd : decode cc pc = .ok (.iastore, 1)) (hj : j < 8) (k : J G X (pc + 1) lv st (NM μ0 cm b0 b1 b2 (u1 t j v) mi wa se ic sd)) : J G X pc lv (.int (nI v) :: .int (nI j) :: rf G 46 :: st) (NM μ0 cm b0 b1 b2 (u1 t j x) mi wa se ic sd) :=
  j_iast C hd iA_46 hj (J.mem (up_N46.trans (by rw [u1_u1])) k)
theorem na47 {j : Nat} {μ0 : Mem} {cm b0 b1 b2 : Nat} {t mi wa se ic sd : Nat → Nat} (C : Cx G X own cc d) (hd : decode cc pc = .ok (.iaload, 1)) (hj : j < 6) (k : J G X (pc + 1) lv (.int (nI (mi j)) :: st) (NM μ0 cm b0 b1 b2 t mi wa se ic sd)) : J G X pc lv (.int (nI j) :: rf G 47 :: st) (NM μ0 cm b0 b1 b2 t mi wa se ic sd) :=
  j_iald C hd iA_47 hj k
theorem na47h {j v : Nat} {μ0 : Mem} {cm b0 b1 b2 : Nat} {t mi wa se ic sd : Nat → Nat} (C : Cx G X own cc d) (hd : decode cc pc = .ok (.iaload, 1)) (hj : j < 6) (k : J G X (pc + 1) lv (.int (nI v) :: st) (NM μ0 cm b0 b1 b2 t (u1 mi j v) wa se ic sd)) : J G X pc lv (.int (nI j) :: rf G 47 :: st) (NM μ0 cm b0 b1 b2 t (u1 mi j v) wa se ic sd) :=
  j_iald C hd iA_47 hj (by show J G X (pc + 1) lv (.int (nI (u1 mi j v j)) :: st) _; rw [u1_at]; exact k)
theorem ns47 {j v : Nat} {μ0 : Mem} {cm b0 b1 b2 : Nat} {t mi wa se ic sd : Nat → Nat} (C : Cx G X own cc d) (hd : decode cc pc = .ok (.iastore, 1)) (hj : j < 6) (k : J G X (pc + 1) lv st (NM μ0 cm b0 b1 b2 t (u1 mi j v) wa se ic sd)) : J G X pc lv (.int (nI v) :: .int (nI j) :: rf G 47 :: st) (NM μ0 cm b0 b1 b2 t mi wa se ic sd) :=
  j_iast C hd iA_47 hj (J.mem up_N47 k)
theorem ns47h {j v x : Nat} {μ0 : Mem} {cm b0 b1 b2 : Nat} {t mi wa se ic sd : Nat → Nat} (C : Cx G X own cc d) (hd : decode cc pc = .ok (.iastore, 1)) (hj : j < 6) (k : J G X (pc + 1) lv st (NM μ0 cm b0 b1 b2 t (u1 mi j v) wa se ic sd)) : J G X pc lv (.int (nI v) :: .int (nI j) :: rf G 47 :: st) (NM μ0 cm b0 b1 b2 t (u1 mi j x) wa se ic sd) :=
  j_iast C hd iA_47 hj (J.mem (up_N47.trans (by rw [u1_u1])) k)
theorem na48 {j : Nat} {μ0 : Mem} {cm b0 b1 b2 : Nat} {t mi wa se ic sd : Nat → Nat} (C : Cx G X own cc d) (hd : decode cc pc = .ok (.iaload, 1)) (hj : j < 6) (k : J G X (pc + 1) lv (.int (nI (wa j)) :: st) (NM μ0 cm b0 b1 b2 t mi wa se ic sd)) : J G X pc lv (.int (nI j) :: rf G 48 :: st) (NM μ0 cm b0 b1 b2 t mi wa se ic sd) :=
  j_iald C hd iA_48 hj k
theorem na48h {j v : Nat} {μ0 : Mem} {cm b0 b1 b2 : Nat} {t mi wa se ic sd : Nat → Nat} (C : Cx G X own cc d) (hd : decode cc pc = .ok (.iaload, 1)) (hj : j < 6) (k : J G X (pc + 1) lv (.int (nI v) :: st) (NM μ0 cm b0 b1 b2 t mi (u1 wa j v) se ic sd)) : J G X pc lv (.int (nI j) :: rf G 48 :: st) (NM μ0 cm b0 b1 b2 t mi (u1 wa j v) se ic sd) :=
  j_iald C hd iA_48 hj (by show J G X (pc + 1) lv (.int (nI (u1 wa j v j)) :: st) _; rw [u1_at]; exact k)
theorem ns48 {j v : Nat} {μ0 : Mem} {cm b0 b1 b2 : Nat} {t mi wa se ic sd : Nat → Nat} (C : Cx G X own cc d) (hd : decode cc pc = .ok (.iastore, 1)) (hj : j < 6) (k : J G X (pc + 1) lv st (NM μ0 cm b0 b1 b2 t mi (u1 wa j v) se ic sd)) : J G X pc lv (.int (nI v) :: .int (nI j) :: rf G 48 :: st) (NM μ0 cm b0 b1 b2 t mi wa se ic sd) :=
  j_iast C hd iA_48 hj (J.mem up_N48 k)
theorem ns48h {j v x : Nat} {μ0 : Mem} {cm b0 b1 b2 : Nat} {t mi wa se ic sd : Nat → Nat} (C : Cx G X own cc d) (hd : decode cc pc = .ok (.iastore, 1)) (hj : j < 6) (k : J G X (pc + 1) lv st (NM μ0 cm b0 b1 b2 t mi (u1 wa j v) se ic sd)) : J G X pc lv (.int (nI v) :: .int (nI j) :: rf G 48 :: st) (NM μ0 cm b0 b1 b2 t mi (u1 wa j x) se ic sd) :=
  j_iast C hd iA_48 hj (J.mem (up_N48.trans (by rw [u1_u1])) k)
theorem na49 {j : Nat} {μ0 : Mem} {cm b0 b1 b2 : Nat} {t mi wa se ic sd : Nat → Nat} (C : Cx G X own cc d) (hd : decode cc pc = .ok (.iaload, 1)) (hj : j < 6) (k : J G X (pc + 1) lv (.int (nI (se j)) :: st) (NM μ0 cm b0 b1 b2 t mi wa se ic sd)) : J G X pc lv (.int (nI j) :: rf G 49 :: st) (NM μ0 cm b0 b1 b2 t mi wa se ic sd) :=
  j_iald C hd iA_49 hj k
theorem na49h {j v : Nat} {μ0 : Mem} {cm b0 b1 b2 : Nat} {t mi wa se ic sd : Nat → Nat} (C : Cx G X own cc d) (hd : decode cc pc = .ok (.iaload, 1)) (hj : j < 6) (k : J G X (pc + 1) lv (.int (nI v) :: st) (NM μ0 cm b0 b1 b2 t mi wa (u1 se j v) ic sd)) : J G X pc lv (.int (nI j) :: rf G 49 :: st) (NM μ0 cm b0 b1 b2 t mi wa (u1 se j v) ic sd) :=
  j_iald C hd iA_49 hj (by show J G X (pc + 1) lv (.int (nI (u1 se j v j)) :: st) _; rw [u1_at]; exact k)
theorem ns49 {j v : Nat} {μ0 : Mem} {cm b0 b1 b2 : Nat} {t mi wa se ic sd : Nat → Nat} (C : Cx G X own cc d) (hd : decode cc pc = .ok (.iastore, 1)) (hj : j < 6) (k : J G X (pc + 1) lv st (NM μ0 cm b0 b1 b2 t mi wa (u1 se j v) ic sd)) : J G X pc lv (.int (nI v) :: .int (nI j) :: rf G 49 :: st) (NM μ0 cm b0 b1 b2 t mi wa se ic sd) :=
  j_iast C hd iA_49 hj (J.mem up_N49 k)
theorem ns49h {j v x : Nat} {μ0 : Mem} {cm b0 b1 b2 : Nat} {t mi wa se ic sd : Nat → Nat} (C : Cx G X own cc d) (hd : decode cc pc = .ok (.iastore, 1)) (hj : j < 6) (k : J G X (pc + 1) lv st (NM μ0 cm b0 b1 b2 t mi wa (u1 se j v) ic sd)) : J G X pc lv (.int (nI v) :: .int (nI j) :: rf G 49 :: st) (NM μ0 cm b0 b1 b2 t mi wa (u1 se j x) ic sd) :=
  j_iast C hd iA_49 hj (J.mem (up_N49.trans (by rw [u1_u1])) k)
theorem na50 {j : Nat} {μ0 : Mem} {cm b0 b1 b2 : Nat} {t mi wa se ic sd : Nat → Nat} (C : Cx G X own cc d) (hd : decode cc pc = .ok (.iaload, 1)) (hj : j < 6) (k : J G X (pc + 1) lv (.int (nI (ic j)) :: st) (NM μ0 cm b0 b1 b2 t mi wa se ic sd)) : J G X pc lv (.int (nI j) :: rf G 50 :: st) (NM μ0 cm b0 b1 b2 t mi wa se ic sd) :=
  j_iald C hd iA_50 hj k
theorem na50h {j v : Nat} {μ0 : Mem} {cm b0 b1 b2 : Nat} {t mi wa se ic sd : Nat → Nat} (C : Cx G X own cc d) (hd : decode cc pc = .ok (.iaload, 1)) (hj : j < 6) (k : J G X (pc + 1) lv (.int (nI v) :: st) (NM μ0 cm b0 b1 b2 t mi wa se (u1 ic j v) sd)) : J G X pc lv (.int (nI j) :: rf G 50 :: st) (NM μ0 cm b0 b1 b2 t mi wa se (u1 ic j v) sd) :=
  j_iald C hd iA_50 hj (by show J G X (pc + 1) lv (.int (nI (u1 ic j v j)) :: st) _; rw [u1_at]; exact k)
theorem ns50 {j v : Nat} {μ0 : Mem} {cm b0 b1 b2 : Nat} {t mi wa se ic sd : Nat → Nat} (C : Cx G X own cc d) (hd : decode cc pc = .ok (.iastore, 1)) (hj : j < 6) (k : J G X (pc + 1) lv st (NM μ0 cm b0 b1 b2 t mi wa se (u1 ic j v) sd)) : J G X pc lv (.int (nI v) :: .int (nI j) :: rf G 50 :: st) (NM μ0 cm b0 b1 b2 t mi wa se ic sd) :=
  j_iast C hd iA_50 hj (J.mem up_N50 k)
theorem ns50h {j v x : Nat} {μ0 : Mem} {cm b0 b1 b2 : Nat} {t mi wa se ic sd : Nat → Nat} (C : Cx G X own cc d) (hd : decode cc pc = .ok (.iastore, 1)) (hj : j < 6) (k : J G X (pc + 1) lv st (NM μ0 cm b0 b1 b2 t mi wa se (u1 ic j v) sd)) : J G X pc lv (.int (nI v) :: .int (nI j) :: rf G 50 :: st) (NM μ0 cm b0 b1 b2 t mi wa se (u1 ic j x) sd) :=
  j_iast C hd iA_50 hj (J.mem (up_N50.trans (by rw [u1_u1])) k)
theorem na51 {j : Nat} {μ0 : Mem} {cm b0 b1 b2 : Nat} {t mi wa se ic sd : Nat → Nat} (C : Cx G X own cc d) (hd : decode cc pc = .ok (.iaload, 1)) (hj : j < 6) (k : J G X (pc + 1) lv (.int (nI (sd j)) :: st) (NM μ0 cm b0 b1 b2 t mi wa se ic sd)) : J G X pc lv (.int (nI j) :: rf G 51 :: st) (NM μ0 cm b0 b1 b2 t mi wa se ic sd) :=
  j_iald C hd iA_51 hj k
theorem na51h {j v : Nat} {μ0 : Mem} {cm b0 b1 b2 : Nat} {t mi wa se ic sd : Nat → Nat} (C : Cx G X own cc d) (hd : decode cc pc = .ok (.iaload, 1)) (hj : j < 6) (k : J G X (pc + 1) lv (.int (nI v) :: st) (NM μ0 cm b0 b1 b2 t mi wa se ic (u1 sd j v))) : J G X pc lv (.int (nI j) :: rf G 51 :: st) (NM μ0 cm b0 b1 b2 t mi wa se ic (u1 sd j v)) :=
  j_iald C hd iA_51 hj (by show J G X (pc + 1) lv (.int (nI (u1 sd j v j)) :: st) _; rw [u1_at]; exact k)
theorem ns51 {j v : Nat} {μ0 : Mem} {cm b0 b1 b2 : Nat} {t mi wa se ic sd : Nat → Nat} (C : Cx G X own cc d) (hd : decode cc pc = .ok (.iastore, 1)) (hj : j < 6) (k : J G X (pc + 1) lv st (NM μ0 cm b0 b1 b2 t mi wa se ic (u1 sd j v))) : J G X pc lv (.int (nI v) :: .int (nI j) :: rf G 51 :: st) (NM μ0 cm b0 b1 b2 t mi wa se ic sd) :=
  j_iast C hd iA_51 hj (J.mem up_N51 k)
theorem ns51h {j v x : Nat} {μ0 : Mem} {cm b0 b1 b2 : Nat} {t mi wa se ic sd : Nat → Nat} (C : Cx G X own cc d) (hd : decode cc pc = .ok (.iastore, 1)) (hj : j < 6) (k : J G X (pc + 1) lv st (NM μ0 cm b0 b1 b2 t mi wa se ic (u1 sd j v))) : J G X pc lv (.int (nI v) :: .int (nI j) :: rf G 51 :: st) (NM μ0 cm b0 b1 b2 t mi wa se ic (u1 sd j x)) :=
  j_iast C hd iA_51 hj (J.mem (up_N51.trans (by rw [u1_u1])) k)
theorem na46_0 {μ0 : Mem} {cm b0 b1 b2 : Nat} {mi wa se ic sd : Nat → Nat} {t0 t1 t2 t3 t4 t5 t6 t7 : Nat} {r : Nat → Nat} (C : Cx G X own cc d) (hd : decode cc pc = .ok (.iaload, 1)) (k : J G X (pc + 1) lv (.int (nI t0) :: st) (NM μ0 cm b0 b1 b2 (TT t0 t1 t2 t3 t4 t5 t6 t7 r) mi wa se ic sd)) : J G X pc lv (.int (nI 0) :: rf G 46 :: st) (NM μ0 cm b0 b1 b2 (TT t0 t1 t2 t3 t4 t5 t6 t7 r) mi wa se ic sd) :=
  j_iald C hd iA_46 (by decide) k
theorem ns46_0 {v : Nat} {μ0 : Mem} {cm b0 b1 b2 : Nat} {mi wa se ic sd : Nat → Nat} {t0 t1 t2 t3 t4 t5 t6 t7 : Nat} {r : Nat → Nat} (C : Cx G X own cc d) (hd : decode cc pc = .ok (.iastore, 1)) (k : J G X (pc + 1) lv st (NM μ0 cm b0 b1 b2 (TT v t1 t2 t3 t4 t5 t6 t7 r) mi wa se ic sd)) : J G X pc lv (.int (nI v) :: .int (nI 0) :: rf G 46 :: st) (NM μ0 cm b0 b1 b2 (TT t0 t1 t2 t3 t4 t5 t6 t7 r) mi wa se ic sd) :=
  j_iast C hd iA_46 (by decide) (J.mem up_N46 (J.mem (by rw [u1_T0]) k))
theorem na46_1 {μ0 : Mem} {cm b0 b1 b2 : Nat} {mi wa se ic sd : Nat → Nat} {t0 t1 t2 t3 t4 t5 t6 t7 : Nat} {r : Nat → Nat} (C : Cx G X own cc d) (hd : decode cc pc = .ok (.iaload, 1)) (k : J G X (pc + 1) lv (.int (nI t1) :: st) (NM μ0 cm b0 b1 b2 (TT t0 t1 t2 t3 t4 t5 t6 t7 r) mi wa se ic sd)) : J G X pc lv (.int (nI 1) :: rf G 46 :: st) (NM μ0 cm b0 b1 b2 (TT t0 t1 t2 t3 t4 t5 t6 t7 r) mi wa se ic sd) :=
  j_iald C hd iA_46 (by decide) k
theorem ns46_1 {v : Nat} {μ0 : Mem} {cm b0 b1 b2 : Nat} {mi wa se ic sd : Nat → Nat} {t0 t1 t2 t3 t4 t5 t6 t7 : Nat} {r : Nat → Nat} (C : Cx G X own cc d) (hd : decode cc pc = .ok (.iastore, 1)) (k : J G X (pc + 1) lv st (NM μ0 cm b0 b1 b2 (TT t0 v t2 t3 t4 t5 t6 t7 r) mi wa se ic sd)) : J G X pc lv (.int (nI v) :: .int (nI 1) :: rf G 46 :: st) (NM μ0 cm b0 b1 b2 (TT t0 t1 t2 t3 t4 t5 t6 t7 r) mi wa se ic sd) :=
  j_iast C hd iA_46 (by decide) (J.mem up_N46 (J.mem (by rw [u1_T1]) k))
theorem na46_2 {μ0 : Mem} {cm b0 b1 b2 : Nat} {mi wa se ic sd : Nat → Nat} {t0 t1 t2 t3 t4 t5 t6 t7 : Nat} {r : Nat → Nat} (C : Cx G X own cc d) (hd : decode cc pc = .ok (.iaload, 1)) (k : J G X (pc + 1) lv (.int (nI t2) :: st) (NM μ0 cm b0 b1 b2 (TT t0 t1 t2 t3 t4 t5 t6 t7 r) mi wa se ic sd)) : J G X pc lv (.int (nI 2) :: rf G 46 :: st) (NM μ0 cm b0 b1 b2 (TT t0 t1 t2 t3 t4 t5 t6 t7 r) mi wa se ic sd) :=
  j_iald C hd iA_46 (by decide) k
theorem ns46_2 {v : Nat} {μ0 : Mem} {cm b0 b1 b2 : Nat} {mi wa se ic sd : Nat → Nat} {t0 t1 t2 t3 t4 t5 t6 t7 : Nat} {r : Nat → Nat} (C : Cx G X own cc d) (hd : decode cc pc = .ok (.iastore, 1)) (k : J G X (pc + 1) lv st (NM μ0 cm b0 b1 b2 (TT t0 t1 v t3 t4 t5 t6 t7 r) mi wa se ic sd)) : J G X pc lv (.int (nI v) :: .int (nI 2) :: rf G 46 :: st) (NM μ0 cm b0 b1 b2 (TT t0 t1 t2 t3 t4 t5 t6 t7 r) mi wa se ic sd) :=
  j_iast C hd iA_46 (by decide) (J.mem up_N46 (J.mem (by rw [u1_T2]) k))
theorem na46_3 {μ0 : Mem} {cm b0 b1 b2 : Nat} {mi wa se ic sd : Nat → Nat} {t0 t1 t2 t3 t4 t5 t6 t7 : Nat} {r : Nat → Nat} (C : Cx G X own cc d) (hd : decode cc pc = .ok (.iaload, 1)) (k : J G X (pc + 1) lv (.int (nI t3) :: st) (NM μ0 cm b0 b1 b2 (TT t0 t1 t2 t3 t4 t5 t6 t7 r) mi wa se ic sd)) : J G X pc lv (.int (nI 3) :: rf G 46 :: st) (NM μ0 cm b0 b1 b2 (TT t0 t1 t2 t3 t4 t5 t6 t7 r) mi wa se ic sd) :=
  j_iald C hd iA_46 (by decide) k
theorem ns46_3 {v : Nat} {μ0 : Mem} {cm b0 b1 b2 : Nat} {mi wa se ic sd : Nat → Nat} {t0 t1 t2 t3 t4 t5 t6 t7 : Nat} {r : Nat → Nat} (C : Cx G X own cc d) (hd : decode cc pc = .ok (.iastore, 1)) (k : J G X (pc + 1) lv st (NM μ0 cm b0 b1 b2 (TT t0 t1 t2 v t4 t5 t6 t7 r) mi wa se ic sd)) : J G X pc lv (.int (nI v) :: .int (nI 3) :: rf G 46 :: st) (NM μ0 cm b0 b1 b2 (TT t0 t1 t2 t3 t4 t5 t6 t7 r) mi wa se ic sd) :=
  j_iast C hd iA_46 (by decide) (J.mem up_N46 (J.mem (by rw [u1_T3]) k))
theorem na46_4 {μ0 : Mem} {cm b0 b1 b2 : Nat} {mi wa se ic sd : Nat → Nat} {t0 t1 t2 t3 t4 t5 t6 t7 : Nat} {r : Nat → Nat} (C : Cx G X own cc d) (hd : decode cc pc = .ok (.iaload, 1)) (k : J G X (pc + 1) lv (.int (nI t4) :: st) (NM μ0 cm b0 b1 b2 (TT t0 t1 t2 t3 t4 t5 t6 t7 r) mi wa se ic sd)) : J G X pc lv (.int (nI 4) :: rf G 46 :: st) (NM μ0 cm b0 b1 b2 (TT t0 t1 t2 t3 t4 t5 t6 t7 r) mi wa se ic sd) :=
  j_iald C hd iA_46 (by decide) k
theorem ns46_4 {v : Nat} {μ0 : Mem} {cm b0 b1 b2 : Nat} {mi wa se ic sd : Nat → Nat} {t0 t1 t2 t3 t4 t5 t6 t7 : Nat} {r : Nat → Nat} (C : Cx G X own cc d) (hd : decode cc pc = .ok (.iastore, 1)) (k : J G X (pc + 1) lv st (NM μ0 cm b0 b1 b2 (TT t0 t1 t2 t3 v t5 t6 t7 r) mi wa se ic sd)) : J G X pc lv (.int (nI v) :: .int (nI 4) :: rf G 46 :: st) (NM μ0 cm b0 b1 b2 (TT t0 t1 t2 t3 t4 t5 t6 t7 r) mi wa se ic sd) :=
  j_iast C hd iA_46 (by decide) (J.mem up_N46 (J.mem (by rw [u1_T4]) k))
theorem na46_5 {μ0 : Mem} {cm b0 b1 b2 : Nat} {mi wa se ic sd : Nat → Nat} {t0 t1 t2 t3 t4 t5 t6 t7 : Nat} {r : Nat → Nat} (C : Cx G X own cc d) (hd : decode cc pc = .ok (.iaload, 1)) (k : J G X (pc + 1) lv (.int (nI t5) :: st) (NM μ0 cm b0 b1 b2 (TT t0 t1 t2 t3 t4 t5 t6 t7 r) mi wa se ic sd)) : J G X pc lv (.int (nI 5) :: rf G 46 :: st) (NM μ0 cm b0 b1 b2 (TT t0 t1 t2 t3 t4 t5 t6 t7 r) mi wa se ic sd) :=
  j_iald C hd iA_46 (by decide) k
theorem ns46_5 {v : Nat} {μ0 : Mem} {cm b0 b1 b2 : Nat} {mi wa se ic sd : Nat → Nat} {t0 t1 t2 t3 t4 t5 t6 t7 : Nat} {r : Nat → Nat} (C : Cx G X own cc d) (hd : decode cc pc = .ok (.iastore, 1)) (k : J G X (pc + 1) lv st (NM μ0 cm b0 b1 b2 (TT t0 t1 t2 t3 t4 v t6 t7 r) mi wa se ic sd)) : J G X pc lv (.int (nI v) :: .int (nI 5) :: rf G 46 :: st) (NM μ0 cm b0 b1 b2 (TT t0 t1 t2 t3 t4 t5 t6 t7 r) mi wa se ic sd) :=
  j_iast C hd iA_46 (by decide) (J.mem up_N46 (J.mem (by rw [u1_T5]) k))
theorem na46_6 {μ0 : Mem} {cm b0 b1 b2 : Nat} {mi wa se ic sd : Nat → Nat} {t0 t1 t2 t3 t4 t5 t6 t7 : Nat} {r : Nat → Nat} (C : Cx G X own cc d) (hd : decode cc pc = .ok (.iaload, 1)) (k : J G X (pc + 1) lv (.int (nI t6) :: st) (NM μ0 cm b0 b1 b2 (TT t0 t1 t2 t3 t4 t5 t6 t7 r) mi wa se ic sd)) : J G X pc lv (.int (nI 6) :: rf G 46 :: st) (NM μ0 cm b0 b1 b2 (TT t0 t1 t2 t3 t4 t5 t6 t7 r) mi wa se ic sd) :=
  j_iald C hd iA_46 (by decide) k
theorem ns46_6 {v : Nat} {μ0 : Mem} {cm b0 b1 b2 : Nat} {mi wa se ic sd : Nat → Nat} {t0 t1 t2 t3 t4 t5 t6 t7 : Nat} {r : Nat → Nat} (C : Cx G X own cc d) (hd : decode cc pc = .ok (.iastore, 1)) (k : J G X (pc + 1) lv st (NM μ0 cm b0 b1 b2 (TT t0 t1 t2 t3 t4 t5 v t7 r) mi wa se ic sd)) : J G X pc lv (.int (nI v) :: .int (nI 6) :: rf G 46 :: st) (NM μ0 cm b0 b1 b2 (TT t0 t1 t2 t3 t4 t5 t6 t7 r) mi wa se ic sd) :=
  j_iast C hd iA_46 (by decide) (J.mem up_N46 (J.mem (by rw [u1_T6]) k))
theorem na46_7 {μ0 : Mem} {cm b0 b1 b2 : Nat} {mi wa se ic sd : Nat → Nat} {t0 t1 t2 t3 t4 t5 t6 t7 : Nat} {r : Nat → Nat} (C : Cx G X own cc d) (hd : decode cc pc = .ok (.iaload, 1)) (k : J G X (pc + 1) lv (.int (nI t7) :: st) (NM μ0 cm b0 b1 b2 (TT t0 t1 t2 t3 t4 t5 t6 t7 r) mi wa se ic sd)) : J G X pc lv (.int (nI 7) :: rf G 46 :: st) (NM μ0 cm b0 b1 b2 (TT t0 t1 t2 t3 t4 t5 t6 t7 r) mi wa se ic sd) :=
  j_iald C hd iA_46 (by decide) k
theorem ns46_7 {v : Nat} {μ0 : Mem} {cm b0 b1 b2 : Nat} {mi wa se ic sd : Nat → Nat} {t0 t1 t2 t3 t4 t5 t6 t7 : Nat} {r : Nat → Nat} (C : Cx G X own cc d) (hd : decode cc pc = .ok (.iastore, 1)) (k : J G X (pc + 1) lv st (NM μ0 cm b0 b1 b2 (TT t0 t1 t2 t3 t4 t5 t6 v r) mi wa se ic sd)) : J G X pc lv (.int (nI v) :: .int (nI 7) :: rf G 46 :: st) (NM μ0 cm b0 b1 b2 (TT t0 t1 t2 t3 t4 t5 t6 t7 r) mi wa se ic sd) :=
  j_iast C hd iA_46 (by decide) (J.mem up_N46 (J.mem (by rw [u1_T7]) k))
theorem nah {a n j : Nat} {μ0 : Mem} {cm b0 b1 b2 : Nat} {t mi wa se ic sd : Nat → Nat} (C : Cx G X own cc d) (hd : decode cc pc = .ok (.iaload, 1)) (ha : isA a n) (hj : j < n) (hq : a < 38 ∨ 51 < a ∨ (38 < a ∧ a < 45)) (k : J G X (pc + 1) lv (.int (nI (μ0 a j)) :: st) (NM μ0 cm b0 b1 b2 t mi wa se ic sd)) : J G X pc lv (.int (nI j) :: rf G a :: st) (NM μ0 cm b0 b1 b2 t mi wa se ic sd) :=
  j_iald C hd ha hj (by rw [NM_off hq]; exact k)
end JNM
-- the floors that have had it cold, as bits
theorem cm_or : ∀ c, c < 64 → ∀ f, f < 6 → nI c ||| (nI 1 <<< (nI f &&& 31)) = nI (c ||| 2 ^ f) := by decide +kernel
theorem cm_lt : ∀ c, c < 64 → ∀ f, f < 6 → c ||| 2 ^ f < 64 := by decide +kernel
theorem cm_bit : ∀ c, c < 64 → ∀ f, f < 6 → ((nI c >>> (nI f &&& 31)) &&& nI 1) = nI (if c.testBit f then 1 else 0) := by decide +kernel
theorem cm_tb : ∀ c, c < 64 → ∀ f, f < 6 → ∀ g, g < 6 → (c ||| 2 ^ f).testBit g = (c.testBit g || decide (f = g)) := by decide +kernel
