-- ROWS OVER NATURAL NUMBERS, and truth values
def b2i (p : Prop) [Decidable p] : Int32 := if p then 1 else 0
theorem b2i_t {p : Prop} [Decidable p] (h : p) : b2i p = nI 1 := by simp [b2i, h]; rfl
theorem b2i_f {p : Prop} [Decidable p] (h : ¬ p) : b2i p = nI 0 := by simp [b2i, h]; rfl
theorem b2i_bool {p : Prop} [Decidable p] : narrow .boolean (.int (b2i p)) = .int (b2i p) := by
  by_cases h : p
  · rw [b2i_t h]; rfl
  · rw [b2i_f h]; rfl
theorem nI_lt31 {a b : Nat} (ha : a < 2 ^ 31) (hb : b < 2 ^ 31) : (nI a < nI b) ↔ a < b := nI_ltI ha hb
theorem catOK {av : List Value} (h : (av.all fun v => v.category == 1) = true) : ∀ v ∈ av, ¬ v.category = 2 := fun v hv q => by
  have h1 := List.all_eq_true.mp h v hv
  rw [q] at h1
  exact absurd h1 (by decide)
section JN
variable {G : GX} {X : XC} {own : String} {cc : ByteArray} {d pc : Nat} {lv : List (Option Value)} {st : List Value} {μ : Mem}
theorem j_iaddN {x y : Nat} (C : Cx G X own cc d) (hd : decode cc pc = .ok (.iadd, 1)) (k : J G X (pc + 1) lv (.int (nI (x + y)) :: st) μ) : J G X pc lv (.int (nI y) :: .int (nI x) :: st) μ :=
  j_iadd C hd (J.top (nI_add x y) k)
theorem j_isubN {x y : Nat} (C : Cx G X own cc d) (hd : decode cc pc = .ok (.isub, 1)) (h : y ≤ x) (k : J G X (pc + 1) lv (.int (nI (x - y)) :: st) μ) : J G X pc lv (.int (nI y) :: .int (nI x) :: st) μ :=
  j_isub C hd (J.top (pk_sub h) k)
theorem j_imulN {x y : Nat} (C : Cx G X own cc d) (hd : decode cc pc = .ok (.imul, 1)) (k : J G X (pc + 1) lv (.int (nI (x * y)) :: st) μ) : J G X pc lv (.int (nI y) :: .int (nI x) :: st) μ :=
  j_imul C hd (J.top (pk_mul x y) k)
theorem j_idivN {x y : Nat} (C : Cx G X own cc d) (hd : decode cc pc = .ok (.idiv, 1)) (h1 : x < 2 ^ 31) (h2 : 0 < y) (h3 : y < 2 ^ 31) (k : J G X (pc + 1) lv (.int (nI (x / y)) :: st) μ) : J G X pc lv (.int (nI y) :: .int (nI x) :: st) μ :=
  j_idiv C hd (nI_ne0 h2 h3) (J.top (pk_div h1 h2 h3) k)
theorem j_iremN {x y : Nat} (C : Cx G X own cc d) (hd : decode cc pc = .ok (.irem, 1)) (h1 : x < 2 ^ 31) (h2 : 0 < y) (h3 : y < 2 ^ 31) (k : J G X (pc + 1) lv (.int (nI (x % y)) :: st) μ) : J G X pc lv (.int (nI y) :: .int (nI x) :: st) μ :=
  j_irem C hd (nI_ne0 h2 h3) (J.top (pk_rem h1 h2 h3) k)
theorem j_i2lN {x : Nat} (C : Cx G X own cc d) (hd : decode cc pc = .ok (.i2l, 1)) (h : x < 2 ^ 31) (k : J G X (pc + 1) lv (.long (lN x) :: st) μ) : J G X pc lv (.int (nI x) :: st) μ :=
  j_i2l C hd (J.topL (nI_l h) k)
theorem maxN {x y : Nat} (hx : x < 2 ^ 31) (hy : y < 2 ^ 31) : (if nI x < nI y then nI y else nI x) = nI (max x y) := by
  by_cases h : x < y
  · rw [if_pos (nI_lt h hy), Nat.max_eq_right (by omega)]
  · rw [if_neg (nI_nlt (by omega) hx), Nat.max_eq_left (by omega)]
theorem minN {x y : Nat} (hx : x < 2 ^ 31) (hy : y < 2 ^ 31) : (if nI y < nI x then nI y else nI x) = nI (min x y) := by
  by_cases h : y < x
  · rw [if_pos (nI_lt h hx), Nat.min_eq_right (by omega)]
  · rw [if_neg (nI_nlt (by omega) hy), Nat.min_eq_left (by omega)]
theorem j_maxN {x y ix : Nat} (C : Cx G X own cc d) (hd : decode cc pc = .ok (.invokestatic ix, 3)) (hl1 : Cond.methodLink own ix Lib.Math.max.name ∈ WS) (hd1 : 1 ≤ d) (hst : (st.map fun v => v.category).sum ≤ 8) (hx : x < 2 ^ 31) (hy : y < 2 ^ 31) (k : J G X (pc + 3) lv (.int (nI (max x y)) :: st) μ) : J G X pc lv (.int (nI y) :: .int (nI x) :: st) μ :=
  j_max C hd hl1 mS_max mI mC_max hd1 hst (J.top (maxN hx hy) k)
theorem j_minN {x y ix : Nat} (C : Cx G X own cc d) (hd : decode cc pc = .ok (.invokestatic ix, 3)) (hl1 : Cond.methodLink own ix Lib.Math.min.name ∈ WS) (hd1 : 1 ≤ d) (hst : (st.map fun v => v.category).sum ≤ 8) (hx : x < 2 ^ 31) (hy : y < 2 ^ 31) (k : J G X (pc + 3) lv (.int (nI (min x y)) :: st) μ) : J G X pc lv (.int (nI y) :: .int (nI x) :: st) μ :=
  j_min C hd hl1 mS_min mI mC_min hd1 hst (J.top (minN hx hy) k)
def dist (x y : Nat) : Nat := if y ≤ x then x - y else y - x
theorem absN {x y : Nat} (hx : x < 2 ^ 30) (hy : y < 2 ^ 30) : (if 0 ≤ nI x - nI y then nI x - nI y else 0 - (nI x - nI y)) = nI (dist x y) := by
  by_cases h : y ≤ x
  · rw [pk_sub h, if_pos (nI_pos' (by omega)), dist, if_pos h]
  · have e : nI y - nI x = nI (y - x) := pk_sub (by omega)
    have hneg : ¬ 0 ≤ nI x - nI y := by
      have := pk_sneg (a := x) (b := y) hy (by omega)
      exact Int32.not_le.mpr this
    rw [if_neg hneg, dist, if_neg h, ← e]
    rw [Int32.zero_sub, Int32.neg_sub]
theorem j_absN {x y ix : Nat} (C : Cx G X own cc d) (hd : decode cc pc = .ok (.invokestatic ix, 3)) (hl1 : Cond.methodLink own ix Lib.Math.abs.name ∈ WS) (hd1 : 1 ≤ d) (hst : (st.map fun v => v.category).sum ≤ 8) (hx : x < 2 ^ 30) (hy : y < 2 ^ 30) (k : J G X (pc + 3) lv (.int (nI (dist x y)) :: st) μ) : J G X pc lv (.int (nI x - nI y) :: st) μ :=
  j_abs C hd hl1 mS_abs mI mC_abs hd1 hst (J.top (absN hx hy) k)
theorem j_acopy {a b na nb sp dp n ix : Nat} (C : Cx G X own cc d) (hd : decode cc pc = .ok (.invokestatic ix, 3)) (hl1 : Cond.methodLink own ix arraycopyName ∈ WS) (ha : isA a na) (hb9 : isA b nb) (h1 : sp + n ≤ na) (h2 : dp + n ≤ nb) (hd1 : 1 ≤ d) (hst : (st.map fun v => v.category).sum ≤ 8) (k : J G X (pc + 3) lv st (fun q i => if q = b ∧ dp ≤ i ∧ i < dp + n then μ a (sp + (i - dp)) else μ q i)) : J G X pc lv (.int (nI n) :: .int (nI dp) :: rf G b :: .int (nI sp) :: rf G a :: st) μ :=
  j_copy C hd hl1 aN aS aI ha hb9 h1 h2 hd1 hst k
theorem j_icmp_eqN {x y : Nat} {off : Int} {tgt : Nat} (C : Cx G X own cc d) (hd : decode cc pc = .ok (.if_icmp .eq off, 3)) (ht : (pc : Int) + off = (tgt : Int)) (hx : x < 2 ^ 31) (hy : y < 2 ^ 31) (kt : x = y → J G X tgt lv st μ) (kf : ¬ x = y → J G X (pc + 3) lv st μ) : J G X pc lv (.int (nI y) :: .int (nI x) :: st) μ :=
  j_icmp_eq C hd ht (fun h => kt ((nI_eq hx hy).mp h)) (fun h => kf (fun q => h ((nI_eq hx hy).mpr q)))
theorem j_icmp_neN {x y : Nat} {off : Int} {tgt : Nat} (C : Cx G X own cc d) (hd : decode cc pc = .ok (.if_icmp .ne off, 3)) (ht : (pc : Int) + off = (tgt : Int)) (hx : x < 2 ^ 31) (hy : y < 2 ^ 31) (kt : ¬ x = y → J G X tgt lv st μ) (kf : x = y → J G X (pc + 3) lv st μ) : J G X pc lv (.int (nI y) :: .int (nI x) :: st) μ :=
  j_icmp_ne C hd ht (fun h => kt (fun q => h ((nI_eq hx hy).mpr q))) (fun h => kf ((nI_eq hx hy).mp h))
theorem j_icmp_ltN {x y : Nat} {off : Int} {tgt : Nat} (C : Cx G X own cc d) (hd : decode cc pc = .ok (.if_icmp .lt off, 3)) (ht : (pc : Int) + off = (tgt : Int)) (hx : x < 2 ^ 31) (hy : y < 2 ^ 31) (kt : x < y → J G X tgt lv st μ) (kf : y ≤ x → J G X (pc + 3) lv st μ) : J G X pc lv (.int (nI y) :: .int (nI x) :: st) μ :=
  j_icmp_lt C hd ht (fun h => kt ((nI_ltI hx hy).mp h)) (fun h => kf (by have h2 : ¬ _ := fun q => h ((nI_ltI hx hy).mpr q); omega))
theorem j_icmp_geN {x y : Nat} {off : Int} {tgt : Nat} (C : Cx G X own cc d) (hd : decode cc pc = .ok (.if_icmp .ge off, 3)) (ht : (pc : Int) + off = (tgt : Int)) (hx : x < 2 ^ 31) (hy : y < 2 ^ 31) (kt : y ≤ x → J G X tgt lv st μ) (kf : x < y → J G X (pc + 3) lv st μ) : J G X pc lv (.int (nI y) :: .int (nI x) :: st) μ :=
  j_icmp_ge C hd ht (fun h => kt ((nI_leI hy hx).mp h)) (fun h => kf (by have h2 : ¬ _ := fun q => h ((nI_leI hy hx).mpr q); omega))
theorem j_icmp_gtN {x y : Nat} {off : Int} {tgt : Nat} (C : Cx G X own cc d) (hd : decode cc pc = .ok (.if_icmp .gt off, 3)) (ht : (pc : Int) + off = (tgt : Int)) (hx : x < 2 ^ 31) (hy : y < 2 ^ 31) (kt : y < x → J G X tgt lv st μ) (kf : x ≤ y → J G X (pc + 3) lv st μ) : J G X pc lv (.int (nI y) :: .int (nI x) :: st) μ :=
  j_icmp_gt C hd ht (fun h => kt ((nI_ltI hy hx).mp h)) (fun h => kf (by have h2 : ¬ _ := fun q => h ((nI_ltI hy hx).mpr q); omega))
theorem j_icmp_leN {x y : Nat} {off : Int} {tgt : Nat} (C : Cx G X own cc d) (hd : decode cc pc = .ok (.if_icmp .le off, 3)) (ht : (pc : Int) + off = (tgt : Int)) (hx : x < 2 ^ 31) (hy : y < 2 ^ 31) (kt : x ≤ y → J G X tgt lv st μ) (kf : y < x → J G X (pc + 3) lv st μ) : J G X pc lv (.int (nI y) :: .int (nI x) :: st) μ :=
  j_icmp_le C hd ht (fun h => kt ((nI_leI hx hy).mp h)) (fun h => kf (by have h2 : ¬ _ := fun q => h ((nI_leI hx hy).mpr q); omega))
theorem j_if_ltN {x : Nat} {off : Int} (C : Cx G X own cc d) (hd : decode cc pc = .ok (.ifCond .lt off, 3)) {tgt : Nat} (ht : (pc : Int) + off = (tgt : Int)) (hx : x < 2 ^ 31) (kf : J G X (pc + 3) lv st μ) : J G X pc lv (.int (nI x) :: st) μ :=
  j_if_lt C hd ht (fun h => absurd h (nI_pos hx)) (fun _ => kf)
theorem j_if_geN {x : Nat} {off : Int} (C : Cx G X own cc d) (hd : decode cc pc = .ok (.ifCond .ge off, 3)) {tgt : Nat} (ht : (pc : Int) + off = (tgt : Int)) (hx : x < 2 ^ 31) (kt : J G X tgt lv st μ) : J G X pc lv (.int (nI x) :: st) μ :=
  j_if_ge C hd ht (fun _ => kt) (fun h => absurd (nI_pos' hx) h)
theorem j_if_eqN {x : Nat} {off : Int} {tgt : Nat} (C : Cx G X own cc d) (hd : decode cc pc = .ok (.ifCond .eq off, 3)) (ht : (pc : Int) + off = (tgt : Int)) (hx : x < 2 ^ 31) (kt : x = 0 → J G X tgt lv st μ) (kf : ¬ x = 0 → J G X (pc + 3) lv st μ) : J G X pc lv (.int (nI x) :: st) μ :=
  j_if_eq C hd ht (fun h => kt ((nI_eq hx (by decide)).mp (h.trans nI_0.symm))) (fun h => kf (fun q => h (by rw [q]; exact nI_0)))
theorem j_if_neN {x : Nat} {off : Int} {tgt : Nat} (C : Cx G X own cc d) (hd : decode cc pc = .ok (.ifCond .ne off, 3)) (ht : (pc : Int) + off = (tgt : Int)) (hx : x < 2 ^ 31) (kt : ¬ x = 0 → J G X tgt lv st μ) (kf : x = 0 → J G X (pc + 3) lv st μ) : J G X pc lv (.int (nI x) :: st) μ :=
  j_if_ne C hd ht (fun h => kt (fun q => h (by rw [q]; exact nI_0))) (fun h => kf ((nI_eq hx (by decide)).mp (h.trans nI_0.symm)))
theorem j_if_leN {x : Nat} {off : Int} {tgt : Nat} (C : Cx G X own cc d) (hd : decode cc pc = .ok (.ifCond .le off, 3)) (ht : (pc : Int) + off = (tgt : Int)) (hx : x < 2 ^ 31) (kt : x = 0 → J G X tgt lv st μ) (kf : 0 < x → J G X (pc + 3) lv st μ) : J G X pc lv (.int (nI x) :: st) μ :=
  j_if_le C hd ht (fun h => kt (by rcases Nat.eq_zero_or_pos x with q | q; exact q; exact absurd h (nI_nle q hx))) (fun h => kf (by rcases Nat.eq_zero_or_pos x with q | q; exact absurd (by rw [q]; exact Int32.le_of_eq nI_0) h; exact q))
theorem j_if_gtN {x : Nat} {off : Int} {tgt : Nat} (C : Cx G X own cc d) (hd : decode cc pc = .ok (.ifCond .gt off, 3)) (ht : (pc : Int) + off = (tgt : Int)) (hx : x < 2 ^ 31) (kt : 0 < x → J G X tgt lv st μ) (kf : x = 0 → J G X (pc + 3) lv st μ) : J G X pc lv (.int (nI x) :: st) μ :=
  j_if_gt C hd ht (fun h => kt (by rcases Nat.eq_zero_or_pos x with q | q; exact absurd h (by rw [q, nI_0]; decide); exact q)) (fun h => kf (by rcases Nat.eq_zero_or_pos x with q | q; exact q; exact absurd (by rw [← nI_0]; exact nI_lt q hx) h))
theorem j_if_eqB {q : Prop} [Decidable q] {off : Int} {tgt : Nat} (C : Cx G X own cc d) (hd : decode cc pc = .ok (.ifCond .eq off, 3)) (ht : (pc : Int) + off = (tgt : Int)) (kt : ¬ q → J G X tgt lv st μ) (kf : q → J G X (pc + 3) lv st μ) : J G X pc lv (.int (b2i q) :: st) μ :=
  j_if_eq C hd ht (fun h => kt (fun z => by rw [b2i_t z] at h; exact absurd h (by decide))) (fun h => kf (by by_cases z : q; exact z; exact absurd (b2i_f z) h))
theorem j_if_neB {q : Prop} [Decidable q] {off : Int} {tgt : Nat} (C : Cx G X own cc d) (hd : decode cc pc = .ok (.ifCond .ne off, 3)) (ht : (pc : Int) + off = (tgt : Int)) (kt : q → J G X tgt lv st μ) (kf : ¬ q → J G X (pc + 3) lv st μ) : J G X pc lv (.int (b2i q) :: st) μ :=
  j_if_ne C hd ht (fun h => kt (by by_cases z : q; exact z; exact absurd (b2i_f z) h)) (fun h => kf (fun z => by rw [b2i_t z] at h; exact absurd h (by decide)))
theorem sn0 {a0 : Option Value} {r : List (Option Value)} {x : Int32} (C : Cx G X own cc d) (hd : decode cc pc = .ok (.istore_n 0, 1)) (hn : noL (a0 :: r) 0 = true) (k : J G X (pc + 1) (some (.int x) :: r) st μ) : J G X pc (a0 :: r) (.int x :: st) μ :=
  j_istoreGn (i := 0) C hd (Nat.lt_of_lt_of_le (show 0 < 1 by decide) (by simp)) hn k
theorem in0 {r0 : Unit} {r : List (Option Value)} {x v : Int32} {n : Int} (C : Cx G X own cc d) (hd : decode cc pc = .ok (.iinc 0 n, 3)) (hs : x + Int32.ofInt n = v) (hn : noL (some (.int x) :: r) 0 = true) (k : J G X (pc + 3) (some (.int v) :: r) st μ) : J G X pc (some (.int x) :: r) st μ :=
  j_iincG C hd rfl hs hn k
theorem sn1 {a0 a1 : Option Value} {r : List (Option Value)} {x : Int32} (C : Cx G X own cc d) (hd : decode cc pc = .ok (.istore_n 1, 1)) (hn : noL (a0 :: a1 :: r) 1 = true) (k : J G X (pc + 1) (a0 :: some (.int x) :: r) st μ) : J G X pc (a0 :: a1 :: r) (.int x :: st) μ :=
  j_istoreGn (i := 1) C hd (Nat.lt_of_lt_of_le (show 1 < 2 by decide) (by simp)) hn k
theorem in1 {a0 : Option Value} {r : List (Option Value)} {x v : Int32} {n : Int} (C : Cx G X own cc d) (hd : decode cc pc = .ok (.iinc 1 n, 3)) (hs : x + Int32.ofInt n = v) (hn : noL (a0 :: some (.int x) :: r) 1 = true) (k : J G X (pc + 3) (a0 :: some (.int v) :: r) st μ) : J G X pc (a0 :: some (.int x) :: r) st μ :=
  j_iincG C hd rfl hs hn k
theorem sn2 {a0 a1 a2 : Option Value} {r : List (Option Value)} {x : Int32} (C : Cx G X own cc d) (hd : decode cc pc = .ok (.istore_n 2, 1)) (hn : noL (a0 :: a1 :: a2 :: r) 2 = true) (k : J G X (pc + 1) (a0 :: a1 :: some (.int x) :: r) st μ) : J G X pc (a0 :: a1 :: a2 :: r) (.int x :: st) μ :=
  j_istoreGn (i := 2) C hd (Nat.lt_of_lt_of_le (show 2 < 3 by decide) (by simp)) hn k
theorem in2 {a0 a1 : Option Value} {r : List (Option Value)} {x v : Int32} {n : Int} (C : Cx G X own cc d) (hd : decode cc pc = .ok (.iinc 2 n, 3)) (hs : x + Int32.ofInt n = v) (hn : noL (a0 :: a1 :: some (.int x) :: r) 2 = true) (k : J G X (pc + 3) (a0 :: a1 :: some (.int v) :: r) st μ) : J G X pc (a0 :: a1 :: some (.int x) :: r) st μ :=
  j_iincG C hd rfl hs hn k
theorem sn3 {a0 a1 a2 a3 : Option Value} {r : List (Option Value)} {x : Int32} (C : Cx G X own cc d) (hd : decode cc pc = .ok (.istore_n 3, 1)) (hn : noL (a0 :: a1 :: a2 :: a3 :: r) 3 = true) (k : J G X (pc + 1) (a0 :: a1 :: a2 :: some (.int x) :: r) st μ) : J G X pc (a0 :: a1 :: a2 :: a3 :: r) (.int x :: st) μ :=
  j_istoreGn (i := 3) C hd (Nat.lt_of_lt_of_le (show 3 < 4 by decide) (by simp)) hn k
theorem in3 {a0 a1 a2 : Option Value} {r : List (Option Value)} {x v : Int32} {n : Int} (C : Cx G X own cc d) (hd : decode cc pc = .ok (.iinc 3 n, 3)) (hs : x + Int32.ofInt n = v) (hn : noL (a0 :: a1 :: a2 :: some (.int x) :: r) 3 = true) (k : J G X (pc + 3) (a0 :: a1 :: a2 :: some (.int v) :: r) st μ) : J G X pc (a0 :: a1 :: a2 :: some (.int x) :: r) st μ :=
  j_iincG C hd rfl hs hn k
theorem sl4 {a0 a1 a2 a3 a4 : Option Value} {r : List (Option Value)} {x : Int32} (C : Cx G X own cc d) (hd : decode cc pc = .ok (.istore 4, 2)) (hn : noL (a0 :: a1 :: a2 :: a3 :: a4 :: r) 4 = true) (k : J G X (pc + 2) (a0 :: a1 :: a2 :: a3 :: some (.int x) :: r) st μ) : J G X pc (a0 :: a1 :: a2 :: a3 :: a4 :: r) (.int x :: st) μ :=
  j_istoreG C hd (Nat.lt_of_lt_of_le (show 4 < 5 by decide) (by simp)) hn k
theorem in4 {a0 a1 a2 a3 : Option Value} {r : List (Option Value)} {x v : Int32} {n : Int} (C : Cx G X own cc d) (hd : decode cc pc = .ok (.iinc 4 n, 3)) (hs : x + Int32.ofInt n = v) (hn : noL (a0 :: a1 :: a2 :: a3 :: some (.int x) :: r) 4 = true) (k : J G X (pc + 3) (a0 :: a1 :: a2 :: a3 :: some (.int v) :: r) st μ) : J G X pc (a0 :: a1 :: a2 :: a3 :: some (.int x) :: r) st μ :=
  j_iincG C hd rfl hs hn k
theorem sl5 {a0 a1 a2 a3 a4 a5 : Option Value} {r : List (Option Value)} {x : Int32} (C : Cx G X own cc d) (hd : decode cc pc = .ok (.istore 5, 2)) (hn : noL (a0 :: a1 :: a2 :: a3 :: a4 :: a5 :: r) 5 = true) (k : J G X (pc + 2) (a0 :: a1 :: a2 :: a3 :: a4 :: some (.int x) :: r) st μ) : J G X pc (a0 :: a1 :: a2 :: a3 :: a4 :: a5 :: r) (.int x :: st) μ :=
  j_istoreG C hd (Nat.lt_of_lt_of_le (show 5 < 6 by decide) (by simp)) hn k
theorem in5 {a0 a1 a2 a3 a4 : Option Value} {r : List (Option Value)} {x v : Int32} {n : Int} (C : Cx G X own cc d) (hd : decode cc pc = .ok (.iinc 5 n, 3)) (hs : x + Int32.ofInt n = v) (hn : noL (a0 :: a1 :: a2 :: a3 :: a4 :: some (.int x) :: r) 5 = true) (k : J G X (pc + 3) (a0 :: a1 :: a2 :: a3 :: a4 :: some (.int v) :: r) st μ) : J G X pc (a0 :: a1 :: a2 :: a3 :: a4 :: some (.int x) :: r) st μ :=
  j_iincG C hd rfl hs hn k
theorem sl6 {a0 a1 a2 a3 a4 a5 a6 : Option Value} {r : List (Option Value)} {x : Int32} (C : Cx G X own cc d) (hd : decode cc pc = .ok (.istore 6, 2)) (hn : noL (a0 :: a1 :: a2 :: a3 :: a4 :: a5 :: a6 :: r) 6 = true) (k : J G X (pc + 2) (a0 :: a1 :: a2 :: a3 :: a4 :: a5 :: some (.int x) :: r) st μ) : J G X pc (a0 :: a1 :: a2 :: a3 :: a4 :: a5 :: a6 :: r) (.int x :: st) μ :=
  j_istoreG C hd (Nat.lt_of_lt_of_le (show 6 < 7 by decide) (by simp)) hn k
theorem in6 {a0 a1 a2 a3 a4 a5 : Option Value} {r : List (Option Value)} {x v : Int32} {n : Int} (C : Cx G X own cc d) (hd : decode cc pc = .ok (.iinc 6 n, 3)) (hs : x + Int32.ofInt n = v) (hn : noL (a0 :: a1 :: a2 :: a3 :: a4 :: a5 :: some (.int x) :: r) 6 = true) (k : J G X (pc + 3) (a0 :: a1 :: a2 :: a3 :: a4 :: a5 :: some (.int v) :: r) st μ) : J G X pc (a0 :: a1 :: a2 :: a3 :: a4 :: a5 :: some (.int x) :: r) st μ :=
  j_iincG C hd rfl hs hn k
theorem sl7 {a0 a1 a2 a3 a4 a5 a6 a7 : Option Value} {r : List (Option Value)} {x : Int32} (C : Cx G X own cc d) (hd : decode cc pc = .ok (.istore 7, 2)) (hn : noL (a0 :: a1 :: a2 :: a3 :: a4 :: a5 :: a6 :: a7 :: r) 7 = true) (k : J G X (pc + 2) (a0 :: a1 :: a2 :: a3 :: a4 :: a5 :: a6 :: some (.int x) :: r) st μ) : J G X pc (a0 :: a1 :: a2 :: a3 :: a4 :: a5 :: a6 :: a7 :: r) (.int x :: st) μ :=
  j_istoreG C hd (Nat.lt_of_lt_of_le (show 7 < 8 by decide) (by simp)) hn k
theorem in7 {a0 a1 a2 a3 a4 a5 a6 : Option Value} {r : List (Option Value)} {x v : Int32} {n : Int} (C : Cx G X own cc d) (hd : decode cc pc = .ok (.iinc 7 n, 3)) (hs : x + Int32.ofInt n = v) (hn : noL (a0 :: a1 :: a2 :: a3 :: a4 :: a5 :: a6 :: some (.int x) :: r) 7 = true) (k : J G X (pc + 3) (a0 :: a1 :: a2 :: a3 :: a4 :: a5 :: a6 :: some (.int v) :: r) st μ) : J G X pc (a0 :: a1 :: a2 :: a3 :: a4 :: a5 :: a6 :: some (.int x) :: r) st μ :=
  j_iincG C hd rfl hs hn k
theorem sl8 {a0 a1 a2 a3 a4 a5 a6 a7 a8 : Option Value} {r : List (Option Value)} {x : Int32} (C : Cx G X own cc d) (hd : decode cc pc = .ok (.istore 8, 2)) (hn : noL (a0 :: a1 :: a2 :: a3 :: a4 :: a5 :: a6 :: a7 :: a8 :: r) 8 = true) (k : J G X (pc + 2) (a0 :: a1 :: a2 :: a3 :: a4 :: a5 :: a6 :: a7 :: some (.int x) :: r) st μ) : J G X pc (a0 :: a1 :: a2 :: a3 :: a4 :: a5 :: a6 :: a7 :: a8 :: r) (.int x :: st) μ :=
  j_istoreG C hd (Nat.lt_of_lt_of_le (show 8 < 9 by decide) (by simp)) hn k
theorem in8 {a0 a1 a2 a3 a4 a5 a6 a7 : Option Value} {r : List (Option Value)} {x v : Int32} {n : Int} (C : Cx G X own cc d) (hd : decode cc pc = .ok (.iinc 8 n, 3)) (hs : x + Int32.ofInt n = v) (hn : noL (a0 :: a1 :: a2 :: a3 :: a4 :: a5 :: a6 :: a7 :: some (.int x) :: r) 8 = true) (k : J G X (pc + 3) (a0 :: a1 :: a2 :: a3 :: a4 :: a5 :: a6 :: a7 :: some (.int v) :: r) st μ) : J G X pc (a0 :: a1 :: a2 :: a3 :: a4 :: a5 :: a6 :: a7 :: some (.int x) :: r) st μ :=
  j_iincG C hd rfl hs hn k
theorem sl9 {a0 a1 a2 a3 a4 a5 a6 a7 a8 a9 : Option Value} {r : List (Option Value)} {x : Int32} (C : Cx G X own cc d) (hd : decode cc pc = .ok (.istore 9, 2)) (hn : noL (a0 :: a1 :: a2 :: a3 :: a4 :: a5 :: a6 :: a7 :: a8 :: a9 :: r) 9 = true) (k : J G X (pc + 2) (a0 :: a1 :: a2 :: a3 :: a4 :: a5 :: a6 :: a7 :: a8 :: some (.int x) :: r) st μ) : J G X pc (a0 :: a1 :: a2 :: a3 :: a4 :: a5 :: a6 :: a7 :: a8 :: a9 :: r) (.int x :: st) μ :=
  j_istoreG C hd (Nat.lt_of_lt_of_le (show 9 < 10 by decide) (by simp)) hn k
theorem in9 {a0 a1 a2 a3 a4 a5 a6 a7 a8 : Option Value} {r : List (Option Value)} {x v : Int32} {n : Int} (C : Cx G X own cc d) (hd : decode cc pc = .ok (.iinc 9 n, 3)) (hs : x + Int32.ofInt n = v) (hn : noL (a0 :: a1 :: a2 :: a3 :: a4 :: a5 :: a6 :: a7 :: a8 :: some (.int x) :: r) 9 = true) (k : J G X (pc + 3) (a0 :: a1 :: a2 :: a3 :: a4 :: a5 :: a6 :: a7 :: a8 :: some (.int v) :: r) st μ) : J G X pc (a0 :: a1 :: a2 :: a3 :: a4 :: a5 :: a6 :: a7 :: a8 :: some (.int x) :: r) st μ :=
  j_iincG C hd rfl hs hn k
theorem sl10 {a0 a1 a2 a3 a4 a5 a6 a7 a8 a9 a10 : Option Value} {r : List (Option Value)} {x : Int32} (C : Cx G X own cc d) (hd : decode cc pc = .ok (.istore 10, 2)) (hn : noL (a0 :: a1 :: a2 :: a3 :: a4 :: a5 :: a6 :: a7 :: a8 :: a9 :: a10 :: r) 10 = true) (k : J G X (pc + 2) (a0 :: a1 :: a2 :: a3 :: a4 :: a5 :: a6 :: a7 :: a8 :: a9 :: some (.int x) :: r) st μ) : J G X pc (a0 :: a1 :: a2 :: a3 :: a4 :: a5 :: a6 :: a7 :: a8 :: a9 :: a10 :: r) (.int x :: st) μ :=
  j_istoreG C hd (Nat.lt_of_lt_of_le (show 10 < 11 by decide) (by simp)) hn k
theorem in10 {a0 a1 a2 a3 a4 a5 a6 a7 a8 a9 : Option Value} {r : List (Option Value)} {x v : Int32} {n : Int} (C : Cx G X own cc d) (hd : decode cc pc = .ok (.iinc 10 n, 3)) (hs : x + Int32.ofInt n = v) (hn : noL (a0 :: a1 :: a2 :: a3 :: a4 :: a5 :: a6 :: a7 :: a8 :: a9 :: some (.int x) :: r) 10 = true) (k : J G X (pc + 3) (a0 :: a1 :: a2 :: a3 :: a4 :: a5 :: a6 :: a7 :: a8 :: a9 :: some (.int v) :: r) st μ) : J G X pc (a0 :: a1 :: a2 :: a3 :: a4 :: a5 :: a6 :: a7 :: a8 :: a9 :: some (.int x) :: r) st μ :=
  j_iincG C hd rfl hs hn k
theorem sl11 {a0 a1 a2 a3 a4 a5 a6 a7 a8 a9 a10 a11 : Option Value} {r : List (Option Value)} {x : Int32} (C : Cx G X own cc d) (hd : decode cc pc = .ok (.istore 11, 2)) (hn : noL (a0 :: a1 :: a2 :: a3 :: a4 :: a5 :: a6 :: a7 :: a8 :: a9 :: a10 :: a11 :: r) 11 = true) (k : J G X (pc + 2) (a0 :: a1 :: a2 :: a3 :: a4 :: a5 :: a6 :: a7 :: a8 :: a9 :: a10 :: some (.int x) :: r) st μ) : J G X pc (a0 :: a1 :: a2 :: a3 :: a4 :: a5 :: a6 :: a7 :: a8 :: a9 :: a10 :: a11 :: r) (.int x :: st) μ :=
  j_istoreG C hd (Nat.lt_of_lt_of_le (show 11 < 12 by decide) (by simp)) hn k
theorem in11 {a0 a1 a2 a3 a4 a5 a6 a7 a8 a9 a10 : Option Value} {r : List (Option Value)} {x v : Int32} {n : Int} (C : Cx G X own cc d) (hd : decode cc pc = .ok (.iinc 11 n, 3)) (hs : x + Int32.ofInt n = v) (hn : noL (a0 :: a1 :: a2 :: a3 :: a4 :: a5 :: a6 :: a7 :: a8 :: a9 :: a10 :: some (.int x) :: r) 11 = true) (k : J G X (pc + 3) (a0 :: a1 :: a2 :: a3 :: a4 :: a5 :: a6 :: a7 :: a8 :: a9 :: a10 :: some (.int v) :: r) st μ) : J G X pc (a0 :: a1 :: a2 :: a3 :: a4 :: a5 :: a6 :: a7 :: a8 :: a9 :: a10 :: some (.int x) :: r) st μ :=
  j_iincG C hd rfl hs hn k
theorem sl12 {a0 a1 a2 a3 a4 a5 a6 a7 a8 a9 a10 a11 a12 : Option Value} {r : List (Option Value)} {x : Int32} (C : Cx G X own cc d) (hd : decode cc pc = .ok (.istore 12, 2)) (hn : noL (a0 :: a1 :: a2 :: a3 :: a4 :: a5 :: a6 :: a7 :: a8 :: a9 :: a10 :: a11 :: a12 :: r) 12 = true) (k : J G X (pc + 2) (a0 :: a1 :: a2 :: a3 :: a4 :: a5 :: a6 :: a7 :: a8 :: a9 :: a10 :: a11 :: some (.int x) :: r) st μ) : J G X pc (a0 :: a1 :: a2 :: a3 :: a4 :: a5 :: a6 :: a7 :: a8 :: a9 :: a10 :: a11 :: a12 :: r) (.int x :: st) μ :=
  j_istoreG C hd (Nat.lt_of_lt_of_le (show 12 < 13 by decide) (by simp)) hn k
theorem in12 {a0 a1 a2 a3 a4 a5 a6 a7 a8 a9 a10 a11 : Option Value} {r : List (Option Value)} {x v : Int32} {n : Int} (C : Cx G X own cc d) (hd : decode cc pc = .ok (.iinc 12 n, 3)) (hs : x + Int32.ofInt n = v) (hn : noL (a0 :: a1 :: a2 :: a3 :: a4 :: a5 :: a6 :: a7 :: a8 :: a9 :: a10 :: a11 :: some (.int x) :: r) 12 = true) (k : J G X (pc + 3) (a0 :: a1 :: a2 :: a3 :: a4 :: a5 :: a6 :: a7 :: a8 :: a9 :: a10 :: a11 :: some (.int v) :: r) st μ) : J G X pc (a0 :: a1 :: a2 :: a3 :: a4 :: a5 :: a6 :: a7 :: a8 :: a9 :: a10 :: a11 :: some (.int x) :: r) st μ :=
  j_iincG C hd rfl hs hn k
theorem sl13 {a0 a1 a2 a3 a4 a5 a6 a7 a8 a9 a10 a11 a12 a13 : Option Value} {r : List (Option Value)} {x : Int32} (C : Cx G X own cc d) (hd : decode cc pc = .ok (.istore 13, 2)) (hn : noL (a0 :: a1 :: a2 :: a3 :: a4 :: a5 :: a6 :: a7 :: a8 :: a9 :: a10 :: a11 :: a12 :: a13 :: r) 13 = true) (k : J G X (pc + 2) (a0 :: a1 :: a2 :: a3 :: a4 :: a5 :: a6 :: a7 :: a8 :: a9 :: a10 :: a11 :: a12 :: some (.int x) :: r) st μ) : J G X pc (a0 :: a1 :: a2 :: a3 :: a4 :: a5 :: a6 :: a7 :: a8 :: a9 :: a10 :: a11 :: a12 :: a13 :: r) (.int x :: st) μ :=
  j_istoreG C hd (Nat.lt_of_lt_of_le (show 13 < 14 by decide) (by simp)) hn k
theorem in13 {a0 a1 a2 a3 a4 a5 a6 a7 a8 a9 a10 a11 a12 : Option Value} {r : List (Option Value)} {x v : Int32} {n : Int} (C : Cx G X own cc d) (hd : decode cc pc = .ok (.iinc 13 n, 3)) (hs : x + Int32.ofInt n = v) (hn : noL (a0 :: a1 :: a2 :: a3 :: a4 :: a5 :: a6 :: a7 :: a8 :: a9 :: a10 :: a11 :: a12 :: some (.int x) :: r) 13 = true) (k : J G X (pc + 3) (a0 :: a1 :: a2 :: a3 :: a4 :: a5 :: a6 :: a7 :: a8 :: a9 :: a10 :: a11 :: a12 :: some (.int v) :: r) st μ) : J G X pc (a0 :: a1 :: a2 :: a3 :: a4 :: a5 :: a6 :: a7 :: a8 :: a9 :: a10 :: a11 :: a12 :: some (.int x) :: r) st μ :=
  j_iincG C hd rfl hs hn k
theorem sl14 {a0 a1 a2 a3 a4 a5 a6 a7 a8 a9 a10 a11 a12 a13 a14 : Option Value} {r : List (Option Value)} {x : Int32} (C : Cx G X own cc d) (hd : decode cc pc = .ok (.istore 14, 2)) (hn : noL (a0 :: a1 :: a2 :: a3 :: a4 :: a5 :: a6 :: a7 :: a8 :: a9 :: a10 :: a11 :: a12 :: a13 :: a14 :: r) 14 = true) (k : J G X (pc + 2) (a0 :: a1 :: a2 :: a3 :: a4 :: a5 :: a6 :: a7 :: a8 :: a9 :: a10 :: a11 :: a12 :: a13 :: some (.int x) :: r) st μ) : J G X pc (a0 :: a1 :: a2 :: a3 :: a4 :: a5 :: a6 :: a7 :: a8 :: a9 :: a10 :: a11 :: a12 :: a13 :: a14 :: r) (.int x :: st) μ :=
  j_istoreG C hd (Nat.lt_of_lt_of_le (show 14 < 15 by decide) (by simp)) hn k
theorem in14 {a0 a1 a2 a3 a4 a5 a6 a7 a8 a9 a10 a11 a12 a13 : Option Value} {r : List (Option Value)} {x v : Int32} {n : Int} (C : Cx G X own cc d) (hd : decode cc pc = .ok (.iinc 14 n, 3)) (hs : x + Int32.ofInt n = v) (hn : noL (a0 :: a1 :: a2 :: a3 :: a4 :: a5 :: a6 :: a7 :: a8 :: a9 :: a10 :: a11 :: a12 :: a13 :: some (.int x) :: r) 14 = true) (k : J G X (pc + 3) (a0 :: a1 :: a2 :: a3 :: a4 :: a5 :: a6 :: a7 :: a8 :: a9 :: a10 :: a11 :: a12 :: a13 :: some (.int v) :: r) st μ) : J G X pc (a0 :: a1 :: a2 :: a3 :: a4 :: a5 :: a6 :: a7 :: a8 :: a9 :: a10 :: a11 :: a12 :: a13 :: some (.int x) :: r) st μ :=
  j_iincG C hd rfl hs hn k
end JN
