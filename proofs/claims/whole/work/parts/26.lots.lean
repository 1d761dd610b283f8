-- LOTS, LATE
def sdF (z : Int32) : Nat → Int32
  | 0 => z
  | k + 1 => sdF z k * 1664525 + 1013904223
def pvF (z : Int32) : Nat := z.toBitVec.toNat % 2 ^ 31 / 256 % 20 + 1
theorem pvF_b (z : Int32) : 1 ≤ pvF z ∧ pvF z ≤ 20 := by unfold pvF; omega
def ppl (E : Mem) (z : Int32) (d f : Nat) : Nat := if f < E 0 0 then pvF (sdF z (d * E 0 0 + f + 1)) else E 3 f
def dayE (E : Mem) (z : Int32) (d : Nat) : Mem := rowM E 3 (ppl E z d)
def dayC (E : Mem) (ρ : Nat → Nat) (z : Int32) (d : Nat) : Nat := Tot (dayE E z d) ρ 0 7
theorem dayE_EI {E : Mem} {z : Int32} {d : Nat} (h : EI E) : EI (dayE E z d) := by
  have e0 : dayE E z d 0 = E 0 := rowM_ne (by decide)
  refine ⟨by rw [e0]; exact h.1, fun f hf => ?_, fun k hk => by rw [dayE, rowM_ne (by decide)]; exact h.2.2 k hk⟩
  rw [e0] at hf
  have a := h.2.1 f hf
  have b := pvF_b (sdF z (d * E 0 0 + f + 1))
  have e3 : dayE E z d 3 f = pvF (sdF z (d * E 0 0 + f + 1)) := by rw [dayE, rowM_at, ppl, if_pos hf]
  rw [e3]
  rw [show dayE E z d 1 = E 1 from rowM_ne (by decide), show dayE E z d 2 = E 2 from rowM_ne (by decide), show dayE E z d 4 = E 4 from rowM_ne (by decide)]
  exact ⟨a.1, a.2.1, b.1, b.2, a.2.2.2.2⟩
theorem dayE_PI {E : Mem} {z : Int32} {d : Nat} (h : PI5 E) : PI5 (dayE E z d) := by
  have e0 : dayE E z d 0 = E 0 := rowM_ne (by decide)
  have e5 : dayE E z d 5 = E 5 := rowM_ne (by decide)
  unfold PI5 OI
  rw [e0, e5]
  exact h
/-- the trial holds E but for its people, of whom those of floors that there are not are E's too -/
def TP (ν E : Mem) : Prop := EQ (rowM (sh ν 8) 3 (fun _ => 0)) (rowM E 3 (fun _ => 0)) ∧ ∀ f, E 0 0 ≤ f → f < 6 → ν 11 f = E 3 f
theorem TP_of {ν E : Mem} (h : EQ (sh ν 8) E) : TP ν E := by
  refine ⟨⟨by rw [rowM_ne (by decide), rowM_ne (by decide)]; exact h.1, fun k i h1 h2 h3 => ?_, fun i hi => by rw [rowM_ne (by decide), rowM_ne (by decide)]; exact h.2.2 i hi⟩, fun f _ h6 => h.2.1 3 f (by decide) (by decide) h6⟩
  by_cases q : k = 3
  · rw [q, rowM_at, rowM_at]
  · rw [rowM_ne q, rowM_ne q]; exact h.2.1 k i h1 h2 h3
theorem TP_up {ν E : Mem} {f v : Nat} (h : TP ν E) (hf : f < E 0 0) : TP (up ν 11 f v) E := by
  obtain ⟨⟨a, b, c⟩, d⟩ := h
  have e : ∀ k, k ≠ 3 → sh (up ν 11 f v) 8 k = sh ν 8 k := fun k hk => up_ne (by omega)
  refine ⟨⟨?_, fun k i h1 h2 h3 => ?_, fun i hi => ?_⟩, fun j h1 h2 => by rw [up_off (Or.inr (by omega))]; exact d j h1 h2⟩
  · rw [rowM_ne (by decide), rowM_ne (by decide), e 0 (by decide)]
    rw [rowM_ne (by decide), rowM_ne (by decide)] at a
    exact a
  · have := b k i h1 h2 h3
    by_cases q : k = 3
    · rw [q, rowM_at, rowM_at]
    · rw [rowM_ne q, rowM_ne q] at this ⊢
      rw [e k q]; exact this
  · have := c i hi
    rw [rowM_ne (by decide), rowM_ne (by decide)] at this ⊢
    rw [e 6 (by decide)]; exact this
theorem TP_eq {ν E : Mem} {z : Int32} {d : Nat} (h : TP ν E) (hp : ∀ f, f < E 0 0 → ν 11 f = pvF (sdF z (d * E 0 0 + f + 1))) : EQ (sh ν 8) (dayE E z d) := by
  obtain ⟨⟨a, b, c⟩, r⟩ := h
  refine ⟨?_, fun k i h1 h2 h3 => ?_, fun i hi => ?_⟩
  · rw [rowM_ne (by decide), rowM_ne (by decide)] at a
    rw [dayE, rowM_ne (by decide)]; exact a
  · by_cases q : k = 3
    · rw [q, dayE, rowM_at, ppl]
      show ν 11 i = _
      by_cases q2 : i < E 0 0
      · rw [if_pos q2]; exact hp i q2
      · rw [if_neg q2]; exact r i (by omega) h3
    · have := b k i h1 h2 h3
      rw [rowM_ne q, rowM_ne q] at this
      rw [dayE, rowM_ne q]; exact this
  · have := c i hi
    rw [rowM_ne (by decide), rowM_ne (by decide)] at this
    rw [dayE, rowM_ne (by decide)]; exact this
theorem TP_keep {ν ν2 E : Mem} (h : TP ν E) (hq : ∀ q, 8 ≤ q → q ≤ 14 → ν2 q = ν q) : TP ν2 E := by
  obtain ⟨⟨a, b, c⟩, d⟩ := h
  have e : ∀ k, k ≤ 6 → sh ν2 8 k = sh ν 8 k := fun k hk => hq (8 + k) (by omega) (by omega)
  refine ⟨⟨?_, fun k i h1 h2 h3 => ?_, fun i hi => ?_⟩, fun j h1 h2 => by rw [hq 11 (by omega) (by omega)]; exact d j h1 h2⟩
  · rw [rowM_ne (by decide), rowM_ne (by decide)] at a ⊢
    rw [e 0 (by decide)]; exact a
  · have := b k i h1 h2 h3
    by_cases q : k = 3
    · rw [q, rowM_at, rowM_at]
    · rw [rowM_ne q, rowM_ne q] at this ⊢
      rw [e k (by omega)]; exact this
  · have := c i hi
    rw [rowM_ne (by decide), rowM_ne (by decide)] at this ⊢
    rw [e 6 (by decide)]; exact this
abbrev kLo (x9 : Int32) : Nat := if x9 < nI 1 then 4 else if nI 20 < x9 then 6 else 0
set_option maxRecDepth 100000 in
set_option maxHeartbeats 4000000 in
theorem ev_X4_lots {G : GX} {x9 y9 : Int32} {μ : Mem} (hE : EI (sh μ 1)) (hP : PI5 (sh μ 1)) : Ev G mX4_lots 5 [rf G 0, .int x9, .int y9] μ (PI (OutC (kLo x9) (nI (sumTo (dayC (sh μ 1) (μ 6) y9) x9.toNatClampNeg)) μ)) := by
  refine Ev.of (own := RX4) (n := 4) (by decide) rfl rfl (catOK rfl) (fun X C E => ?_)
  show J G X 0 [some _, some _, some _, none, none, none, none] [] _
  refine j_iload_n C dX4_lots_0 rfl ?_
  refine j_iconst (v := nI 1) C dX4_lots_1 (by decide) ?_
  refine j_icmp_ge (tgt := 12) C dX4_lots_2 (by decide) (fun c_2 => ?_) (fun c_2 => ?_)
  · refine j_iload_n C dX4_lots_12 rfl ?_
    refine j_bipush (v := nI 20) C dX4_lots_13 (by decide) ?_
    refine j_icmp_le (tgt := 25) C dX4_lots_15 (by decide) (fun c_15 => ?_) (fun c_15 => ?_)
    · obtain ⟨a9, ha9, rfl⟩ := nI_of2 (n := 20) (M := nI 20) (x := x9) (by decide) (Int32.not_lt.mpr (Int32.le_trans (show (0 : Int32) ≤ nI 1 by decide) c_2)) c_15
      have kq : kLo (nI a9) = 0 := by rw [kLo, if_neg (Int32.not_lt.mpr c_2), if_neg (Int32.not_lt.mpr c_15)]
      have hn : μ 1 0 ≤ 6 := hE.1
      refine j_aload_n C dX4_lots_25 rfl ?_
      refine g4_1 C dX4_lots_26 lFX4_16 ?_
      refine j_aload_n C dX4_lots_29 rfl ?_
      refine g4_0 C dX4_lots_30 lFX4_10 ?_
      refine cVv1 C dX4_lots_33 lMX4_75 myX0_copyFrom (ev_X0_copyFrom isH_8 isH_1) (by omega) (rc0 isH_8) (Nat.le_of_ble_eq_true rfl) (fun μ_33 hv_33 => ?_)
      refine j_iload_n C dX4_lots_36 rfl ?_
      refine sn3 C dX4_lots_37 rfl ?_
      refine j_iconst (v := nI 0) C dX4_lots_38 (by decide) ?_
      refine sl4 C dX4_lots_39 rfl ?_
      refine j_iconst (v := nI 0) C dX4_lots_41 (by decide) ?_
      refine sl5 C dX4_lots_42 rfl ?_
      have loop : ∀ c d9 x6 ν, d9 + c = a9 → TP ν (sh μ 1) → KC μ ν → J G X 44 [some (rf G 0), some (.int (nI a9)), some (.int y9), some (.int (sdF y9 (d9 * μ 1 0))), some (.int (nI (sumTo (dayC (sh μ 1) (μ 6) y9) d9))), some (.int (nI d9)), x6] [] ν := by
        intro c
        induction c with
        | zero =>
          intro d9 x6 ν hi hT hK
          refine j_iload C dX4_lots_44 rfl ?_
          refine j_iload_n C dX4_lots_46 rfl ?_
          first | refine j_icmp_geN (tgt := 141) C dX4_lots_47 (by decide) (by omega) (by omega) (fun c_47 => ?_) (fun c_47 => ?_) | refine j_icmp_ge (tgt := 141) C dX4_lots_47 (by decide) (fun c_47 => ?_) (fun c_47 => ?_)
          · refine j_iload C dX4_lots_141 rfl ?_
            exact j_iret C E dX4_lots_143 (outC_ok kq (by rw [cl (by omega), show d9 = a9 by omega]) hK)
          · exact absurd c_47 (by omega)
        | succ c ih =>
          intro d9 x6 ν hi hT hK
          refine j_iload C dX4_lots_44 rfl ?_
          refine j_iload_n C dX4_lots_46 rfl ?_
          first | refine j_icmp_geN (tgt := 141) C dX4_lots_47 (by decide) (by omega) (by omega) (fun c_47 => ?_) (fun c_47 => ?_) | refine j_icmp_ge (tgt := 141) C dX4_lots_47 (by decide) (fun c_47 => ?_) (fun c_47 => ?_)
          · exact absurd c_47 (by omega)
          · refine j_iconst (v := nI 0) C dX4_lots_50 (by decide) ?_
            refine sl6 C dX4_lots_51 rfl ?_
            have inner : ∀ k f9 ν, f9 + k = μ 1 0 → TP ν (sh μ 1) → KC μ ν → (∀ j, j < f9 → ν 11 j = pvF (sdF y9 (d9 * μ 1 0 + j + 1))) → J G X 53 [some (rf G 0), some (.int (nI a9)), some (.int y9), some (.int (sdF y9 (d9 * μ 1 0 + f9))), some (.int (nI (sumTo (dayC (sh μ 1) (μ 6) y9) d9))), some (.int (nI d9)), some (.int (nI f9))] [] ν := by
              intro k
              induction k with
              | zero =>
                intro f9 ν hi hT hK hI
                refine j_iload C dX4_lots_53 rfl ?_
                refine j_aload_n C dX4_lots_55 rfl ?_
                refine g4_1 C dX4_lots_56 lFX4_16 ?_
                refine g0_0 isH_8 C dX4_lots_59 lFX4_154 ?_
                refine J.top (y := nI (μ 1 0)) (by have := hT.1.1; rw [rowM_ne (by decide), rowM_ne (by decide)] at this; exact congrArg nI this) ?_
                first | refine j_icmp_geN (tgt := 102) C dX4_lots_62 (by decide) (by omega) (by omega) (fun c_62 => ?_) (fun c_62 => ?_) | refine j_icmp_ge (tgt := 102) C dX4_lots_62 (by decide) (fun c_62 => ?_) (fun c_62 => ?_)
                · have ef : f9 = μ 1 0 := by omega
                  have hq8 : EQ (sh ν 8) (dayE (sh μ 1) y9 d9) := TP_eq hT (fun j hj => hI j (by have : j < μ 1 0 := hj; omega))
                  have hdE : EI (dayE (sh μ 1) y9 d9) := dayE_EI hE
                  have hdP : PI5 (dayE (sh μ 1) y9 d9) := dayE_PI hP
                  have w1 := EI.eq hq8.symm hdE
                  have w2 := PI5.eq hq8.symm hdE hdP
                  refine j_aload_n C dX4_lots_102 rfl ?_
                  refine g4_4 C dX4_lots_103 lFX4_29 ?_
                  refine j_aload_n C dX4_lots_106 rfl ?_
                  refine g4_1 C dX4_lots_107 lFX4_16 ?_
                  refine j_aload_n C dX4_lots_110 rfl ?_
                  refine g4_1 C dX4_lots_111 lFX4_16 ?_
                  refine g0_5 isH_8 C dX4_lots_114 lFX4_102 ?_
                  refine cVv2 C dX4_lots_117 lMX4_129 myX3_walk (ev_X3_walk isH_8 w1 w2.1 iA_13 (by omega)) (by omega) rc3 (Nat.le_of_ble_eq_true rfl) (fun μ_117 hv_117 => ?_)
                  refine j_iload C dX4_lots_120 rfl ?_
                  refine j_aload_n C dX4_lots_122 rfl ?_
                  refine g4_4 C dX4_lots_123 lFX4_29 ?_
                  refine g3_0 C dX4_lots_126 lFX4_133 ?_
                  refine j_bipush (v := nI 7) C dX4_lots_129 (by decide) ?_
                  refine j_iald C dX4_lots_131 iA_23 (by omega) ?_
                  refine J.top (y := nI (dayC (sh μ 1) (μ 6) y9 d9)) (by
                    rw [hv_117.2.1 7 (by omega)]
                    exact congrArg nI (Tot_eq hq8 w1 w2.1 (fun i hi => by have h6 := w1.1; exact hq8.2.1 5 i (by omega) (by omega) (by omega)))) ?_
                  first | refine j_iaddN C dX4_lots_132 ?_ | refine j_iadd C dX4_lots_132 ?_
                  refine sl4 C dX4_lots_133 rfl ?_
                  first | refine in5 C dX4_lots_135 (nI_1 _) rfl ?_ | refine in5 C dX4_lots_135 rfl rfl ?_
                  refine j_goto (tgt := 44) C dX4_lots_138 (by decide) ?_
                  have e1 : d9 * μ 1 0 + f9 = (d9 + 1) * μ 1 0 := by rw [Nat.succ_mul, ef]
                  rw [e1]
                  exact ih (d9 + 1) _ _ (by omega) (TP_keep hT (fun q h1 h2 => hv_117.1 q (by omega))) (hK.trans hv_117.KC)
                · exact absurd c_62 (by omega)
              | succ k ih2 =>
                intro f9 ν hi hT hK hI
                refine j_iload C dX4_lots_53 rfl ?_
                refine j_aload_n C dX4_lots_55 rfl ?_
                refine g4_1 C dX4_lots_56 lFX4_16 ?_
                refine g0_0 isH_8 C dX4_lots_59 lFX4_154 ?_
                refine J.top (y := nI (μ 1 0)) (by have := hT.1.1; rw [rowM_ne (by decide), rowM_ne (by decide)] at this; exact congrArg nI this) ?_
                first | refine j_icmp_geN (tgt := 102) C dX4_lots_62 (by decide) (by omega) (by omega) (fun c_62 => ?_) (fun c_62 => ?_) | refine j_icmp_ge (tgt := 102) C dX4_lots_62 (by decide) (fun c_62 => ?_) (fun c_62 => ?_)
                · exact absurd c_62 (by omega)
                · refine j_iload_n C dX4_lots_65 rfl ?_
                  refine j_ldc (v := 1664525) C dX4_lots_66 lCX4_189 ?_
                  refine j_imul C dX4_lots_68 ?_
                  refine j_ldc (v := 1013904223) C dX4_lots_69 lCX4_190 ?_
                  refine j_iadd C dX4_lots_71 (J.top (y := (sdF y9 (d9 * μ 1 0 + (f9 + 1)))) rfl ?_)
                  refine sn3 C dX4_lots_72 rfl ?_
                  refine j_aload_n C dX4_lots_73 rfl ?_
                  refine g4_1 C dX4_lots_74 lFX4_16 ?_
                  refine g0_3 isH_8 C dX4_lots_77 lFX4_93 ?_
                  refine j_iload C dX4_lots_80 rfl ?_
                  refine j_iload_n C dX4_lots_82 rfl ?_
                  refine j_ldc (v := 2147483647) C dX4_lots_83 lCX4_191 ?_
                  refine j_iand C dX4_lots_85 (J.top (pk_and _ 31 (by decide)) ?_)
                  refine j_sipush (v := nI 256) C dX4_lots_86 (by decide) ?_
                  first | refine j_idivN C dX4_lots_89 (by omega) (by omega) (by omega) ?_ | refine j_idiv C dX4_lots_89 (by decide) ?_
                  refine j_bipush (v := nI 20) C dX4_lots_90 (by decide) ?_
                  first | refine j_iremN C dX4_lots_92 (by omega) (by omega) (by omega) ?_ | refine j_irem C dX4_lots_92 (by decide) ?_
                  refine j_iconst (v := nI 1) C dX4_lots_93 (by decide) ?_
                  first | refine j_iaddN C dX4_lots_94 ?_ | refine j_iadd C dX4_lots_94 ?_
                  refine j_iast C dX4_lots_95 iA_11 (by omega) ?_
                  first | refine in6 C dX4_lots_96 (nI_1 _) rfl ?_ | refine in6 C dX4_lots_96 rfl rfl ?_
                  refine j_goto (tgt := 53) C dX4_lots_99 (by decide) ?_
                  exact ih2 (f9 + 1) _ (by omega) (TP_up hT (show f9 < μ 1 0 by omega)) (fun q hq => by rw [up_ne (by omega)]; exact hK q hq) (fun j hj => by
                    by_cases e : j = f9
                    · rw [e]; exact up_at
                    · rw [up_off (Or.inr e)]; exact hI j (by omega))
            exact inner (μ 1 0) 0 _ (by omega) hT hK (fun j hj => absurd hj (by omega))
      subst hv_33
      have e0 : y9 = sdF y9 (0 * μ 1 0) := by rw [Nat.zero_mul]; rfl
      have l0 := loop a9 0 none _ (by omega) (TP_of (cpH_eq isH_8 isH_1 (by decide))) cpH_KC
      rw [← e0] at l0
      exact l0
    · refine j_aload_n C dX4_lots_18 rfl ?_
      refine j_bipush (v := (-6)) C dX4_lots_19 (by decide) ?_
      refine cVe1 C dX4_lots_21 lMX4_64 myX4_refuse (ev_X4_refuse (k := 6) (by decide) (by decide)) (by omega) rc4 (Nat.le_of_ble_eq_true rfl) ?_
      exact j_iret C E dX4_lots_24 (outC_no (j := 6) (by rw [kLo, if_neg (Int32.not_lt.mpr c_2), if_pos (Int32.not_le.mp c_15)]) (by decide) (by decide))
  · refine j_aload_n C dX4_lots_5 rfl ?_
    refine j_bipush (v := (-4)) C dX4_lots_6 (by decide) ?_
    refine cVe1 C dX4_lots_8 lMX4_64 myX4_refuse (ev_X4_refuse (k := 4) (by decide) (by decide)) (by omega) rc4 (Nat.le_of_ble_eq_true rfl) ?_
    exact j_iret C E dX4_lots_11 (outC_no (j := 4) (if_pos (Int32.not_le.mp c_2)) (by decide) (by decide))
def liftF (E : Mem) (a b : Nat) : Nat := if a = b then 0 else E 6 7 + dist a b
def lateF (E : Mem) (ρ : Nat → Nat) (t i : Nat) : Nat := (10 - t) * liftF E (vFrom E ρ i) (E 2 (ρ i)) + t * (3 * dist (vFrom E ρ i) (E 2 (ρ i)))
def lateN (E : Mem) (ρ : Nat → Nat) (t : Nat) : Nat := sumTo (lateF E ρ t) (E 0 0)
def cdt (x : Nat) : Nat := if x % 10 = 0 then 10 else if x % 5 = 0 then 5 else if x % 2 = 0 then 2 else 1
theorem lateF_le {E : Mem} {ρ : Nat → Nat} {t i : Nat} (hE : EI E) (ho : OI E ρ) (ht : t ≤ 10) (hi : i < E 0 0) : lateF E ρ t i ≤ 450 := by
  have h1 := vFrom_le hE ho hi
  have h2 := (hE.2.1 _ (ho i hi)).2.1
  have h3 := dist_le h1 h2
  have h4 := hE.set.2.2.2.2.2.2.2.1
  have h5 : liftF E (vFrom E ρ i) (E 2 (ρ i)) ≤ 18 := by unfold liftF; split <;> omega
  have a := Nat.mul_le_mul (show 10 - t ≤ 10 by omega) h5
  have b := Nat.mul_le_mul ht (show 3 * dist (vFrom E ρ i) (E 2 (ρ i)) ≤ 27 by omega)
  unfold lateF
  omega
theorem lateN_le {E : Mem} {ρ : Nat → Nat} {t : Nat} (hE : EI E) (ho : OI E ρ) (ht : t ≤ 10) : lateN E ρ t ≤ 2700 := sum6 (B := 450) hE.1 (fun i hi => lateF_le hE ho ht hi)
theorem lateN_eq {E F : Mem} {o p : Nat → Nat} {t : Nat} (h : EQ E F) (hE : EI E) (ho : OI E o) (hop : eqTo (E 0 0) o p) : lateN E o t = lateN F p t := by
  have h0 : E 0 0 = F 0 0 := h.1
  have h6 := hE.1
  unfold lateN
  rw [sumTo_eq (E 0 0) (fun i hi => show lateF E o t i = lateF F p t i by
    have hoi := ho i hi
    have hf : vFrom E o i = vFrom F p i := by
      unfold vFrom
      by_cases q : i = 0
      · rw [if_pos q, if_pos q, h.2.2 5 (by decide)]
      · rw [if_neg q, if_neg q, ← hop (i - 1) (by omega)]
        have := ho (i - 1) (by omega)
        exact h.2.1 2 _ (by omega) (by omega) (by omega)
    unfold lateF liftF
    rw [hf, ← hop i hi, h.2.1 2 (o i) (by omega) (by omega) (by omega), h.2.2 7 (by decide)]), h0]
def OutCL (k : Nat) (w : Int64) (μ : Mem) (v : Int64) (μ' : Mem) : Prop := (k = 0 ∧ v = w ∧ KC μ μ') ∨ (0 < k ∧ v = 4000000000000000000 - (-nI k).toInt64 ∧ μ' = up μ 37 k (μ 37 k + 1))
def OutML (k : Nat) (w : Int64) (μ : Mem) (v : Int64) (μ' : Mem) : Prop := (k = 0 ∧ v = w ∧ KM μ μ') ∨ (0 < k ∧ v = 4000000000000000000 - (-nI k).toInt64 ∧ μ' = up μ 55 k (μ 55 k + 1))
abbrev kLa (x9 y9 : Int32) : Nat := if x9 < 0 then 4 else if nI 10 < x9 then 6 else if 0 ≤ y9 ∧ y9 ≤ nI 1 then 0 else 2
def laW (E : Mem) (ρ : Nat → Nat) (t : Nat) (y9 : Int32) : Int64 := if y9 = 0 then lN (lateN E ρ t / cdt (lateN E ρ t)) else lN (10 / cdt (lateN E ρ t))
theorem cdt_b (x : Nat) : 1 ≤ cdt x ∧ cdt x ≤ 10 := by unfold cdt; (repeat' split) <;> omega
set_option maxRecDepth 100000 in
set_option maxHeartbeats 4000000 in
theorem ev_X4_cdt {G : GX} {a9 : Nat} {μ : Mem} (ha : a9 < 2 ^ 30) : Ev G mX4_commonDivisorWithTen 0 [.int (nI a9)] μ (PIe (nI (cdt a9)) μ) := by
  refine Ev.of (own := RX4) (n := 0) (by decide) rfl rfl (catOK rfl) (fun X C E => ?_)
  show J G X 0 [some _] [] _
  refine j_iload_n C dX4_commonDivisorWithTen_0 rfl ?_
  refine j_bipush (v := nI 10) C dX4_commonDivisorWithTen_1 (by decide) ?_
  first | refine j_iremN C dX4_commonDivisorWithTen_3 (by omega) (by omega) (by omega) ?_ | refine j_irem C dX4_commonDivisorWithTen_3 (by decide) ?_
  refine j_if_neN (tgt := 10) C dX4_commonDivisorWithTen_4 (by decide) (by omega) (fun c_4 => ?_) (fun c_4 => ?_)
  · refine j_iload_n C dX4_commonDivisorWithTen_10 rfl ?_
    refine j_iconst (v := nI 5) C dX4_commonDivisorWithTen_11 (by decide) ?_
    first | refine j_iremN C dX4_commonDivisorWithTen_12 (by omega) (by omega) (by omega) ?_ | refine j_irem C dX4_commonDivisorWithTen_12 (by decide) ?_
    refine j_if_neN (tgt := 18) C dX4_commonDivisorWithTen_13 (by decide) (by omega) (fun c_13 => ?_) (fun c_13 => ?_)
    · refine j_iload_n C dX4_commonDivisorWithTen_18 rfl ?_
      refine j_iconst (v := nI 2) C dX4_commonDivisorWithTen_19 (by decide) ?_
      first | refine j_iremN C dX4_commonDivisorWithTen_20 (by omega) (by omega) (by omega) ?_ | refine j_irem C dX4_commonDivisorWithTen_20 (by decide) ?_
      refine j_if_neN (tgt := 28) C dX4_commonDivisorWithTen_21 (by decide) (by omega) (fun c_21 => ?_) (fun c_21 => ?_)
      · refine j_iconst (v := nI 1) C dX4_commonDivisorWithTen_28 (by decide) ?_
        exact j_iret C E dX4_commonDivisorWithTen_29 (by first | exact ret_e (by rw [cdt, if_neg c_4, if_neg c_13, if_pos c_21]) | exact ret_e (by rw [cdt, if_neg c_4, if_neg c_13, if_neg c_21]))
      · refine j_iconst (v := nI 2) C dX4_commonDivisorWithTen_24 (by decide) ?_
        refine j_goto (tgt := 29) C dX4_commonDivisorWithTen_25 (by decide) ?_
        exact j_iret C E dX4_commonDivisorWithTen_29 (by first | exact ret_e (by rw [cdt, if_neg c_4, if_neg c_13, if_pos c_21]) | exact ret_e (by rw [cdt, if_neg c_4, if_neg c_13, if_neg c_21]))
    · refine j_iconst (v := nI 5) C dX4_commonDivisorWithTen_16 (by decide) ?_
      exact j_iret C E dX4_commonDivisorWithTen_17 (ret_e (by rw [cdt, if_neg c_4, if_pos c_13]))
  · refine j_bipush (v := nI 10) C dX4_commonDivisorWithTen_7 (by decide) ?_
    exact j_iret C E dX4_commonDivisorWithTen_9 (ret_e (by rw [cdt, if_pos c_4]))
set_option maxRecDepth 100000 in
set_option maxHeartbeats 4000000 in
theorem ev_X4_tenths {G : GX} {a9 : Nat} {μ : Mem} (hE : EI (sh μ 1)) (hP : PI5 (sh μ 1)) (ha : a9 ≤ 10) : Ev G mX4_tenthsOnTheWay 2 [rf G 0, .int (nI a9)] μ (PIe (nI (lateN (sh μ 1) (μ 6) a9)) μ) := by
  refine Ev.of (own := RX4) (n := 4) (by decide) rfl rfl (catOK rfl) (fun X C E => ?_)
  show J G X 0 [some _, some _, none, none, none, none] [] _
  have hn : μ 1 0 ≤ 6 := hE.1
  have loop : ∀ k i9 x5, i9 + k = μ 1 0 → J G X 15 [some (rf G 0), some (.int (nI a9)), some (.int (nI (sumTo (lateF (sh μ 1) (μ 6) a9) i9))), some (.int (nI (vFrom (sh μ 1) (μ 6) i9))), some (.int (nI i9)), x5] [] μ := by
    intro k
    induction k with
    | zero =>
      intro i9 x5 hi
      refine j_iload C dX4_tenthsOnTheWay_15 rfl ?_
      refine j_aload_n C dX4_tenthsOnTheWay_17 rfl ?_
      refine g4_0 C dX4_tenthsOnTheWay_18 lFX4_10 ?_
      refine g0_0 isH_1 C dX4_tenthsOnTheWay_21 lFX4_154 ?_
      first | refine j_icmp_geN (tgt := 85) C dX4_tenthsOnTheWay_24 (by decide) (by omega) (by omega) (fun c_24 => ?_) (fun c_24 => ?_) | refine j_icmp_ge (tgt := 85) C dX4_tenthsOnTheWay_24 (by decide) (fun c_24 => ?_) (fun c_24 => ?_)
      · refine j_iload_n C dX4_tenthsOnTheWay_85 rfl ?_
        exact j_iret C E dX4_tenthsOnTheWay_86 ⟨by rw [show i9 = μ 1 0 by omega]; rfl, rfl⟩
      · exact absurd c_24 (by omega)
    | succ k ih =>
      intro i9 x5 hi
      refine j_iload C dX4_tenthsOnTheWay_15 rfl ?_
      refine j_aload_n C dX4_tenthsOnTheWay_17 rfl ?_
      refine g4_0 C dX4_tenthsOnTheWay_18 lFX4_10 ?_
      refine g0_0 isH_1 C dX4_tenthsOnTheWay_21 lFX4_154 ?_
      first | refine j_icmp_geN (tgt := 85) C dX4_tenthsOnTheWay_24 (by decide) (by omega) (by omega) (fun c_24 => ?_) (fun c_24 => ?_) | refine j_icmp_ge (tgt := 85) C dX4_tenthsOnTheWay_24 (by decide) (fun c_24 => ?_) (fun c_24 => ?_)
      · exact absurd c_24 (by omega)
      · have hlt : i9 < (sh μ 1) 0 0 := by show i9 < μ 1 0; omega
        have hvf : vFrom (sh μ 1) (μ 6) i9 ≤ 9 := vFrom_le hE hP.1 hlt
        have hoi : μ 6 i9 < μ 1 0 := hP.1 i9 hlt
        have hlv : (sh μ 1) 2 (μ 6 i9) ≤ 9 := (hE.2.1 _ hoi).2.1
        refine j_aload_n C dX4_tenthsOnTheWay_27 rfl ?_
        refine g4_0 C dX4_tenthsOnTheWay_28 lFX4_10 ?_
        refine g0_2 isH_1 C dX4_tenthsOnTheWay_31 lFX4_90 ?_
        refine j_aload_n C dX4_tenthsOnTheWay_34 rfl ?_
        refine g4_0 C dX4_tenthsOnTheWay_35 lFX4_10 ?_
        refine g0_5 isH_1 C dX4_tenthsOnTheWay_38 lFX4_102 ?_
        refine j_iload C dX4_tenthsOnTheWay_41 rfl ?_
        refine j_iald C dX4_tenthsOnTheWay_43 iA_6 (by omega) ?_
        refine J.top (y := nI (μ 6 i9)) rfl ?_
        refine j_iald C dX4_tenthsOnTheWay_44 iA_3 (by omega) ?_
        refine J.top (y := nI ((sh μ 1) 2 (μ 6 i9))) rfl ?_
        refine sl5 C dX4_tenthsOnTheWay_45 rfl ?_
        refine j_iload_n C dX4_tenthsOnTheWay_47 rfl ?_
        refine j_bipush (v := nI 10) C dX4_tenthsOnTheWay_48 (by decide) ?_
        refine j_iload_n C dX4_tenthsOnTheWay_50 rfl ?_
        first | refine j_isubN C dX4_tenthsOnTheWay_51 (by omega) ?_ | refine j_isub C dX4_tenthsOnTheWay_51 ?_
        refine j_aload_n C dX4_tenthsOnTheWay_52 rfl ?_
        refine g4_0 C dX4_tenthsOnTheWay_53 lFX4_10 ?_
        refine j_iload_n C dX4_tenthsOnTheWay_56 rfl ?_
        refine j_iload C dX4_tenthsOnTheWay_57 rfl ?_
        refine cVe2 C dX4_tenthsOnTheWay_59 lMX4_213 myX0_minutesByLift (ev_X0_minutesByLift isH_1 (by omega) (by omega)) (by omega) (rc0 isH_1) (Nat.le_of_ble_eq_true rfl) ?_
        first | refine j_imulN C dX4_tenthsOnTheWay_62 ?_ | refine j_imul C dX4_tenthsOnTheWay_62 ?_
        first | refine j_iaddN C dX4_tenthsOnTheWay_63 ?_ | refine j_iadd C dX4_tenthsOnTheWay_63 ?_
        refine sn2 C dX4_tenthsOnTheWay_64 rfl ?_
        refine j_iload_n C dX4_tenthsOnTheWay_65 rfl ?_
        refine j_iload_n C dX4_tenthsOnTheWay_66 rfl ?_
        refine j_iload_n C dX4_tenthsOnTheWay_67 rfl ?_
        refine j_iload C dX4_tenthsOnTheWay_68 rfl ?_
        refine cSe2 C dX4_tenthsOnTheWay_70 lMX4_216 myX0_minutesByRamp (ev_X0_minutesByRamp (by omega) (by omega)) (by omega) (Nat.le_of_ble_eq_true rfl) ?_
        first | refine j_imulN C dX4_tenthsOnTheWay_73 ?_ | refine j_imul C dX4_tenthsOnTheWay_73 ?_
        first | refine j_iaddN C dX4_tenthsOnTheWay_74 ?_ | refine j_iadd C dX4_tenthsOnTheWay_74 ?_
        refine J.top (y := nI (sumTo (lateF (sh μ 1) (μ 6) a9) (i9 + 1))) (by rw [sumTo, Nat.add_assoc]; rfl) ?_
        refine sn2 C dX4_tenthsOnTheWay_75 rfl ?_
        refine j_iload C dX4_tenthsOnTheWay_76 rfl ?_
        refine J.top (y := nI (vFrom (sh μ 1) (μ 6) (i9 + 1))) rfl ?_
        refine sn3 C dX4_tenthsOnTheWay_78 rfl ?_
        first | refine in4 C dX4_tenthsOnTheWay_79 (nI_1 _) rfl ?_ | refine in4 C dX4_tenthsOnTheWay_79 rfl rfl ?_
        refine j_goto (tgt := 15) C dX4_tenthsOnTheWay_82 (by decide) ?_
        exact ih (i9 + 1) _ (by omega)
  refine j_iconst (v := nI 0) C dX4_tenthsOnTheWay_0 (by decide) ?_
  refine sn2 C dX4_tenthsOnTheWay_1 rfl ?_
  refine j_aload_n C dX4_tenthsOnTheWay_2 rfl ?_
  refine g4_0 C dX4_tenthsOnTheWay_3 lFX4_10 ?_
  refine g0_6 isH_1 C dX4_tenthsOnTheWay_6 lFX4_116 ?_
  refine j_iconst (v := nI 5) C dX4_tenthsOnTheWay_9 (by decide) ?_
  refine j_iald C dX4_tenthsOnTheWay_10 iA_7 (by omega) ?_
  refine sn3 C dX4_tenthsOnTheWay_11 rfl ?_
  refine j_iconst (v := nI 0) C dX4_tenthsOnTheWay_12 (by decide) ?_
  refine sl4 C dX4_tenthsOnTheWay_13 rfl ?_
  exact loop (μ 1 0) 0 _ (by omega)
theorem kLa4 {x9 y9 : Int32} (h : x9 < 0) : kLa x9 y9 = 4 := if_pos h
theorem kLa6 {x9 y9 : Int32} (h : ¬ x9 < 0) (h2 : nI 10 < x9) : kLa x9 y9 = 6 := by rw [kLa, if_neg h, if_pos h2]
theorem kLa2 {x9 y9 : Int32} (h : ¬ x9 < 0) (h2 : ¬ nI 10 < x9) (h3 : ¬ (0 ≤ y9 ∧ y9 ≤ nI 1)) : kLa x9 y9 = 2 := by rw [kLa, if_neg h, if_neg h2, if_neg h3]
set_option maxRecDepth 100000 in
set_option maxHeartbeats 4000000 in
theorem ev_X4_late {G : GX} {x9 y9 : Int32} {μ : Mem} (hE : EI (sh μ 1)) (hP : PI5 (sh μ 1)) : Ev G mX4_late 3 [rf G 0, .int x9, .int y9] μ (PL (OutCL (kLa x9 y9) (laW (sh μ 1) (μ 6) x9.toNatClampNeg y9) μ)) := by
  refine Ev.of (own := RX4) (n := 2) (by decide) rfl rfl (catOK rfl) (fun X C E => ?_)
  show J G X 0 [some _, some _, some _, none, none] [] _
  refine j_iload_n C dX4_late_0 rfl ?_
  refine j_if_ge (tgt := 16) C dX4_late_1 (by decide) (fun c_1 => ?_) (fun c_1 => ?_)
  · refine j_iload_n C dX4_late_16 rfl ?_
    refine j_bipush (v := nI 10) C dX4_late_17 (by decide) ?_
    refine j_icmp_le (tgt := 34) C dX4_late_19 (by decide) (fun c_19 => ?_) (fun c_19 => ?_)
    · obtain ⟨a9, ha9, rfl⟩ := nI_of2 (n := 10) (M := nI 10) (x := x9) (by decide) (Int32.not_lt.mpr c_1) c_19
      refine j_iload_n C dX4_late_34 rfl ?_
      refine j_if_lt (tgt := 43) C dX4_late_35 (by decide) (fun c_35 => ?_) (fun c_35 => ?_)
      · have c_40 : ¬ (0 ≤ y9 ∧ y9 ≤ nI 1) := fun q => absurd q.1 (Int32.not_le.mpr c_35)
        refine j_ldc2 (v := 4000000000000000000) C dX4_late_43 lCX4_172 ?_
        refine j_aload_n C dX4_late_46 rfl ?_
        refine j_bipush (v := (-2)) C dX4_late_47 (by decide) ?_
        refine cVe1 C dX4_late_49 lMX4_64 myX4_refuse (ev_X4_refuse (k := 2) (by decide) (by decide)) (by omega) rc4 (Nat.le_of_ble_eq_true rfl) ?_
        first | refine j_i2lN C dX4_late_52 (by omega) ?_ | refine j_i2l C dX4_late_52 ?_
        refine j_lsub C dX4_late_53 ?_
        exact j_lret C E dX4_late_54 ⟨_, rfl, Or.inr ⟨by rw [kLa2 (Int32.not_lt.mpr c_1) (Int32.not_lt.mpr c_19) c_40]; decide, by rw [kLa2 (Int32.not_lt.mpr c_1) (Int32.not_lt.mpr c_19) c_40]; rfl, by rw [kLa2 (Int32.not_lt.mpr c_1) (Int32.not_lt.mpr c_19) c_40]⟩⟩
      · refine j_iload_n C dX4_late_38 rfl ?_
        refine j_iconst (v := nI 1) C dX4_late_39 (by decide) ?_
        refine j_icmp_le (tgt := 55) C dX4_late_40 (by decide) (fun c_40 => ?_) (fun c_40 => ?_)
        · have kq : kLa (nI a9) y9 = 0 := by rw [kLa, if_neg (Int32.not_lt.mpr c_1), if_neg (Int32.not_lt.mpr c_19), if_pos ⟨Int32.not_lt.mp c_35, c_40⟩]
          have hlb := lateN_le hE hP.1 ha9
          have hcb := cdt_b (lateN (sh μ 1) (μ 6) a9)
          refine j_aload_n C dX4_late_55 rfl ?_
          refine j_iload_n C dX4_late_56 rfl ?_
          refine cVe1 C dX4_late_57 lMX4_174 myX4_tenthsOnTheWay (ev_X4_tenths hE hP ha9) (by omega) rc4 (Nat.le_of_ble_eq_true rfl) ?_
          refine sn3 C dX4_late_60 rfl ?_
          refine j_iload_n C dX4_late_61 rfl ?_
          refine cSe1 C dX4_late_62 lMX4_177 myX4_commonDivisorWithTen (ev_X4_cdt (by have : lateN (sh μ 1) (μ 6) a9 ≤ 2700 := hlb; omega)) (by omega) (Nat.le_of_ble_eq_true rfl) ?_
          refine sl4 C dX4_late_65 rfl ?_
          refine j_iload_n C dX4_late_67 rfl ?_
          refine j_if_ne (tgt := 79) C dX4_late_68 (by decide) (fun c_68 => ?_) (fun c_68 => ?_)
          · refine j_bipush (v := nI 10) C dX4_late_79 (by decide) ?_
            refine j_iload C dX4_late_81 rfl ?_
            refine j_idivN C dX4_late_83 (by omega) (by omega) (by omega) ?_
            refine j_i2lN C dX4_late_84 (Nat.lt_of_le_of_lt (Nat.div_le_self _ _) (by decide)) ?_
            exact j_lret C E dX4_late_85 (by first | exact ⟨_, rfl, Or.inl ⟨kq, by rw [cl (by omega), laW, if_pos c_68], KC.refl μ⟩⟩ | exact ⟨_, rfl, Or.inl ⟨kq, by rw [cl (by omega), laW, if_neg c_68], KC.refl μ⟩⟩)
          · refine j_iload_n C dX4_late_71 rfl ?_
            refine j_iload C dX4_late_72 rfl ?_
            refine j_idivN C dX4_late_74 (by have : lateN (sh μ 1) (μ 6) a9 ≤ 2700 := hlb; omega) (by omega) (by omega) ?_
            refine j_i2lN C dX4_late_75 (Nat.lt_of_le_of_lt (Nat.div_le_self _ _) (Nat.lt_of_le_of_lt hlb (by decide))) ?_
            refine j_goto (tgt := 85) C dX4_late_76 (by decide) ?_
            exact j_lret C E dX4_late_85 (by first | exact ⟨_, rfl, Or.inl ⟨kq, by rw [cl (by omega), laW, if_pos c_68], KC.refl μ⟩⟩ | exact ⟨_, rfl, Or.inl ⟨kq, by rw [cl (by omega), laW, if_neg c_68], KC.refl μ⟩⟩)
        · have c_40 : ¬ (0 ≤ y9 ∧ y9 ≤ nI 1) := fun q => c_40 q.2
          refine j_ldc2 (v := 4000000000000000000) C dX4_late_43 lCX4_172 ?_
          refine j_aload_n C dX4_late_46 rfl ?_
          refine j_bipush (v := (-2)) C dX4_late_47 (by decide) ?_
          refine cVe1 C dX4_late_49 lMX4_64 myX4_refuse (ev_X4_refuse (k := 2) (by decide) (by decide)) (by omega) rc4 (Nat.le_of_ble_eq_true rfl) ?_
          first | refine j_i2lN C dX4_late_52 (by omega) ?_ | refine j_i2l C dX4_late_52 ?_
          refine j_lsub C dX4_late_53 ?_
          exact j_lret C E dX4_late_54 ⟨_, rfl, Or.inr ⟨by rw [kLa2 (Int32.not_lt.mpr c_1) (Int32.not_lt.mpr c_19) c_40]; decide, by rw [kLa2 (Int32.not_lt.mpr c_1) (Int32.not_lt.mpr c_19) c_40]; rfl, by rw [kLa2 (Int32.not_lt.mpr c_1) (Int32.not_lt.mpr c_19) c_40]⟩⟩
    · refine j_ldc2 (v := 4000000000000000000) C dX4_late_22 lCX4_172 ?_
      refine j_aload_n C dX4_late_25 rfl ?_
      refine j_bipush (v := (-6)) C dX4_late_26 (by decide) ?_
      refine cVe1 C dX4_late_28 lMX4_64 myX4_refuse (ev_X4_refuse (k := 6) (by decide) (by decide)) (by omega) rc4 (Nat.le_of_ble_eq_true rfl) ?_
      first | refine j_i2lN C dX4_late_31 (by omega) ?_ | refine j_i2l C dX4_late_31 ?_
      refine j_lsub C dX4_late_32 ?_
      exact j_lret C E dX4_late_33 ⟨_, rfl, Or.inr ⟨by rw [kLa6 (Int32.not_lt.mpr c_1) (Int32.not_le.mp c_19)]; decide, by rw [kLa6 (Int32.not_lt.mpr c_1) (Int32.not_le.mp c_19)]; rfl, by rw [kLa6 (Int32.not_lt.mpr c_1) (Int32.not_le.mp c_19)]⟩⟩
  · refine j_ldc2 (v := 4000000000000000000) C dX4_late_4 lCX4_172 ?_
    refine j_aload_n C dX4_late_7 rfl ?_
    refine j_bipush (v := (-4)) C dX4_late_8 (by decide) ?_
    refine cVe1 C dX4_late_10 lMX4_64 myX4_refuse (ev_X4_refuse (k := 4) (by decide) (by decide)) (by omega) rc4 (Nat.le_of_ble_eq_true rfl) ?_
    first | refine j_i2lN C dX4_late_13 (by omega) ?_ | refine j_i2l C dX4_late_13 ?_
    refine j_lsub C dX4_late_14 ?_
    exact j_lret C E dX4_late_15 ⟨_, rfl, Or.inr ⟨by rw [kLa4 (Int32.not_le.mp c_1)]; decide, by rw [kLa4 (Int32.not_le.mp c_1)]; rfl, by rw [kLa4 (Int32.not_le.mp c_1)]⟩⟩
