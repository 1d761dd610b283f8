-- THE TROLLEY: sums
theorem KC.row {μ ν : Mem} (h : KC μ ν) {q : Nat} (hq : q < 8) : ν q = μ q := h q (Or.inl hq)
theorem KCeq {μ ν : Mem} (h : KC μ ν) : EQ (sh ν 1) (sh μ 1) := ⟨congrFun (h.row (by omega)) _, fun k i h1 h2 _ => congrFun (h.row (by omega)) i, fun i _ => congrFun (h.row (by omega)) i⟩
theorem KCei {μ ν : Mem} (h : KC μ ν) (hE : EI (sh μ 1)) : EI (sh ν 1) := EI.eq (KCeq h).symm hE
theorem KCpi {μ ν : Mem} (h : KC μ ν) (hE : EI (sh μ 1)) (hP : PI5 (sh μ 1)) : PI5 (sh ν 1) := PI5.eq (KCeq h).symm hE hP
def machF (E : Mem) (f : Nat) : Nat := E 3 f * (2 * E 2 f + 1)
def machN (E : Mem) : Nat := sumTo (machF E) (E 0 0)
theorem machN_eq {E F : Mem} (h : EQ E F) (hE : EI E) : machN E = machN F := by
  have h0 : E 0 0 = F 0 0 := h.1
  have h6 := hE.1
  unfold machN
  rw [sumTo_eq (E 0 0) (fun f hf => show machF E f = machF F f by unfold machF; rw [h.2.1 3 f (by omega) (by omega) (by omega), h.2.1 2 f (by omega) (by omega) (by omega)]), h0]
set_option maxRecDepth 100000 in
set_option maxHeartbeats 4000000 in
theorem ev_X4_minutesToMachine {G : GX} {μ : Mem} (hn : μ 1 0 ≤ 6) : Ev G mX4_minutesToMachine 1 [rf G 0] μ (PIe (nI (machN (sh μ 1))) μ) := by
  refine Ev.of (own := RX4) (n := 2) (by decide) rfl rfl (catOK rfl) (fun X C E => ?_)
  show J G X 0 [some _, none, none] [] _
  have loop : ∀ k i, i + k = μ 1 0 → J G X 4 [some (rf G 0), some (.int (nI (sumTo (machF (sh μ 1)) i))), some (.int (nI i))] [] μ := by
    intro k
    induction k with
    | zero =>
      intro i hi
      refine j_iload_n C dX4_minutesToMachine_4 rfl ?_
      refine j_aload_n C dX4_minutesToMachine_5 rfl ?_
      refine g4_0 C dX4_minutesToMachine_6 lFX4_10 ?_
      refine g0_0 isH_1 C dX4_minutesToMachine_9 lFX4_154 ?_
      first | refine j_icmp_geN (tgt := 47) C dX4_minutesToMachine_12 (by decide) (by omega) (by omega) (fun c_12 => ?_) (fun c_12 => ?_) | refine j_icmp_ge (tgt := 47) C dX4_minutesToMachine_12 (by decide) (fun c_12 => ?_) (fun c_12 => ?_)
      · refine j_iload_n C dX4_minutesToMachine_47 rfl ?_
        exact j_iret C E dX4_minutesToMachine_48 ⟨by rw [show i = μ 1 0 by omega]; rfl, rfl⟩
      · exact absurd c_12 (by omega)
    | succ k ih =>
      intro i hi
      refine j_iload_n C dX4_minutesToMachine_4 rfl ?_
      refine j_aload_n C dX4_minutesToMachine_5 rfl ?_
      refine g4_0 C dX4_minutesToMachine_6 lFX4_10 ?_
      refine g0_0 isH_1 C dX4_minutesToMachine_9 lFX4_154 ?_
      first | refine j_icmp_geN (tgt := 47) C dX4_minutesToMachine_12 (by decide) (by omega) (by omega) (fun c_12 => ?_) (fun c_12 => ?_) | refine j_icmp_ge (tgt := 47) C dX4_minutesToMachine_12 (by decide) (fun c_12 => ?_) (fun c_12 => ?_)
      · exact absurd c_12 (by omega)
      · refine j_iload_n C dX4_minutesToMachine_15 rfl ?_
        refine j_aload_n C dX4_minutesToMachine_16 rfl ?_
        refine g4_0 C dX4_minutesToMachine_17 lFX4_10 ?_
        refine g0_3 isH_1 C dX4_minutesToMachine_20 lFX4_93 ?_
        refine j_iload_n C dX4_minutesToMachine_23 rfl ?_
        refine j_iald C dX4_minutesToMachine_24 iA_4 (by omega) ?_
        refine j_iconst (v := nI 2) C dX4_minutesToMachine_25 (by decide) ?_
        refine j_aload_n C dX4_minutesToMachine_26 rfl ?_
        refine g4_0 C dX4_minutesToMachine_27 lFX4_10 ?_
        refine g0_2 isH_1 C dX4_minutesToMachine_30 lFX4_90 ?_
        refine j_iload_n C dX4_minutesToMachine_33 rfl ?_
        refine j_iald C dX4_minutesToMachine_34 iA_3 (by omega) ?_
        first | refine j_imulN C dX4_minutesToMachine_35 ?_ | refine j_imul C dX4_minutesToMachine_35 ?_
        refine j_iconst (v := nI 1) C dX4_minutesToMachine_36 (by decide) ?_
        first | refine j_iaddN C dX4_minutesToMachine_37 ?_ | refine j_iadd C dX4_minutesToMachine_37 ?_
        first | refine j_imulN C dX4_minutesToMachine_38 ?_ | refine j_imul C dX4_minutesToMachine_38 ?_
        first | refine j_iaddN C dX4_minutesToMachine_39 ?_ | refine j_iadd C dX4_minutesToMachine_39 ?_
        refine sn1 C dX4_minutesToMachine_40 rfl ?_
        first | refine in2 C dX4_minutesToMachine_41 (nI_1 _) rfl ?_ | refine in2 C dX4_minutesToMachine_41 rfl rfl ?_
        refine j_goto (tgt := 4) C dX4_minutesToMachine_44 (by decide) ?_
        exact ih (i + 1) (by omega)
  refine j_iconst (v := nI 0) C dX4_minutesToMachine_0 (by decide) ?_
  refine sn1 C dX4_minutesToMachine_1 rfl ?_
  refine j_iconst (v := nI 0) C dX4_minutesToMachine_2 (by decide) ?_
  refine sn2 C dX4_minutesToMachine_3 rfl ?_
  exact loop (μ 1 0) 0 (by omega)
set_option maxRecDepth 100000 in
set_option maxHeartbeats 4000000 in
theorem ev_X4_machine {G : GX} {μ : Mem} (hE : EI (sh μ 1)) (hP : PI5 (sh μ 1)) : Ev G mX4_machine 2 [rf G 0] μ (PI (OutC 0 (nI (machN (sh μ 1))) μ)) := by
  refine Ev.of (own := RX4) (n := 0) (by decide) rfl rfl (catOK rfl) (fun X C E => ?_)
  show J G X 0 [some _] [] _
  refine j_aload_n C dX4_machine_0 rfl ?_
  refine cVe0 C dX4_machine_1 lMX4_168 myX4_minutesToMachine (ev_X4_minutesToMachine hE.1) (by omega) rc4 (Nat.le_of_ble_eq_true rfl) ?_
  exact j_iret C E dX4_machine_4 (outC_ok rfl rfl (KC.refl μ))
set_option maxRecDepth 100000 in
set_option maxHeartbeats 4000000 in
theorem ev_X4_saves {G : GX} {μ : Mem} (hE : EI (sh μ 1)) (hP : PI5 (sh μ 1)) : Ev G mX4_saves 5 [rf G 0] μ (PI (OutC 0 (nI (machN (sh μ 1)) - nI (Tot (sh μ 1) (μ 6) 0 6)) μ)) := by
  refine Ev.of (own := RX4) (n := 0) (by decide) rfl rfl (catOK rfl) (fun X C E => ?_)
  show J G X 0 [some _] [] _
  refine j_aload_n C dX4_saves_0 rfl ?_
  refine g4_4 C dX4_saves_1 lFX4_29 ?_
  refine j_aload_n C dX4_saves_4 rfl ?_
  refine g4_0 C dX4_saves_5 lFX4_10 ?_
  refine j_aload_n C dX4_saves_8 rfl ?_
  refine g4_0 C dX4_saves_9 lFX4_10 ?_
  refine g0_5 isH_1 C dX4_saves_12 lFX4_102 ?_
  refine cVv2 C dX4_saves_15 lMX4_129 myX3_walk (ev_X3_walk isH_1 hE hP.1 iA_6 (by omega)) (by omega) rc3 (Nat.le_of_ble_eq_true rfl) (fun μ_15 hv_15 => ?_)
  refine j_aload_n C dX4_saves_18 rfl ?_
  have hn2 : μ_15 1 0 ≤ 6 := by rw [hv_15.KC.row (by omega)]; exact hE.1
  refine cVe0 C dX4_saves_19 lMX4_168 myX4_minutesToMachine (ev_X4_minutesToMachine hn2) (by omega) rc4 (Nat.le_of_ble_eq_true rfl) ?_
  refine j_aload_n C dX4_saves_22 rfl ?_
  refine g4_4 C dX4_saves_23 lFX4_29 ?_
  refine g3_0 C dX4_saves_26 lFX4_133 ?_
  refine j_bipush (v := nI 6) C dX4_saves_29 (by decide) ?_
  refine j_iald C dX4_saves_31 iA_23 (by omega) ?_
  refine j_isub C dX4_saves_32 ?_
  exact j_iret C E dX4_saves_33 (outC_ok rfl (by rw [hv_15.2.1 6 (by omega), machN_eq (KCeq hv_15.KC) (KCei hv_15.KC hE)]) hv_15.KC)
theorem OI.eq {E F : Mem} {ρ σ : Nat → Nat} (h : EQ E F) (hop : eqTo (E 0 0) ρ σ) (ho : OI E ρ) : OI F σ := by
  have h0 : E 0 0 = F 0 0 := h.1
  intro i hi
  have := ho i (by omega)
  rw [← hop i (by omega)]
  omega
theorem eqTo.refl {n : Nat} (ρ : Nat → Nat) : eqTo n ρ ρ := fun _ _ => rfl
set_option maxRecDepth 100000 in
set_option maxHeartbeats 4000000 in
theorem ev_X4_oneEach {G : GX} {μ : Mem} (hE : EI (sh μ 1)) (hP : PI5 (sh μ 1)) : Ev G mX4_oneEach 5 [rf G 0] μ (PI (OutC 0 (nI (Tot (sh μ 1) (μ 6) 0 5) - nI (Tot (sh μ 1) (μ 6) 1 5)) μ)) := by
  refine Ev.of (own := RX4) (n := 1) (by decide) rfl rfl (catOK rfl) (fun X C E => ?_)
  show J G X 0 [some _, none] [] _
  refine j_aload_n C dX4_oneEach_0 rfl ?_
  refine g4_4 C dX4_oneEach_1 lFX4_29 ?_
  refine j_aload_n C dX4_oneEach_4 rfl ?_
  refine g4_0 C dX4_oneEach_5 lFX4_10 ?_
  refine j_aload_n C dX4_oneEach_8 rfl ?_
  refine g4_0 C dX4_oneEach_9 lFX4_10 ?_
  refine g0_5 isH_1 C dX4_oneEach_12 lFX4_102 ?_
  refine cVv2 C dX4_oneEach_15 lMX4_129 myX3_walk (ev_X3_walk isH_1 hE hP.1 iA_6 (by omega)) (by omega) rc3 (Nat.le_of_ble_eq_true rfl) (fun μ_15 hv_15 => ?_)
  refine j_aload_n C dX4_oneEach_18 rfl ?_
  refine g4_4 C dX4_oneEach_19 lFX4_29 ?_
  refine g3_0 C dX4_oneEach_22 lFX4_133 ?_
  refine j_iconst (v := nI 5) C dX4_oneEach_25 (by decide) ?_
  refine j_iald C dX4_oneEach_26 iA_23 (by omega) ?_
  refine J.top (y := nI (Tot (sh μ 1) (μ 6) 0 5)) (by rw [hv_15.2.1 5 (by omega)]) ?_
  refine sn1 C dX4_oneEach_27 rfl ?_
  refine j_aload_n C dX4_oneEach_28 rfl ?_
  refine g4_4 C dX4_oneEach_29 lFX4_29 ?_
  refine j_aload_n C dX4_oneEach_32 rfl ?_
  refine g4_0 C dX4_oneEach_33 lFX4_10 ?_
  refine j_aload_n C dX4_oneEach_36 rfl ?_
  refine g4_0 C dX4_oneEach_37 lFX4_10 ?_
  refine g0_5 isH_1 C dX4_oneEach_40 lFX4_102 ?_
  have k1 := hv_15.KC
  have r6 := k1.row (q := 6) (by omega)
  refine cVv2 C dX4_oneEach_43 lMX4_165 myX3_walkWithOneBunEach (ev_X3_walkWithOneBunEach isH_1 (KCei k1 hE) (by show OI (sh μ_15 1) (μ_15 6); rw [r6]; exact OI.eq (KCeq k1).symm (eqTo.refl _) hP.1) iA_6 (by omega)) (by omega) rc3 (Nat.le_of_ble_eq_true rfl) (fun μ_43 hv_43 => ?_)
  refine j_iload_n C dX4_oneEach_46 rfl ?_
  refine j_aload_n C dX4_oneEach_47 rfl ?_
  refine g4_4 C dX4_oneEach_48 lFX4_29 ?_
  refine g3_0 C dX4_oneEach_51 lFX4_133 ?_
  refine j_iconst (v := nI 5) C dX4_oneEach_54 (by decide) ?_
  refine j_iald C dX4_oneEach_55 iA_23 (by omega) ?_
  refine J.top (y := nI (Tot (sh μ 1) (μ 6) 1 5)) (by rw [hv_43.2.1 5 (by omega)]; show nI (Tot (sh μ_15 1) (μ_15 6) 1 5) = _; rw [r6]; exact congrArg nI (Tot_eq (KCeq k1) (KCei k1 hE) (OI.eq (KCeq k1).symm (eqTo.refl _) hP.1) (eqTo.refl _))) ?_
  refine j_isub C dX4_oneEach_56 ?_
  exact j_iret C E dX4_oneEach_57 (outC_ok rfl rfl (k1.trans hv_43.KC))
def sqF (E : Mem) (ρ : Nat → Nat) (z i : Nat) : Nat := if E 2 (ρ i) ≤ z then oStand E ρ 0 i else 0
def sqN (E : Mem) (ρ : Nat → Nat) (z : Nat) : Nat := sumTo (sqF E ρ z) (E 0 0)
theorem sqN_eq {E F : Mem} {o p : Nat → Nat} {z : Nat} (h : EQ E F) (hE : EI E) (ho : OI E o) (hop : eqTo (E 0 0) o p) : sqN E o z = sqN F p z := by
  have h0 : E 0 0 = F 0 0 := h.1
  have h6 := hE.1
  unfold sqN
  rw [sumTo_eq (E 0 0) (fun i hi => show sqF E o z i = sqF F p z i by
    have a := o_eq (w := 0) h hE ho hop hi
    have b := ho i hi
    unfold sqF
    rw [a.2.2.2.2.2.1, ← hop i hi, h.2.1 2 (o i) (by omega) (by omega) (by omega)]), h0]
abbrev kSq (x : Int32) : Nat := if x < 0 then 4 else if nI 9 < x then 6 else 0
set_option maxRecDepth 100000 in
set_option maxHeartbeats 4000000 in
theorem ev_X4_squeak {G : GX} {x : Int32} {μ : Mem} (hE : EI (sh μ 1)) (hP : PI5 (sh μ 1)) : Ev G mX4_squeak 5 [rf G 0, .int x] μ (PI (OutC (kSq x) (nI (sqN (sh μ 1) (μ 6) x.toNatClampNeg)) μ)) := by
  refine Ev.of (own := RX4) (n := 2) (by decide) rfl rfl (catOK rfl) (fun X C E => ?_)
  show J G X 0 [some _, some _, none, none] [] _
  refine j_iload_n C dX4_squeak_0 rfl ?_
  refine j_if_ge (tgt := 11) C dX4_squeak_1 (by decide) (fun c_1 => ?_) (fun c_1 => ?_)
  · refine j_iload_n C dX4_squeak_11 rfl ?_
    refine j_bipush (v := nI 9) C dX4_squeak_12 (by decide) ?_
    refine j_icmp_le (tgt := 24) C dX4_squeak_14 (by decide) (fun c_14 => ?_) (fun c_14 => ?_)
    · obtain ⟨z, hz, rfl⟩ := nI_of2 (n := 9) (M := nI 9) (by decide) (Int32.not_lt.mpr c_1) c_14
      have kq : kSq (nI z) = 0 := by rw [kSq, if_neg (Int32.not_lt.mpr c_1), if_neg (Int32.not_lt.mpr c_14)]
      have hn : μ 1 0 ≤ 6 := hE.1
      refine j_aload_n C dX4_squeak_24 rfl ?_
      refine g4_4 C dX4_squeak_25 lFX4_29 ?_
      refine j_aload_n C dX4_squeak_28 rfl ?_
      refine g4_0 C dX4_squeak_29 lFX4_10 ?_
      refine j_aload_n C dX4_squeak_32 rfl ?_
      refine g4_0 C dX4_squeak_33 lFX4_10 ?_
      refine g0_5 isH_1 C dX4_squeak_36 lFX4_102 ?_
      refine cVv2 C dX4_squeak_39 lMX4_129 myX3_walk (ev_X3_walk isH_1 hE hP.1 iA_6 (by omega)) (by omega) rc3 (Nat.le_of_ble_eq_true rfl) (fun μ_39 hv_39 => ?_)
      refine j_iconst (v := nI 0) C dX4_squeak_42 (by decide) ?_
      refine sn2 C dX4_squeak_43 rfl ?_
      refine j_iconst (v := nI 0) C dX4_squeak_44 (by decide) ?_
      refine sn3 C dX4_squeak_45 rfl ?_
      have k1 := hv_39.KC
      have loop : ∀ k i, i + k = μ 1 0 → J G X 46 [some (rf G 0), some (.int (nI z)), some (.int (nI (sumTo (sqF (sh μ 1) (μ 6) z) i))), some (.int (nI i))] [] μ_39 := by
        intro k
        induction k with
        | zero =>
          intro i hi
          refine j_iload_n C dX4_squeak_46 rfl ?_
          refine j_aload_n C dX4_squeak_47 rfl ?_
          refine g4_0 C dX4_squeak_48 lFX4_10 ?_
          refine g0_0 isH_1 C dX4_squeak_51 lFX4_154 ?_
          refine J.top (y := nI (μ 1 0)) (by rw [k1.row (by omega)]) ?_
          first | refine j_icmp_geN (tgt := 96) C dX4_squeak_54 (by decide) (by omega) (by omega) (fun c_54 => ?_) (fun c_54 => ?_) | refine j_icmp_ge (tgt := 96) C dX4_squeak_54 (by decide) (fun c_54 => ?_) (fun c_54 => ?_)
          · refine j_iload_n C dX4_squeak_96 rfl ?_
            exact j_iret C E dX4_squeak_97 (outC_ok kq (by rw [cl (by omega), show i = μ 1 0 by omega]; rfl) k1)
          · exact absurd c_54 (by omega)
        | succ k ih =>
          intro i hi
          refine j_iload_n C dX4_squeak_46 rfl ?_
          refine j_aload_n C dX4_squeak_47 rfl ?_
          refine g4_0 C dX4_squeak_48 lFX4_10 ?_
          refine g0_0 isH_1 C dX4_squeak_51 lFX4_154 ?_
          refine J.top (y := nI (μ 1 0)) (by rw [k1.row (by omega)]) ?_
          first | refine j_icmp_geN (tgt := 96) C dX4_squeak_54 (by decide) (by omega) (by omega) (fun c_54 => ?_) (fun c_54 => ?_) | refine j_icmp_ge (tgt := 96) C dX4_squeak_54 (by decide) (fun c_54 => ?_) (fun c_54 => ?_)
          · exact absurd c_54 (by omega)
          · have oi : μ 6 i < μ 1 0 := hP.1 i (by show i < μ 1 0; omega)
            have li := (hE.2.1 (μ 6 i) oi).2.1
            refine j_aload_n C dX4_squeak_57 rfl ?_
            refine g4_0 C dX4_squeak_58 lFX4_10 ?_
            refine g0_2 isH_1 C dX4_squeak_61 lFX4_90 ?_
            refine j_aload_n C dX4_squeak_64 rfl ?_
            refine g4_0 C dX4_squeak_65 lFX4_10 ?_
            refine g0_5 isH_1 C dX4_squeak_68 lFX4_102 ?_
            refine j_iload_n C dX4_squeak_71 rfl ?_
            refine j_iald C dX4_squeak_72 iA_6 (by omega) ?_
            refine J.top (y := nI (μ 6 i)) (by show nI (μ_39 6 i) = _; rw [k1.row (by omega)]) ?_
            refine j_iald C dX4_squeak_73 iA_3 (by omega) ?_
            refine J.top (y := nI ((sh μ 1) 2 (μ 6 i))) (by show nI (μ_39 3 (μ 6 i)) = _; rw [k1.row (by omega)]; rfl) ?_
            refine j_iload_n C dX4_squeak_74 rfl ?_
            first | refine j_icmp_gtN (tgt := 90) C dX4_squeak_75 (by decide) (by omega) (by omega) (fun c_75 => ?_) (fun c_75 => ?_) | refine j_icmp_gt (tgt := 90) C dX4_squeak_75 (by decide) (fun c_75 => ?_) (fun c_75 => ?_)
            · have e5 : sumTo (sqF (sh μ 1) (μ 6) z) (i + 1) = sumTo (sqF (sh μ 1) (μ 6) z) i := by rw [sumTo, sqF, if_neg (by omega), Nat.add_zero]
              rw [← e5]
              first | refine in3 C dX4_squeak_90 (nI_1 _) rfl ?_ | refine in3 C dX4_squeak_90 rfl rfl ?_
              refine j_goto (tgt := 46) C dX4_squeak_93 (by decide) ?_
              exact ih (i + 1) (by omega)
            · refine j_iload_n C dX4_squeak_78 rfl ?_
              refine j_aload_n C dX4_squeak_79 rfl ?_
              refine g4_4 C dX4_squeak_80 lFX4_29 ?_
              refine g3_6 C dX4_squeak_83 lFX4_180 ?_
              refine j_iload_n C dX4_squeak_86 rfl ?_
              refine j_iald C dX4_squeak_87 iA_29 (by omega) ?_
              refine J.top (y := nI (oStand (sh μ 1) (μ 6) 0 i)) (by rw [(hv_39.2.2 i (by show i < μ 1 0; omega)).2.2.2.2.2]) ?_
              first | refine j_iaddN C dX4_squeak_88 ?_ | refine j_iadd C dX4_squeak_88 ?_
              refine J.top (y := nI (sumTo (sqF (sh μ 1) (μ 6) z) (i + 1))) (by rw [sumTo, sqF, if_pos c_75]) ?_
              refine sn2 C dX4_squeak_89 rfl ?_
              first | refine in3 C dX4_squeak_90 (nI_1 _) rfl ?_ | refine in3 C dX4_squeak_90 rfl rfl ?_
              refine j_goto (tgt := 46) C dX4_squeak_93 (by decide) ?_
              exact ih (i + 1) (by omega)
      exact loop (μ 1 0) 0 (by omega)
    · refine j_aload_n C dX4_squeak_17 rfl ?_
      refine j_bipush (v := (-6)) C dX4_squeak_18 (by decide) ?_
      refine cVe1 C dX4_squeak_20 lMX4_64 myX4_refuse (ev_X4_refuse (k := 6) (by decide) (by decide)) (by omega) rc4 (Nat.le_of_ble_eq_true rfl) ?_
      exact j_iret C E dX4_squeak_23 (outC_no (j := 6) (by rw [kSq, if_neg (Int32.not_lt.mpr c_1), if_pos (Int32.not_le.mp c_14)]) (by decide) (by decide))
  · refine j_aload_n C dX4_squeak_4 rfl ?_
    refine j_bipush (v := (-4)) C dX4_squeak_5 (by decide) ?_
    refine cVe1 C dX4_squeak_7 lMX4_64 myX4_refuse (ev_X4_refuse (k := 4) (by decide) (by decide)) (by omega) rc4 (Nat.le_of_ble_eq_true rfl) ?_
    exact j_iret C E dX4_squeak_10 (outC_no (j := 4) (if_pos (Int32.not_le.mp c_1)) (by decide) (by decide))
def ctW (E : Mem) (r : Nat → Nat) (nr nl : Nat) (y : Int32) : Int32 := if nI 11 ≤ y ∧ y ≤ nI 16 then nI (r (y.toNatClampNeg - 10)) else if y = nI 0 then nI (E 0 0) else if y = nI 1 then nI (sumTo (E 3) (E 0 0)) else if y = nI 2 then nI (E 6 2 + E 6 3 + E 6 4) else if y = nI 3 then nI (E 6 0) else if y = nI 4 then nI (E 6 1) else if y = nI 5 then nI (E 6 5) else if y = nI 6 then nI (E 6 6) else if y = nI 7 then nI (E 6 8) else if y = nI 8 then nI nr else if y = nI 9 then nI nl else -9
theorem in09 (y : Int32) : (y = nI 0 ∨ y = nI 1 ∨ y = nI 2 ∨ y = nI 3 ∨ y = nI 4 ∨ y = nI 5 ∨ y = nI 6 ∨ y = nI 7 ∨ y = nI 8 ∨ y = nI 9) ∨ ((¬ y = nI 0 ∧ ¬ y = nI 1 ∧ ¬ y = nI 2 ∧ ¬ y = nI 3 ∧ ¬ y = nI 4 ∧ ¬ y = nI 5 ∧ ¬ y = nI 6 ∧ ¬ y = nI 7 ∧ ¬ y = nI 8 ∧ ¬ y = nI 9) ∧ (y.toInt < 0 ∨ 9 < y.toInt)) := by
  by_cases h : 0 ≤ y ∧ y ≤ nI 9
  · obtain ⟨z, hz, rfl⟩ := nI_of2 (n := 9) (M := nI 9) (by decide) (Int32.not_lt.mpr h.1) h.2
    refine Or.inl ?_
    have : z = 0 ∨ z = 1 ∨ z = 2 ∨ z = 3 ∨ z = 4 ∨ z = 5 ∨ z = 6 ∨ z = 7 ∨ z = 8 ∨ z = 9 := by omega
    rcases this with rfl | rfl | rfl | rfl | rfl | rfl | rfl | rfl | rfl | rfl <;> simp
  · refine Or.inr ⟨⟨?_, ?_, ?_, ?_, ?_, ?_, ?_, ?_, ?_, ?_⟩, ?_⟩
    iterate 10 (intro e; rw [e] at h; exact h (by decide))
    have h0 : (0 : Int32).toInt = 0 := by decide
    have h4 : (nI 9).toInt = 9 := by decide
    rcases Int.lt_or_le y.toInt 0 with q | q
    · exact Or.inl q
    · rcases Int.lt_or_le 9 y.toInt with q2 | q2
      · exact Or.inr q2
      · exact absurd ⟨Int32.le_iff_toInt_le.mpr (by rw [h0]; exact q), Int32.le_iff_toInt_le.mpr (by rw [h4]; exact q2)⟩ h
set_option maxRecDepth 100000 in
set_option maxHeartbeats 4000000 in
theorem ev_X4_count {G : GX} {x : Int32} {μ : Mem} (hE : EI (sh μ 1)) (hP : PI5 (sh μ 1)) : Ev G mX4_count 2 [rf G 0, .int x] μ (PI (OutC 0 (ctW (sh μ 1) (μ 37) (μ 0 10) (μ 34 1) x) μ)) := by
  refine Ev.of (own := RX4) (n := 0) (by decide) rfl rfl (catOK rfl) (fun X C E => ?_)
  show J G X 0 [some _, some _] [] _
  refine j_iload_n C dX4_count_0 rfl ?_
  refine j_bipush (v := nI 11) C dX4_count_1 (by decide) ?_
  refine j_icmp_lt (tgt := 22) C dX4_count_3 (by decide) (fun c_3 => ?_) (fun c_3 => ?_)
  · have out : ¬ (nI 11 ≤ x ∧ x ≤ nI 16) := fun q => absurd q.1 (Int32.not_le.mpr c_3)
    refine j_iload_n C dX4_count_22 rfl ?_
    rcases in09 x with (rfl | rfl | rfl | rfl | rfl | rfl | rfl | rfl | rfl | rfl) | ⟨xn, xo⟩
    · refine j_tabIn (tgt := 76) C dX4_count_23 (by decide) (by decide) (off := 53) (by decide) (by decide) ?_
      refine j_aload_n C dX4_count_76 rfl ?_
      refine g4_0 C dX4_count_77 lFX4_10 ?_
      refine g0_0 isH_1 C dX4_count_80 lFX4_154 ?_
      exact j_iret C E dX4_count_83 (outC_ok rfl (by first | rfl | (rw [ctW, if_neg (by decide)]; rfl)) (KC.refl μ))
    · refine j_tabIn (tgt := 84) C dX4_count_23 (by decide) (by decide) (off := 61) (by decide) (by decide) ?_
      refine j_aload_n C dX4_count_84 rfl ?_
      refine g4_0 C dX4_count_85 lFX4_10 ?_
      refine cVe0 C dX4_count_88 lMX4_192 myX0_allPeople (ev_X0_allPeople isH_1 hE.1) (by omega) (rc0 isH_1) (Nat.le_of_ble_eq_true rfl) ?_
      exact j_iret C E dX4_count_91 (outC_ok rfl (by first | rfl | (rw [ctW, if_neg (by decide)]; rfl)) (KC.refl μ))
    · refine j_tabIn (tgt := 92) C dX4_count_23 (by decide) (by decide) (off := 69) (by decide) (by decide) ?_
      refine j_aload_n C dX4_count_92 rfl ?_
      refine g4_0 C dX4_count_93 lFX4_10 ?_
      refine g0_6 isH_1 C dX4_count_96 lFX4_116 ?_
      refine j_iconst (v := nI 2) C dX4_count_99 (by decide) ?_
      refine j_iald C dX4_count_100 iA_7 (by omega) ?_
      refine j_aload_n C dX4_count_101 rfl ?_
      refine g4_0 C dX4_count_102 lFX4_10 ?_
      refine g0_6 isH_1 C dX4_count_105 lFX4_116 ?_
      refine j_iconst (v := nI 3) C dX4_count_108 (by decide) ?_
      refine j_iald C dX4_count_109 iA_7 (by omega) ?_
      first | refine j_iaddN C dX4_count_110 ?_ | refine j_iadd C dX4_count_110 ?_
      refine j_aload_n C dX4_count_111 rfl ?_
      refine g4_0 C dX4_count_112 lFX4_10 ?_
      refine g0_6 isH_1 C dX4_count_115 lFX4_116 ?_
      refine j_iconst (v := nI 4) C dX4_count_118 (by decide) ?_
      refine j_iald C dX4_count_119 iA_7 (by omega) ?_
      first | refine j_iaddN C dX4_count_120 ?_ | refine j_iadd C dX4_count_120 ?_
      exact j_iret C E dX4_count_121 (outC_ok rfl (by first | rfl | (rw [ctW, if_neg (by decide)]; rfl)) (KC.refl μ))
    · refine j_tabIn (tgt := 122) C dX4_count_23 (by decide) (by decide) (off := 99) (by decide) (by decide) ?_
      refine j_aload_n C dX4_count_122 rfl ?_
      refine g4_0 C dX4_count_123 lFX4_10 ?_
      refine g0_6 isH_1 C dX4_count_126 lFX4_116 ?_
      refine j_iconst (v := nI 0) C dX4_count_129 (by decide) ?_
      refine j_iald C dX4_count_130 iA_7 (by omega) ?_
      exact j_iret C E dX4_count_131 (outC_ok rfl (by first | rfl | (rw [ctW, if_neg (by decide)]; rfl)) (KC.refl μ))
    · refine j_tabIn (tgt := 132) C dX4_count_23 (by decide) (by decide) (off := 109) (by decide) (by decide) ?_
      refine j_aload_n C dX4_count_132 rfl ?_
      refine g4_0 C dX4_count_133 lFX4_10 ?_
      refine g0_6 isH_1 C dX4_count_136 lFX4_116 ?_
      refine j_iconst (v := nI 1) C dX4_count_139 (by decide) ?_
      refine j_iald C dX4_count_140 iA_7 (by omega) ?_
      exact j_iret C E dX4_count_141 (outC_ok rfl (by first | rfl | (rw [ctW, if_neg (by decide)]; rfl)) (KC.refl μ))
    · refine j_tabIn (tgt := 142) C dX4_count_23 (by decide) (by decide) (off := 119) (by decide) (by decide) ?_
      refine j_aload_n C dX4_count_142 rfl ?_
      refine g4_0 C dX4_count_143 lFX4_10 ?_
      refine g0_6 isH_1 C dX4_count_146 lFX4_116 ?_
      refine j_iconst (v := nI 5) C dX4_count_149 (by decide) ?_
      refine j_iald C dX4_count_150 iA_7 (by omega) ?_
      exact j_iret C E dX4_count_151 (outC_ok rfl (by first | rfl | (rw [ctW, if_neg (by decide)]; rfl)) (KC.refl μ))
    · refine j_tabIn (tgt := 152) C dX4_count_23 (by decide) (by decide) (off := 129) (by decide) (by decide) ?_
      refine j_aload_n C dX4_count_152 rfl ?_
      refine g4_0 C dX4_count_153 lFX4_10 ?_
      refine g0_6 isH_1 C dX4_count_156 lFX4_116 ?_
      refine j_bipush (v := nI 6) C dX4_count_159 (by decide) ?_
      refine j_iald C dX4_count_161 iA_7 (by omega) ?_
      exact j_iret C E dX4_count_162 (outC_ok rfl (by first | rfl | (rw [ctW, if_neg (by decide)]; rfl)) (KC.refl μ))
    · refine j_tabIn (tgt := 163) C dX4_count_23 (by decide) (by decide) (off := 140) (by decide) (by decide) ?_
      refine j_aload_n C dX4_count_163 rfl ?_
      refine g4_0 C dX4_count_164 lFX4_10 ?_
      refine g0_6 isH_1 C dX4_count_167 lFX4_116 ?_
      refine j_bipush (v := nI 8) C dX4_count_170 (by decide) ?_
      refine j_iald C dX4_count_172 iA_7 (by omega) ?_
      exact j_iret C E dX4_count_173 (outC_ok rfl (by first | rfl | (rw [ctW, if_neg (by decide)]; rfl)) (KC.refl μ))
    · refine j_tabIn (tgt := 174) C dX4_count_23 (by decide) (by decide) (off := 151) (by decide) (by decide) ?_
      refine j_aload_n C dX4_count_174 rfl ?_
      refine g4_10 C dX4_count_175 lFX4_57 ?_
      exact j_iret C E dX4_count_178 (outC_ok rfl (by first | rfl | (rw [ctW, if_neg (by decide)]; rfl)) (KC.refl μ))
    · refine j_tabIn (tgt := 179) C dX4_count_23 (by decide) (by decide) (off := 156) (by decide) (by decide) ?_
      refine j_aload_n C dX4_count_179 rfl ?_
      refine g4_8 C dX4_count_180 lFX4_50 ?_
      refine g2_1 C dX4_count_183 lFX4_68 ?_
      exact j_iret C E dX4_count_186 (outC_ok rfl (by first | rfl | (rw [ctW, if_neg (by decide)]; rfl)) (KC.refl μ))
    · refine j_tabOut (tgt := 187) C dX4_count_23 xo (by decide) ?_
      refine j_bipush (v := (-9)) C dX4_count_187 (by decide) ?_
      exact j_iret C E dX4_count_189 (outC_ok rfl (by rw [ctW, if_neg out, if_neg xn.1, if_neg xn.2.1, if_neg xn.2.2.1, if_neg xn.2.2.2.1, if_neg xn.2.2.2.2.1, if_neg xn.2.2.2.2.2.1, if_neg xn.2.2.2.2.2.2.1, if_neg xn.2.2.2.2.2.2.2.1, if_neg xn.2.2.2.2.2.2.2.2.1, if_neg xn.2.2.2.2.2.2.2.2.2]) (KC.refl μ))
  · refine j_iload_n C dX4_count_6 rfl ?_
    refine j_bipush (v := nI 16) C dX4_count_7 (by decide) ?_
    refine j_icmp_gt (tgt := 22) C dX4_count_9 (by decide) (fun c_9 => ?_) (fun c_9 => ?_)
    · have out : ¬ (nI 11 ≤ x ∧ x ≤ nI 16) := fun q => absurd q.2 (Int32.not_le.mpr c_9)
      refine j_iload_n C dX4_count_22 rfl ?_
      rcases in09 x with (rfl | rfl | rfl | rfl | rfl | rfl | rfl | rfl | rfl | rfl) | ⟨xn, xo⟩
      · refine j_tabIn (tgt := 76) C dX4_count_23 (by decide) (by decide) (off := 53) (by decide) (by decide) ?_
        refine j_aload_n C dX4_count_76 rfl ?_
        refine g4_0 C dX4_count_77 lFX4_10 ?_
        refine g0_0 isH_1 C dX4_count_80 lFX4_154 ?_
        exact j_iret C E dX4_count_83 (outC_ok rfl (by first | rfl | (rw [ctW, if_neg (by decide)]; rfl)) (KC.refl μ))
      · refine j_tabIn (tgt := 84) C dX4_count_23 (by decide) (by decide) (off := 61) (by decide) (by decide) ?_
        refine j_aload_n C dX4_count_84 rfl ?_
        refine g4_0 C dX4_count_85 lFX4_10 ?_
        refine cVe0 C dX4_count_88 lMX4_192 myX0_allPeople (ev_X0_allPeople isH_1 hE.1) (by omega) (rc0 isH_1) (Nat.le_of_ble_eq_true rfl) ?_
        exact j_iret C E dX4_count_91 (outC_ok rfl (by first | rfl | (rw [ctW, if_neg (by decide)]; rfl)) (KC.refl μ))
      · refine j_tabIn (tgt := 92) C dX4_count_23 (by decide) (by decide) (off := 69) (by decide) (by decide) ?_
        refine j_aload_n C dX4_count_92 rfl ?_
        refine g4_0 C dX4_count_93 lFX4_10 ?_
        refine g0_6 isH_1 C dX4_count_96 lFX4_116 ?_
        refine j_iconst (v := nI 2) C dX4_count_99 (by decide) ?_
        refine j_iald C dX4_count_100 iA_7 (by omega) ?_
        refine j_aload_n C dX4_count_101 rfl ?_
        refine g4_0 C dX4_count_102 lFX4_10 ?_
        refine g0_6 isH_1 C dX4_count_105 lFX4_116 ?_
        refine j_iconst (v := nI 3) C dX4_count_108 (by decide) ?_
        refine j_iald C dX4_count_109 iA_7 (by omega) ?_
        first | refine j_iaddN C dX4_count_110 ?_ | refine j_iadd C dX4_count_110 ?_
        refine j_aload_n C dX4_count_111 rfl ?_
        refine g4_0 C dX4_count_112 lFX4_10 ?_
        refine g0_6 isH_1 C dX4_count_115 lFX4_116 ?_
        refine j_iconst (v := nI 4) C dX4_count_118 (by decide) ?_
        refine j_iald C dX4_count_119 iA_7 (by omega) ?_
        first | refine j_iaddN C dX4_count_120 ?_ | refine j_iadd C dX4_count_120 ?_
        exact j_iret C E dX4_count_121 (outC_ok rfl (by first | rfl | (rw [ctW, if_neg (by decide)]; rfl)) (KC.refl μ))
      · refine j_tabIn (tgt := 122) C dX4_count_23 (by decide) (by decide) (off := 99) (by decide) (by decide) ?_
        refine j_aload_n C dX4_count_122 rfl ?_
        refine g4_0 C dX4_count_123 lFX4_10 ?_
        refine g0_6 isH_1 C dX4_count_126 lFX4_116 ?_
        refine j_iconst (v := nI 0) C dX4_count_129 (by decide) ?_
        refine j_iald C dX4_count_130 iA_7 (by omega) ?_
        exact j_iret C E dX4_count_131 (outC_ok rfl (by first | rfl | (rw [ctW, if_neg (by decide)]; rfl)) (KC.refl μ))
      · refine j_tabIn (tgt := 132) C dX4_count_23 (by decide) (by decide) (off := 109) (by decide) (by decide) ?_
        refine j_aload_n C dX4_count_132 rfl ?_
        refine g4_0 C dX4_count_133 lFX4_10 ?_
        refine g0_6 isH_1 C dX4_count_136 lFX4_116 ?_
        refine j_iconst (v := nI 1) C dX4_count_139 (by decide) ?_
        refine j_iald C dX4_count_140 iA_7 (by omega) ?_
        exact j_iret C E dX4_count_141 (outC_ok rfl (by first | rfl | (rw [ctW, if_neg (by decide)]; rfl)) (KC.refl μ))
      · refine j_tabIn (tgt := 142) C dX4_count_23 (by decide) (by decide) (off := 119) (by decide) (by decide) ?_
        refine j_aload_n C dX4_count_142 rfl ?_
        refine g4_0 C dX4_count_143 lFX4_10 ?_
        refine g0_6 isH_1 C dX4_count_146 lFX4_116 ?_
        refine j_iconst (v := nI 5) C dX4_count_149 (by decide) ?_
        refine j_iald C dX4_count_150 iA_7 (by omega) ?_
        exact j_iret C E dX4_count_151 (outC_ok rfl (by first | rfl | (rw [ctW, if_neg (by decide)]; rfl)) (KC.refl μ))
      · refine j_tabIn (tgt := 152) C dX4_count_23 (by decide) (by decide) (off := 129) (by decide) (by decide) ?_
        refine j_aload_n C dX4_count_152 rfl ?_
        refine g4_0 C dX4_count_153 lFX4_10 ?_
        refine g0_6 isH_1 C dX4_count_156 lFX4_116 ?_
        refine j_bipush (v := nI 6) C dX4_count_159 (by decide) ?_
        refine j_iald C dX4_count_161 iA_7 (by omega) ?_
        exact j_iret C E dX4_count_162 (outC_ok rfl (by first | rfl | (rw [ctW, if_neg (by decide)]; rfl)) (KC.refl μ))
      · refine j_tabIn (tgt := 163) C dX4_count_23 (by decide) (by decide) (off := 140) (by decide) (by decide) ?_
        refine j_aload_n C dX4_count_163 rfl ?_
        refine g4_0 C dX4_count_164 lFX4_10 ?_
        refine g0_6 isH_1 C dX4_count_167 lFX4_116 ?_
        refine j_bipush (v := nI 8) C dX4_count_170 (by decide) ?_
        refine j_iald C dX4_count_172 iA_7 (by omega) ?_
        exact j_iret C E dX4_count_173 (outC_ok rfl (by first | rfl | (rw [ctW, if_neg (by decide)]; rfl)) (KC.refl μ))
      · refine j_tabIn (tgt := 174) C dX4_count_23 (by decide) (by decide) (off := 151) (by decide) (by decide) ?_
        refine j_aload_n C dX4_count_174 rfl ?_
        refine g4_10 C dX4_count_175 lFX4_57 ?_
        exact j_iret C E dX4_count_178 (outC_ok rfl (by first | rfl | (rw [ctW, if_neg (by decide)]; rfl)) (KC.refl μ))
      · refine j_tabIn (tgt := 179) C dX4_count_23 (by decide) (by decide) (off := 156) (by decide) (by decide) ?_
        refine j_aload_n C dX4_count_179 rfl ?_
        refine g4_8 C dX4_count_180 lFX4_50 ?_
        refine g2_1 C dX4_count_183 lFX4_68 ?_
        exact j_iret C E dX4_count_186 (outC_ok rfl (by first | rfl | (rw [ctW, if_neg (by decide)]; rfl)) (KC.refl μ))
      · refine j_tabOut (tgt := 187) C dX4_count_23 xo (by decide) ?_
        refine j_bipush (v := (-9)) C dX4_count_187 (by decide) ?_
        exact j_iret C E dX4_count_189 (outC_ok rfl (by rw [ctW, if_neg out, if_neg xn.1, if_neg xn.2.1, if_neg xn.2.2.1, if_neg xn.2.2.2.1, if_neg xn.2.2.2.2.1, if_neg xn.2.2.2.2.2.1, if_neg xn.2.2.2.2.2.2.1, if_neg xn.2.2.2.2.2.2.2.1, if_neg xn.2.2.2.2.2.2.2.2.1, if_neg xn.2.2.2.2.2.2.2.2.2]) (KC.refl μ))
    · have inr : nI 11 ≤ x ∧ x ≤ nI 16 := ⟨Int32.not_lt.mp c_3, Int32.not_lt.mp c_9⟩
      obtain ⟨z, hz, rfl⟩ := nI_of2 (n := 16) (M := nI 16) (x := x) (by decide) (fun q => absurd inr.1 (Int32.not_le.mpr (Int32.lt_trans q (by decide)))) inr.2
      have hz11 := (nI_leI (by decide) (by omega)).mp inr.1
      refine j_aload_n C dX4_count_12 rfl ?_
      refine g4_11 C dX4_count_13 lFX4_61 ?_
      refine j_iload_n C dX4_count_16 rfl ?_
      refine j_bipush (v := nI 10) C dX4_count_17 (by decide) ?_
      first | refine j_isubN C dX4_count_19 (by omega) ?_ | refine j_isub C dX4_count_19 ?_
      refine j_iald C dX4_count_20 iA_37 (by omega) ?_
      exact j_iret C E dX4_count_21 (outC_ok rfl (by rw [ctW, if_pos inr, cl (by omega)]) (KC.refl μ))
