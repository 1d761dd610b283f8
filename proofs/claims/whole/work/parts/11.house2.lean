-- HOUSE: writes
def cp1 (μ : Mem) (b a n : Nat) : Mem := fun q i => if q = b ∧ 0 ≤ i ∧ i < 0 + n then μ a (0 + (i - 0)) else μ q i
theorem cp1_at {μ : Mem} {b a n i : Nat} (h : i < n) : cp1 μ b a n b i = μ a i := by simp [cp1, h]
theorem cp1_ne {μ : Mem} {b a n q : Nat} (h : q ≠ b) : cp1 μ b a n q = μ q := by funext i; simp [cp1, h]
def cpH (μ : Mem) (h g : Nat) : Mem := cp1 (cp1 (cp1 (cp1 (cp1 (cp1 (up μ h 0 (μ g 0)) (h + 1) (g + 1) 6) (h + 2) (g + 2) 6) (h + 3) (g + 3) 6) (h + 4) (g + 4) 6) (h + 5) (g + 5) 6) (h + 6) (g + 6) 10
theorem cpH_eq {μ : Mem} {h g : Nat} (hh : isH h) (hg : isH g) (hne : h ≠ g) : EQ (sh (cpH μ h g) h) (sh μ g) := by
  rcases hh with rfl | rfl | rfl <;> rcases hg with rfl | rfl | rfl <;> first
    | exact absurd rfl hne
    | (refine ⟨by simp [sh, cpH, cp1, up], fun k i h1 h2 hi => ?_, fun i hi => by simp [sh, cpH, cp1, up, hi]⟩
       have : k = 1 ∨ k = 2 ∨ k = 3 ∨ k = 4 ∨ k = 5 := by omega
       rcases this with rfl | rfl | rfl | rfl | rfl <;> simp [sh, cpH, cp1, up, hi])
theorem cpH_off {μ : Mem} {h g q : Nat} (hq : q < h ∨ h + 6 < q) : cpH μ h g q = μ q := by
  unfold cpH
  rw [cp1_ne (by omega), cp1_ne (by omega), cp1_ne (by omega), cp1_ne (by omega), cp1_ne (by omega), cp1_ne (by omega), up_ne (by omega)]
set_option maxRecDepth 100000 in
set_option maxHeartbeats 4000000 in
theorem ev_X0_copyFrom {G : GX} {h g : Nat} {μ : Mem} (hh : isH h) (hg : isH g) : Ev G mX0_copyFrom 1 [rf G h, rf G g] μ (PV (fun μ' => μ' = cpH μ h g)) := by
  refine Ev.of (own := RX0) (n := 0) (by decide) rfl rfl (catOK rfl) (fun X C E => ?_)
  show J G X 0 [some _, some _] [] _
  refine j_aload_n C dX0_copyFrom_0 rfl ?_
  refine j_aload_n C dX0_copyFrom_1 rfl ?_
  refine g0_0 hg C dX0_copyFrom_2 lFX0_9 ?_
  refine p0_0 hh C dX0_copyFrom_5 lFX0_9 ?_
  refine j_aload_n C dX0_copyFrom_8 rfl ?_
  refine g0_1 hg C dX0_copyFrom_9 lFX0_15 ?_
  refine j_iconst (v := nI 0) C dX0_copyFrom_12 (by decide) ?_
  refine j_aload_n C dX0_copyFrom_13 rfl ?_
  refine g0_1 hh C dX0_copyFrom_14 lFX0_15 ?_
  refine j_iconst (v := nI 0) C dX0_copyFrom_17 (by decide) ?_
  refine j_bipush (v := nI 6) C dX0_copyFrom_18 (by decide) ?_
  refine j_acopy C dX0_copyFrom_20 lMX0_37 (isA_1 hg) (isA_1 hh) (by omega) (by omega) (by omega) (Nat.le_of_ble_eq_true rfl) ?_
  refine j_aload_n C dX0_copyFrom_23 rfl ?_
  refine g0_2 hg C dX0_copyFrom_24 lFX0_19 ?_
  refine j_iconst (v := nI 0) C dX0_copyFrom_27 (by decide) ?_
  refine j_aload_n C dX0_copyFrom_28 rfl ?_
  refine g0_2 hh C dX0_copyFrom_29 lFX0_19 ?_
  refine j_iconst (v := nI 0) C dX0_copyFrom_32 (by decide) ?_
  refine j_bipush (v := nI 6) C dX0_copyFrom_33 (by decide) ?_
  refine j_acopy C dX0_copyFrom_35 lMX0_37 (isA_2 hg) (isA_2 hh) (by omega) (by omega) (by omega) (Nat.le_of_ble_eq_true rfl) ?_
  refine j_aload_n C dX0_copyFrom_38 rfl ?_
  refine g0_3 hg C dX0_copyFrom_39 lFX0_22 ?_
  refine j_iconst (v := nI 0) C dX0_copyFrom_42 (by decide) ?_
  refine j_aload_n C dX0_copyFrom_43 rfl ?_
  refine g0_3 hh C dX0_copyFrom_44 lFX0_22 ?_
  refine j_iconst (v := nI 0) C dX0_copyFrom_47 (by decide) ?_
  refine j_bipush (v := nI 6) C dX0_copyFrom_48 (by decide) ?_
  refine j_acopy C dX0_copyFrom_50 lMX0_37 (isA_3 hg) (isA_3 hh) (by omega) (by omega) (by omega) (Nat.le_of_ble_eq_true rfl) ?_
  refine j_aload_n C dX0_copyFrom_53 rfl ?_
  refine g0_4 hg C dX0_copyFrom_54 lFX0_25 ?_
  refine j_iconst (v := nI 0) C dX0_copyFrom_57 (by decide) ?_
  refine j_aload_n C dX0_copyFrom_58 rfl ?_
  refine g0_4 hh C dX0_copyFrom_59 lFX0_25 ?_
  refine j_iconst (v := nI 0) C dX0_copyFrom_62 (by decide) ?_
  refine j_bipush (v := nI 6) C dX0_copyFrom_63 (by decide) ?_
  refine j_acopy C dX0_copyFrom_65 lMX0_37 (isA_4 hg) (isA_4 hh) (by omega) (by omega) (by omega) (Nat.le_of_ble_eq_true rfl) ?_
  refine j_aload_n C dX0_copyFrom_68 rfl ?_
  refine g0_5 hg C dX0_copyFrom_69 lFX0_28 ?_
  refine j_iconst (v := nI 0) C dX0_copyFrom_72 (by decide) ?_
  refine j_aload_n C dX0_copyFrom_73 rfl ?_
  refine g0_5 hh C dX0_copyFrom_74 lFX0_28 ?_
  refine j_iconst (v := nI 0) C dX0_copyFrom_77 (by decide) ?_
  refine j_bipush (v := nI 6) C dX0_copyFrom_78 (by decide) ?_
  refine j_acopy C dX0_copyFrom_80 lMX0_37 (isA_5 hg) (isA_5 hh) (by omega) (by omega) (by omega) (Nat.le_of_ble_eq_true rfl) ?_
  refine j_aload_n C dX0_copyFrom_83 rfl ?_
  refine g0_6 hg C dX0_copyFrom_84 lFX0_34 ?_
  refine j_iconst (v := nI 0) C dX0_copyFrom_87 (by decide) ?_
  refine j_aload_n C dX0_copyFrom_88 rfl ?_
  refine g0_6 hh C dX0_copyFrom_89 lFX0_34 ?_
  refine j_iconst (v := nI 0) C dX0_copyFrom_92 (by decide) ?_
  refine j_aload_n C dX0_copyFrom_93 rfl ?_
  refine g0_6 hh C dX0_copyFrom_94 lFX0_34 ?_
  refine j_alen C dX0_copyFrom_97 (isA_6 hh) ?_
  refine j_acopy C dX0_copyFrom_98 lMX0_37 (isA_6 hg) (isA_6 hh) (by omega) (by omega) (by omega) (Nat.le_of_ble_eq_true rfl) ?_
  exact j_vret C E dX0_copyFrom_101 ⟨rfl, rfl⟩
def adF (μ : Mem) (h k l p t : Nat) : Mem := up (up (up (up (up (up μ (h + 1) (μ h 0) k) (h + 2) (μ h 0) l) (h + 3) (μ h 0) p) (h + 4) (μ h 0) t) (h + 5) (μ h 0) (μ h 0)) h 0 (μ h 0 + 1)
set_option maxRecDepth 100000 in
set_option maxHeartbeats 4000000 in
theorem ev_X0_addFloor {G : GX} {h k l p t : Nat} {μ : Mem} (hh : isH h) (hn : μ h 0 < 6) : Ev G mX0_addFloor 0 [rf G h, .int (nI k), .int (nI l), .int (nI p), .int (nI t)] μ (PV (fun μ' => μ' = adF μ h k l p t)) := by
  refine Ev.of (own := RX0) (n := 0) (by decide) rfl rfl (catOK rfl) (fun X C E => ?_)
  show J G X 0 [some _, some _, some _, some _, some _] [] _
  refine j_aload_n C dX0_addFloor_0 rfl ?_
  refine g0_1 hh C dX0_addFloor_1 lFX0_15 ?_
  refine j_aload_n C dX0_addFloor_4 rfl ?_
  refine g0_0 hh C dX0_addFloor_5 lFX0_9 ?_
  refine j_iload_n C dX0_addFloor_8 rfl ?_
  refine j_iast C dX0_addFloor_9 (isA_1 hh) (by omega) ?_
  refine j_aload_n C dX0_addFloor_10 rfl ?_
  refine g0_2 hh C dX0_addFloor_11 lFX0_19 ?_
  refine j_aload_n C dX0_addFloor_14 rfl ?_
  refine g0_0 hh C dX0_addFloor_15 lFX0_9 ?_
  refine J.top (y := nI (μ h 0)) (by simp [up]) ?_
  refine j_iload_n C dX0_addFloor_18 rfl ?_
  refine j_iast C dX0_addFloor_19 (isA_2 hh) (by omega) ?_
  refine j_aload_n C dX0_addFloor_20 rfl ?_
  refine g0_3 hh C dX0_addFloor_21 lFX0_22 ?_
  refine j_aload_n C dX0_addFloor_24 rfl ?_
  refine g0_0 hh C dX0_addFloor_25 lFX0_9 ?_
  refine J.top (y := nI (μ h 0)) (by simp [up]) ?_
  refine j_iload_n C dX0_addFloor_28 rfl ?_
  refine j_iast C dX0_addFloor_29 (isA_3 hh) (by omega) ?_
  refine j_aload_n C dX0_addFloor_30 rfl ?_
  refine g0_4 hh C dX0_addFloor_31 lFX0_25 ?_
  refine j_aload_n C dX0_addFloor_34 rfl ?_
  refine g0_0 hh C dX0_addFloor_35 lFX0_9 ?_
  refine J.top (y := nI (μ h 0)) (by simp [up]) ?_
  refine j_iload C dX0_addFloor_38 rfl ?_
  refine j_iast C dX0_addFloor_40 (isA_4 hh) (by omega) ?_
  refine j_aload_n C dX0_addFloor_41 rfl ?_
  refine g0_5 hh C dX0_addFloor_42 lFX0_28 ?_
  refine j_aload_n C dX0_addFloor_45 rfl ?_
  refine g0_0 hh C dX0_addFloor_46 lFX0_9 ?_
  refine J.top (y := nI (μ h 0)) (by simp [up]) ?_
  refine j_aload_n C dX0_addFloor_49 rfl ?_
  refine g0_0 hh C dX0_addFloor_50 lFX0_9 ?_
  refine J.top (y := nI (μ h 0)) (by simp [up]) ?_
  refine j_iast C dX0_addFloor_53 (isA_5 hh) (by omega) ?_
  refine j_aload_n C dX0_addFloor_54 rfl ?_
  refine j_dup C dX0_addFloor_55 rfl ?_
  refine g0_0 hh C dX0_addFloor_56 lFX0_9 ?_
  refine J.top (y := nI (μ h 0)) (by simp [up]) ?_
  refine j_iconst (v := nI 1) C dX0_addFloor_59 (by decide) ?_
  first | refine j_iaddN C dX0_addFloor_60 ?_ | refine j_iadd C dX0_addFloor_60 ?_
  refine p0_0 hh C dX0_addFloor_61 lFX0_9 ?_
  exact j_vret C E dX0_addFloor_64 ⟨rfl, rfl⟩
