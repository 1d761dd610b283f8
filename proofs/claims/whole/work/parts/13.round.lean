-- HER ROUND: parts of a visit
theorem sub_ge {a b : Nat} (ha : a < 2 ^ 30) (hb : b < 2 ^ 30) : 0 ≤ nI a - nI b ↔ b ≤ a := by
  constructor
  · intro h
    rcases Nat.lt_or_ge a b with q | q
    · exact absurd h (Int32.not_le.mpr (pk_sneg hb q))
    · exact q
  · intro h
    rw [pk_sub h]
    exact nI_pos' (by omega)
theorem max0 {a b : Nat} (ha : a < 2 ^ 30) (hb : b < 2 ^ 30) : (if nI 0 < nI a - nI b then nI a - nI b else nI 0) = nI (a - b) := by
  rcases Nat.lt_or_ge b a with q | q
  · rw [pk_sub (by omega), if_pos (nI_lt (by omega) (by omega))]
  · rw [show a - b = 0 by omega]
    split
    · rename_i h
      rcases Nat.lt_or_ge a b with q2 | q2
      · exact absurd h (Int32.not_lt.mpr (by rw [nI_0]; exact Int32.le_of_lt (pk_sneg hb q2)))
      · rw [show a = b by omega, pk_sub (Nat.le_refl _), Nat.sub_self]
    · rfl
set_option maxRecDepth 100000 in
set_option maxHeartbeats 4000000 in
theorem ev_X3_warmNow {G : GX} {μ0 : Mem} {c7 c8 c9 c10 c11 c12 c13 : Nat} {t mi wa se ic co sd : Nat → Nat} (h1 : c10 ≤ c7) (h2 : c7 < 2 ^ 20) (h3 : c9 ≤ 99) : Ev G mX3_warmNow 0 [rf G 22] (RM μ0 c7 c8 c9 c10 c11 c12 c13 t mi wa se ic co sd) (PIe (nI (c9 - (c7 - c10) / 4)) (RM μ0 c7 c8 c9 c10 c11 c12 c13 t mi wa se ic co sd)) := by
  refine Ev.of (own := RX3) (n := 1) (by decide) rfl rfl (catOK rfl) (fun X C E => ?_)
  show J G X 0 [some _, none] [] _
  refine j_aload_n C dX3_warmNow_0 rfl ?_
  refine g3_9R C dX3_warmNow_1 lFX3_40 ?_
  refine j_aload_n C dX3_warmNow_4 rfl ?_
  refine g3_7R C dX3_warmNow_5 lFX3_33 ?_
  refine j_aload_n C dX3_warmNow_8 rfl ?_
  refine g3_10R C dX3_warmNow_9 lFX3_43 ?_
  first | refine j_isubN C dX3_warmNow_12 (by omega) ?_ | refine j_isub C dX3_warmNow_12 ?_
  refine j_iconst (v := nI 4) C dX3_warmNow_13 (by decide) ?_
  first | refine j_idivN C dX3_warmNow_14 (by omega) (by omega) (by omega) ?_ | refine j_idiv C dX3_warmNow_14 (by decide) ?_
  refine j_isub C dX3_warmNow_15 ?_
  refine sn1 C dX3_warmNow_16 rfl ?_
  refine j_iload_n C dX3_warmNow_17 rfl ?_
  refine j_if_ge (tgt := 25) C dX3_warmNow_18 (by decide) (fun c_18 => ?_) (fun c_18 => ?_)
  · have q_18 := (sub_ge (by omega) (by omega)).mp c_18
    refine j_iload_n C dX3_warmNow_25 rfl ?_
    exact j_iret C E dX3_warmNow_26 (by first | exact And.intro (by rw [pk_sub q_18]) rfl | exact ret_e (by omega))
  · have q_18 : c9 < (c7 - c10) / 4 := Nat.not_le.mp (fun q => c_18 ((sub_ge (by omega) (by omega)).mpr q))
    refine j_iconst (v := nI 0) C dX3_warmNow_21 (by decide) ?_
    refine j_goto (tgt := 26) C dX3_warmNow_22 (by decide) ?_
    exact j_iret C E dX3_warmNow_26 (by first | exact And.intro (by rw [pk_sub q_18]) rfl | exact ret_e (by omega))
set_option maxRecDepth 100000 in
set_option maxHeartbeats 4000000 in
theorem ev_X3_refill {G : GX} {μ0 : Mem} {c7 c8 c9 c10 c11 c12 c13 : Nat} {t mi wa se ic co sd : Nat → Nat} {v : Nat} (hv : v ≤ 2) (h1 : c10 ≤ c7) (h2 : c7 < 2 ^ 20) (h3 : c9 ≤ 99) (h4 : c8 ≤ 40) : Ev G mX3_refill 1 [rf G 22, .int (nI v)] (RM μ0 c7 c8 c9 c10 c11 c12 c13 t mi wa se ic co sd) (PVe (RM μ0 (if v = 0 then c7 else if v = 1 then c7 + 11 else c7 + 6) (if v = 0 then c8 else if v = 1 then 40 else min 40 (c8 + 20)) (if v = 0 then c9 else if v = 1 then 90 else ((c9 - (c7 - c10) / 4) + 90) / 2) (if v = 0 then c10 else if v = 1 then c7 + 11 else c7 + 6) c11 c12 c13 t mi wa se ic co sd)) := by
  refine Ev.of (own := RX3) (n := 0) (by decide) rfl rfl (catOK rfl) (fun X C E => ?_)
  show J G X 0 [some _, some _] [] _
  refine j_iload_n C dX3_refill_0 rfl ?_
  first | refine j_if_neB (tgt := 5) C dX3_refill_1 (by decide) (fun c_1 => ?_) (fun c_1 => ?_) | refine j_if_neN (tgt := 5) C dX3_refill_1 (by decide) (by omega) (fun c_1 => ?_) (fun c_1 => ?_) | refine j_if_ne (tgt := 5) C dX3_refill_1 (by decide) (fun c_1 => ?_) (fun c_1 => ?_)
  · refine j_iload_n C dX3_refill_5 rfl ?_
    refine j_iconst (v := nI 1) C dX3_refill_6 (by decide) ?_
    first | refine j_icmp_neN (tgt := 36) C dX3_refill_7 (by decide) (by omega) (by omega) (fun c_7 => ?_) (fun c_7 => ?_) | refine j_icmp_ne (tgt := 36) C dX3_refill_7 (by decide) (fun c_7 => ?_) (fun c_7 => ?_)
    · refine j_aload_n C dX3_refill_36 rfl ?_
      refine j_aload_n C dX3_refill_37 rfl ?_
      refine cVe0 C dX3_refill_38 lMX3_90 myX3_warmNow (ev_X3_warmNow h1 h2 h3) (by omega) rc3 (Nat.le_of_ble_eq_true rfl) ?_
      refine j_bipush (v := nI 90) C dX3_refill_41 (by decide) ?_
      first | refine j_iaddN C dX3_refill_43 ?_ | refine j_iadd C dX3_refill_43 ?_
      refine j_iconst (v := nI 2) C dX3_refill_44 (by decide) ?_
      first | refine j_idivN C dX3_refill_45 (by omega) (by omega) (by omega) ?_ | refine j_idiv C dX3_refill_45 (by decide) ?_
      refine p3_9R C dX3_refill_46 lFX3_40 ?_
      refine j_aload_n C dX3_refill_49 rfl ?_
      refine j_bipush (v := nI 40) C dX3_refill_50 (by decide) ?_
      refine j_aload_n C dX3_refill_52 rfl ?_
      refine g3_8R C dX3_refill_53 lFX3_37 ?_
      refine j_bipush (v := nI 20) C dX3_refill_56 (by decide) ?_
      first | refine j_iaddN C dX3_refill_58 ?_ | refine j_iadd C dX3_refill_58 ?_
      refine j_minN C dX3_refill_59 lMX3_94 (by omega) (Nat.le_of_ble_eq_true rfl) (by omega) (by omega) ?_
      refine p3_8R C dX3_refill_62 lFX3_37 ?_
      refine j_aload_n C dX3_refill_65 rfl ?_
      refine j_dup C dX3_refill_66 rfl ?_
      refine g3_7R C dX3_refill_67 lFX3_33 ?_
      refine j_bipush (v := nI 6) C dX3_refill_70 (by decide) ?_
      first | refine j_iaddN C dX3_refill_72 ?_ | refine j_iadd C dX3_refill_72 ?_
      refine p3_7R C dX3_refill_73 lFX3_33 ?_
      refine j_aload_n C dX3_refill_76 rfl ?_
      refine j_aload_n C dX3_refill_77 rfl ?_
      refine g3_7R C dX3_refill_78 lFX3_33 ?_
      refine p3_10R C dX3_refill_81 lFX3_43 ?_
      exact j_vret C E dX3_refill_84 ⟨rfl, (by first | (subst c_7; rfl) | simp only [if_neg c_1, if_neg c_7])⟩
    · refine j_aload_n C dX3_refill_10 rfl ?_
      refine j_bipush (v := nI 90) C dX3_refill_11 (by decide) ?_
      refine p3_9R C dX3_refill_13 lFX3_40 ?_
      refine j_aload_n C dX3_refill_16 rfl ?_
      refine j_bipush (v := nI 40) C dX3_refill_17 (by decide) ?_
      refine p3_8R C dX3_refill_19 lFX3_37 ?_
      refine j_aload_n C dX3_refill_22 rfl ?_
      refine j_dup C dX3_refill_23 rfl ?_
      refine g3_7R C dX3_refill_24 lFX3_33 ?_
      refine j_bipush (v := nI 11) C dX3_refill_27 (by decide) ?_
      first | refine j_iaddN C dX3_refill_29 ?_ | refine j_iadd C dX3_refill_29 ?_
      refine p3_7R C dX3_refill_30 lFX3_33 ?_
      refine j_goto (tgt := 76) C dX3_refill_33 (by decide) ?_
      refine j_aload_n C dX3_refill_76 rfl ?_
      refine j_aload_n C dX3_refill_77 rfl ?_
      refine g3_7R C dX3_refill_78 lFX3_33 ?_
      refine p3_10R C dX3_refill_81 lFX3_43 ?_
      exact j_vret C E dX3_refill_84 ⟨rfl, (by first | (subst c_7; rfl) | simp only [if_neg c_1, if_neg c_7])⟩
  · exact j_vret C E dX3_refill_4 ⟨rfl, by subst c_1; rfl⟩
set_option maxRecDepth 100000 in
set_option maxHeartbeats 4000000 in
theorem ev_X3_takeBuns {G : GX} {μ0 : Mem} {c7 c8 c9 c10 c11 c12 c13 : Nat} {mi wa se ic co sd : Nat → Nat} {t0 t1 t2 t3 t4 t5 t6 t7 : Nat} {r : Nat → Nat} {i each kept : Nat} (hi : i < 6) (he : each = 1 ∨ each = 3) (hk : kept ≤ 20) (hs : se i ≤ 20) (h1 : c11 ≤ 60) (h2 : c12 ≤ 120) : Ev G mX3_takeBuns 1 [rf G 22, .int (nI i), .int (nI each), .int (nI kept)] (RM μ0 c7 c8 c9 c10 c11 c12 c13 (TT t0 t1 t2 t3 t4 t5 t6 t7 r) mi wa se ic co sd) (PVe (RM μ0 c7 c8 c9 c10 (c11 - bIced (se i) each kept c11 c12) (c12 - (bEaten (se i) each kept c11 c12 - bIced (se i) each kept c11 c12)) c13 (TT t0 t1 t2 t3 t4 (t5 + bLess (se i) each kept c11 c12) t6 t7 r) mi wa se (u1 ic i (bIced (se i) each kept c11 c12)) co sd)) := by
  refine Ev.of (own := RX3) (n := 3) (by decide) rfl rfl (catOK rfl) (fun X C E => ?_)
  show J G X 0 [some _, some _, some _, some _, none, none, none] [] _
  rcases he with rfl | rfl
  · refine j_iconst (v := nI 0) C dX3_takeBuns_0 (by decide) ?_
    refine j_aload_n C dX3_takeBuns_1 rfl ?_
    refine g3_11R C dX3_takeBuns_2 lFX3_46 ?_
    refine j_iload_n C dX3_takeBuns_5 rfl ?_
    refine j_isub C dX3_takeBuns_6 ?_
    refine j_max C dX3_takeBuns_7 lMX3_110 mS_max mI mC_max (by omega) (Nat.le_of_ble_eq_true rfl) (J.top (y := nI (c11 - kept)) (max0 (by omega) (by omega)) ?_)
    refine sl4 C dX3_takeBuns_10 rfl ?_
    refine j_aload_n C dX3_takeBuns_12 rfl ?_
    refine g3_3 C dX3_takeBuns_13 lFX3_21 ?_
    refine j_iload_n C dX3_takeBuns_16 rfl ?_
    refine ra26 C dX3_takeBuns_17 (by omega) ?_
    refine j_iload_n C dX3_takeBuns_18 rfl ?_
    first | refine j_imulN C dX3_takeBuns_19 ?_ | refine j_imul C dX3_takeBuns_19 ?_
    refine j_iload C dX3_takeBuns_20 rfl ?_
    refine j_aload_n C dX3_takeBuns_22 rfl ?_
    refine g3_12R C dX3_takeBuns_23 lFX3_49 ?_
    first | refine j_iaddN C dX3_takeBuns_26 ?_ | refine j_iadd C dX3_takeBuns_26 ?_
    refine j_minN C dX3_takeBuns_27 lMX3_94 (by omega) (Nat.le_of_ble_eq_true rfl) (by omega) (by omega) ?_
    refine sl5 C dX3_takeBuns_30 rfl ?_
    refine j_aload_n C dX3_takeBuns_32 rfl ?_
    refine g3_4 C dX3_takeBuns_33 lFX3_24 ?_
    refine j_iload_n C dX3_takeBuns_36 rfl ?_
    refine j_iload C dX3_takeBuns_37 rfl ?_
    refine j_iload C dX3_takeBuns_39 rfl ?_
    refine j_minN C dX3_takeBuns_41 lMX3_94 (by omega) (Nat.le_of_ble_eq_true rfl) (by omega) (by omega) ?_
    refine rs27 C dX3_takeBuns_44 (by omega) ?_
    refine j_aload_n C dX3_takeBuns_45 rfl ?_
    refine j_dup C dX3_takeBuns_46 rfl ?_
    refine g3_11R C dX3_takeBuns_47 lFX3_46 ?_
    refine j_aload_n C dX3_takeBuns_50 rfl ?_
    refine g3_4 C dX3_takeBuns_51 lFX3_24 ?_
    refine j_iload_n C dX3_takeBuns_54 rfl ?_
    refine ra27h C dX3_takeBuns_55 (by omega) ?_
    first | refine j_isubN C dX3_takeBuns_56 (by omega) ?_ | refine j_isub C dX3_takeBuns_56 ?_
    refine p3_11R C dX3_takeBuns_57 lFX3_46 ?_
    refine j_aload_n C dX3_takeBuns_60 rfl ?_
    refine j_dup C dX3_takeBuns_61 rfl ?_
    refine g3_12R C dX3_takeBuns_62 lFX3_49 ?_
    refine j_iload C dX3_takeBuns_65 rfl ?_
    refine j_aload_n C dX3_takeBuns_67 rfl ?_
    refine g3_4 C dX3_takeBuns_68 lFX3_24 ?_
    refine j_iload_n C dX3_takeBuns_71 rfl ?_
    refine ra27h C dX3_takeBuns_72 (by omega) ?_
    first | refine j_isubN C dX3_takeBuns_73 (by omega) ?_ | refine j_isub C dX3_takeBuns_73 ?_
    first | refine j_isubN C dX3_takeBuns_74 (by omega) ?_ | refine j_isub C dX3_takeBuns_74 ?_
    refine p3_12R C dX3_takeBuns_75 lFX3_49 ?_
    refine j_iload_n C dX3_takeBuns_78 rfl ?_
    refine j_iconst (v := nI 3) C dX3_takeBuns_79 (by decide) ?_
    first | refine j_icmp_neN (tgt := 94) C dX3_takeBuns_80 (by decide) (by omega) (by omega) (fun c_80 => ?_) (fun c_80 => ?_) | refine j_icmp_ne (tgt := 94) C dX3_takeBuns_80 (by decide) (fun c_80 => ?_) (fun c_80 => ?_)
    · refine j_iload C dX3_takeBuns_94 rfl ?_
      refine sl6 C dX3_takeBuns_96 rfl ?_
      refine j_aload_n C dX3_takeBuns_98 rfl ?_
      refine g3_0 C dX3_takeBuns_99 lFX3_9 ?_
      refine j_iconst (v := nI 5) C dX3_takeBuns_102 (by decide) ?_
      refine j_dup2 C dX3_takeBuns_103 rfl rfl ?_
      refine ra23_5 C dX3_takeBuns_104 ?_
      refine j_aload_n C dX3_takeBuns_105 rfl ?_
      refine g3_3 C dX3_takeBuns_106 lFX3_21 ?_
      refine j_iload_n C dX3_takeBuns_109 rfl ?_
      refine ra26 C dX3_takeBuns_110 (by omega) ?_
      refine j_iload C dX3_takeBuns_111 rfl ?_
      first | refine j_isubN C dX3_takeBuns_113 (by omega) ?_ | refine j_isub C dX3_takeBuns_113 ?_
      first | refine j_iaddN C dX3_takeBuns_114 ?_ | refine j_iadd C dX3_takeBuns_114 ?_
      refine rs23_5 C dX3_takeBuns_115 ?_
      exact j_vret C E dX3_takeBuns_116 ⟨rfl, rfl⟩
    · exact absurd c_80 (by omega)
  · refine j_iconst (v := nI 0) C dX3_takeBuns_0 (by decide) ?_
    refine j_aload_n C dX3_takeBuns_1 rfl ?_
    refine g3_11R C dX3_takeBuns_2 lFX3_46 ?_
    refine j_iload_n C dX3_takeBuns_5 rfl ?_
    refine j_isub C dX3_takeBuns_6 ?_
    refine j_max C dX3_takeBuns_7 lMX3_110 mS_max mI mC_max (by omega) (Nat.le_of_ble_eq_true rfl) (J.top (y := nI (c11 - kept)) (max0 (by omega) (by omega)) ?_)
    refine sl4 C dX3_takeBuns_10 rfl ?_
    refine j_aload_n C dX3_takeBuns_12 rfl ?_
    refine g3_3 C dX3_takeBuns_13 lFX3_21 ?_
    refine j_iload_n C dX3_takeBuns_16 rfl ?_
    refine ra26 C dX3_takeBuns_17 (by omega) ?_
    refine j_iload_n C dX3_takeBuns_18 rfl ?_
    first | refine j_imulN C dX3_takeBuns_19 ?_ | refine j_imul C dX3_takeBuns_19 ?_
    refine j_iload C dX3_takeBuns_20 rfl ?_
    refine j_aload_n C dX3_takeBuns_22 rfl ?_
    refine g3_12R C dX3_takeBuns_23 lFX3_49 ?_
    first | refine j_iaddN C dX3_takeBuns_26 ?_ | refine j_iadd C dX3_takeBuns_26 ?_
    refine j_minN C dX3_takeBuns_27 lMX3_94 (by omega) (Nat.le_of_ble_eq_true rfl) (by omega) (by omega) ?_
    refine sl5 C dX3_takeBuns_30 rfl ?_
    refine j_aload_n C dX3_takeBuns_32 rfl ?_
    refine g3_4 C dX3_takeBuns_33 lFX3_24 ?_
    refine j_iload_n C dX3_takeBuns_36 rfl ?_
    refine j_iload C dX3_takeBuns_37 rfl ?_
    refine j_iload C dX3_takeBuns_39 rfl ?_
    refine j_minN C dX3_takeBuns_41 lMX3_94 (by omega) (Nat.le_of_ble_eq_true rfl) (by omega) (by omega) ?_
    refine rs27 C dX3_takeBuns_44 (by omega) ?_
    refine j_aload_n C dX3_takeBuns_45 rfl ?_
    refine j_dup C dX3_takeBuns_46 rfl ?_
    refine g3_11R C dX3_takeBuns_47 lFX3_46 ?_
    refine j_aload_n C dX3_takeBuns_50 rfl ?_
    refine g3_4 C dX3_takeBuns_51 lFX3_24 ?_
    refine j_iload_n C dX3_takeBuns_54 rfl ?_
    refine ra27h C dX3_takeBuns_55 (by omega) ?_
    first | refine j_isubN C dX3_takeBuns_56 (by omega) ?_ | refine j_isub C dX3_takeBuns_56 ?_
    refine p3_11R C dX3_takeBuns_57 lFX3_46 ?_
    refine j_aload_n C dX3_takeBuns_60 rfl ?_
    refine j_dup C dX3_takeBuns_61 rfl ?_
    refine g3_12R C dX3_takeBuns_62 lFX3_49 ?_
    refine j_iload C dX3_takeBuns_65 rfl ?_
    refine j_aload_n C dX3_takeBuns_67 rfl ?_
    refine g3_4 C dX3_takeBuns_68 lFX3_24 ?_
    refine j_iload_n C dX3_takeBuns_71 rfl ?_
    refine ra27h C dX3_takeBuns_72 (by omega) ?_
    first | refine j_isubN C dX3_takeBuns_73 (by omega) ?_ | refine j_isub C dX3_takeBuns_73 ?_
    first | refine j_isubN C dX3_takeBuns_74 (by omega) ?_ | refine j_isub C dX3_takeBuns_74 ?_
    refine p3_12R C dX3_takeBuns_75 lFX3_49 ?_
    refine j_iload_n C dX3_takeBuns_78 rfl ?_
    refine j_iconst (v := nI 3) C dX3_takeBuns_79 (by decide) ?_
    first | refine j_icmp_neN (tgt := 94) C dX3_takeBuns_80 (by decide) (by omega) (by omega) (fun c_80 => ?_) (fun c_80 => ?_) | refine j_icmp_ne (tgt := 94) C dX3_takeBuns_80 (by decide) (fun c_80 => ?_) (fun c_80 => ?_)
    · exact absurd c_80 (by omega)
    · refine j_iload C dX3_takeBuns_83 rfl ?_
      refine j_iconst (v := nI 3) C dX3_takeBuns_85 (by decide) ?_
      first | refine j_iaddN C dX3_takeBuns_86 ?_ | refine j_iadd C dX3_takeBuns_86 ?_
      refine j_iconst (v := nI 1) C dX3_takeBuns_87 (by decide) ?_
      first | refine j_isubN C dX3_takeBuns_88 (by omega) ?_ | refine j_isub C dX3_takeBuns_88 ?_
      refine j_iconst (v := nI 3) C dX3_takeBuns_89 (by decide) ?_
      first | refine j_idivN C dX3_takeBuns_90 (by omega) (by omega) (by omega) ?_ | refine j_idiv C dX3_takeBuns_90 (by decide) ?_
      refine j_goto (tgt := 96) C dX3_takeBuns_91 (by decide) ?_
      refine sl6 C dX3_takeBuns_96 rfl ?_
      refine j_aload_n C dX3_takeBuns_98 rfl ?_
      refine g3_0 C dX3_takeBuns_99 lFX3_9 ?_
      refine j_iconst (v := nI 5) C dX3_takeBuns_102 (by decide) ?_
      refine j_dup2 C dX3_takeBuns_103 rfl rfl ?_
      refine ra23_5 C dX3_takeBuns_104 ?_
      refine j_aload_n C dX3_takeBuns_105 rfl ?_
      refine g3_3 C dX3_takeBuns_106 lFX3_21 ?_
      refine j_iload_n C dX3_takeBuns_109 rfl ?_
      refine ra26 C dX3_takeBuns_110 (by omega) ?_
      refine j_iload C dX3_takeBuns_111 rfl ?_
      first | refine j_isubN C dX3_takeBuns_113 (by omega) ?_ | refine j_isub C dX3_takeBuns_113 ?_
      first | refine j_iaddN C dX3_takeBuns_114 ?_ | refine j_iadd C dX3_takeBuns_114 ?_
      refine rs23_5 C dX3_takeBuns_115 ?_
      exact j_vret C E dX3_takeBuns_116 ⟨rfl, rfl⟩
