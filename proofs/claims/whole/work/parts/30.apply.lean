-- THE READER: what a statement does to the house
theorem u35 {μ : Mem} {k v : Nat} : up μ 14 k v 35 = μ 35 := up_ne (by decide)
theorem sh14 {ν : Mem} {k v : Nat} : sh (up ν 14 k v) 8 = up (sh ν 8) 6 k v := sh_up (a := 6)
theorem sh_row8 {ν : Mem} {k : Nat} {ρ : Nat → Nat} : sh (rowM ν (8 + k) ρ) 8 = rowM (sh ν 8) k ρ := by
  funext q i
  by_cases h : q = k
  · subst h
    show rowM ν (8 + q) ρ (8 + q) i = rowM (sh ν 8) q ρ q i
    rw [rowM_at, rowM_at]
  · show rowM ν (8 + k) ρ (8 + q) i = rowM (sh ν 8) k ρ q i
    rw [rowM_ne (by omega), rowM_ne h]
    rfl
theorem sh_adF {ν : Mem} {k l p t : Nat} : sh (adF ν 8 k l p t) 8 = adE (sh ν 8) k l p t := by
  show sh (up (up (up (up (up (up ν (8 + 1) (ν 8 0) k) (8 + 2) (ν 8 0) l) (8 + 3) (ν 8 0) p) (8 + 4) (ν 8 0) t) (8 + 5) (ν 8 0) (ν 8 0)) (8 + 0) 0 (ν 8 0 + 1)) 8 = _
  rw [sh_up, sh_up, sh_up, sh_up, sh_up, sh_up]
  rfl
/-- what is not the trial's is as it was -/
def FR8 (μ μ' : Mem) : Prop := ∀ q, q < 8 ∨ 14 < q → μ' q = μ q
theorem FR8.refl (μ : Mem) : FR8 μ μ := fun _ _ => rfl
theorem FR8.trans {a b c : Mem} (h : FR8 a b) (g : FR8 b c) : FR8 a c := fun q hq => (g q hq).trans (h q hq)
theorem FR8_14 {μ : Mem} {k v : Nat} : FR8 μ (up μ 14 k v) := fun q hq => up_ne (by omega)
theorem FR8_row {μ : Mem} {ρ : Nat → Nat} : FR8 μ (rowM μ 13 ρ) := fun q hq => rowM_ne (by omega)
theorem FR8_ad {μ : Mem} {k l p t : Nat} : FR8 μ (adF μ 8 k l p t) := fun q hq => by
  unfold adF
  rw [up_ne (by omega), up_ne (by omega), up_ne (by omega), up_ne (by omega), up_ne (by omega), up_ne (by omega)]
def OutA (L : Nat → Nat) (a : Nat) (μ : Mem) (v : Int32) (μ' : Mem) : Prop := (okE L a (sh μ 8) ∧ v = nI 1 ∧ sh μ' 8 = apE L a (sh μ 8) ∧ FR8 μ μ') ∨ (¬ okE L a (sh μ 8) ∧ v = nI 0 ∧ FR8 μ μ')
theorem ap_f {L : Nat → Nat} {a : Nat} {E : Mem} (h : L a = 102) : (okE L a E ↔ (E 0 0 < 6 ∧ 1 ≤ tw2 L (a + 3) ∧ tw2 L (a + 3) ≤ 20)) ∧ apE L a E = adE E (kdN (L (a + 1))) (dg L (a + 2)) (tw2 L (a + 3)) (dg L (a + 5)) := ⟨by unfold okE; rw [if_pos h], by unfold apE; rw [if_pos h]⟩
theorem ap_u {L : Nat → Nat} {a : Nat} {E : Mem} (h : L a = 117) : (okE L a E ↔ (tw2 L (a + 1) ≤ 40 ∧ tw2 L (a + 3) ≤ 99)) ∧ apE L a E = up (up E 6 0 (tw2 L (a + 1))) 6 1 (tw2 L (a + 3)) := ⟨by unfold okE; rw [if_neg (by omega), if_pos h], by unfold apE; rw [if_neg (by omega), if_pos h]⟩
theorem ap_b {L : Nat → Nat} {a : Nat} {E : Mem} (h : L a = 98) : (okE L a E ↔ (tw2 L (a + 1) ≤ 60 ∧ tw2 L (a + 3) ≤ 60 ∧ tw2 L (a + 5) ≤ 60)) ∧ apE L a E = up (up (up E 6 2 (tw2 L (a + 1))) 6 3 (tw2 L (a + 3))) 6 4 (tw2 L (a + 5)) := ⟨by unfold okE; rw [if_neg (by omega), if_neg (by omega), if_pos h], by unfold apE; rw [if_neg (by omega), if_neg (by omega), if_pos h]⟩
theorem ap_s {L : Nat → Nat} {a : Nat} {E : Mem} (h : L a = 115) : (okE L a E ↔ (dg L (a + 1) ≤ 9)) ∧ apE L a E = up E 6 5 (dg L (a + 1)) := ⟨by unfold okE; rw [if_neg (by omega), if_neg (by omega), if_neg (by omega), if_pos h], by unfold apE; rw [if_neg (by omega), if_neg (by omega), if_neg (by omega), if_pos h]⟩
theorem ap_g {L : Nat → Nat} {a : Nat} {E : Mem} (h : L a = 103) : (okE L a E ↔ (dg L (a + 1) ≤ 1 ∧ dg L (a + 2) ≤ 9)) ∧ apE L a E = up (up E 6 6 (dg L (a + 1))) 6 7 (dg L (a + 2)) := ⟨by unfold okE; rw [if_neg (by omega), if_neg (by omega), if_neg (by omega), if_neg (by omega), if_pos h], by unfold apE; rw [if_neg (by omega), if_neg (by omega), if_neg (by omega), if_neg (by omega), if_pos h]⟩
theorem ap_r {L : Nat → Nat} {a : Nat} {E : Mem} (h : L a = 114) : (okE L a E ↔ (dg L (a + 1) ≤ 2 ∧ tw2 L (a + 2) ≤ 20)) ∧ apE L a E = up (up E 6 8 (dg L (a + 1))) 6 9 (tw2 L (a + 2)) := ⟨by unfold okE; rw [if_neg (by omega), if_neg (by omega), if_neg (by omega), if_neg (by omega), if_neg (by omega), if_pos h], by unfold apE; rw [if_neg (by omega), if_neg (by omega), if_neg (by omega), if_neg (by omega), if_neg (by omega), if_pos h]⟩
theorem ap_x {L : Nat → Nat} {a : Nat} {E : Mem} (h : L a = 120) : (okE L a E ↔ (dg L (a + 1) < E 0 0 ∧ dg L (a + 2) < E 0 0 ∧ ¬ dg L (a + 1) = dg L (a + 2))) ∧ apE L a E = rowM E 5 (swR (E 5) (E 0 0) (dg L (a + 1)) (dg L (a + 2))) := ⟨by unfold okE; rw [if_neg (by omega), if_neg (by omega), if_neg (by omega), if_neg (by omega), if_neg (by omega), if_neg (by omega)], by unfold apE; rw [if_neg (by omega), if_neg (by omega), if_neg (by omega), if_neg (by omega), if_neg (by omega), if_neg (by omega)]⟩
theorem ev_X2_digitR {G : GX} {L : Nat → Nat} {i9 : Nat} {μ : Mem} (hr : μ 35 = L) (hi : i9 < 96) (h48 : 48 ≤ L i9) : Ev G mX2_digit 0 [rf G 34, .int (nI i9)] μ (PIe (nI (dg L i9)) μ) := by subst hr; exact ev_X2_digit hi h48
theorem ev_X2_twoR {G : GX} {L : Nat → Nat} {i9 : Nat} {μ : Mem} (hr : μ 35 = L) (hi : i9 + 1 < 96) (h48 : 48 ≤ L i9) (h482 : 48 ≤ L (i9 + 1)) : Ev G mX2_two 1 [rf G 34, .int (nI i9)] μ (PIe (nI (tw2 L i9)) μ) := by subst hr; exact ev_X2_two hi h48 h482
theorem nI_eqI {a b : Nat} (ha : a < 2 ^ 31) (hb : b < 2 ^ 31) : nI a = nI b ↔ a = b := ⟨fun h => by have := congrArg Int32.toInt h; rw [nI_toInt ha, nI_toInt hb] at this; omega, fun h => by rw [h]⟩
theorem nI_0le {a : Nat} (ha : a < 2 ^ 31) : 0 ≤ nI a := by
  rcases Int32.lt_or_le (nI a) 0 with h | h
  · have h2 : nI a < nI 0 := h
    have := (nI_ltI ha (by decide)).mp h2
    omega
  · exact h
theorem csw {a b n : Nat} (ha : a < 2 ^ 31) (hb : b < 2 ^ 31) (hn : n < 2 ^ 31) : ((0 ≤ nI a ∧ nI a < nI n) ∧ (0 ≤ nI b ∧ nI b < nI n) ∧ ¬ nI a = nI b) ↔ (a < n ∧ b < n ∧ ¬ a = b) := by
  rw [nI_ltI ha hn, nI_ltI hb hn, nI_eqI ha hb]
  exact ⟨fun h => ⟨h.1.2, h.2.1.2, h.2.2⟩, fun h => ⟨⟨nI_0le ha, h.1⟩, ⟨nI_0le hb, h.2.1⟩, h.2.2⟩⟩
set_option maxRecDepth 100000 in
set_option maxHeartbeats 4000000 in
theorem ev_X2_put {G : GX} {k9 v9 : Nat} {μ : Mem} (hk : k9 < 10) (hv : v9 < 2 ^ 31) : Ev G mX2_put 0 [rf G 8, .int (nI k9), .int (nI v9)] μ (PIe (b2i (v9 ≤ mostN k9)) (if v9 ≤ mostN k9 then up μ 14 k9 v9 else μ)) := by
  refine Ev.of (own := RX2) (n := 0) (by decide) rfl rfl (catOK rfl) (fun X C E => ?_)
  show J G X 0 [some _, some _, some _] [] _
  have hm9 := mostN_le k9
  refine j_iload_n C dX2_put_0 rfl ?_
  refine j_getMostN C rfl dX2_put_1 ?_
  refine j_iload_n C dX2_put_4 rfl ?_
  refine j_mostAt C dX2_put_5 (by omega) ?_
  first | refine j_icmp_leN (tgt := 11) C dX2_put_6 (by decide) (by omega) (by omega) (fun c_6 => ?_) (fun c_6 => ?_) | refine j_icmp_le (tgt := 11) C dX2_put_6 (by decide) (fun c_6 => ?_) (fun c_6 => ?_)
  · refine J.mem (show _ = _ from Eq.refl μ) ?_
    refine j_aload_n C dX2_put_11 rfl ?_
    refine g0_6 isH_8 C dX2_put_12 lFX2_80 ?_
    refine j_iload_n C dX2_put_15 rfl ?_
    refine j_iload_n C dX2_put_16 rfl ?_
    refine j_iast C dX2_put_17 iA_14 (by omega) ?_
    refine J.mem (show _ = (if v9 ≤ mostN k9 then up μ 14 k9 v9 else μ) from (if_pos (by omega)).symm) ?_
    refine j_iconst (v := nI 1) C dX2_put_18 (by decide) ?_
    exact j_zret C E dX2_put_19 rfl (ret_t (by omega))
  · refine J.mem (show _ = (if v9 ≤ mostN k9 then up μ 14 k9 v9 else μ) from (if_neg (by omega)).symm) ?_
    refine j_iconst (v := nI 0) C dX2_put_9 (by decide) ?_
    exact j_zret C E dX2_put_10 rfl (ret_f (by omega))
theorem tw2_le {L : Nat → Nat} {i : Nat} (h : ∀ j, j < 96 → L j ≤ 255) (hi : i + 1 < 96) : tw2 L i ≤ 2277 := by have a := h i (by omega); have b := h (i + 1) hi; unfold tw2 dg; omega
set_option maxRecDepth 100000 in
set_option maxHeartbeats 4000000 in
theorem ev_X2_applyFloor {G : GX} {i9 : Nat} {μ : Mem} (hn : μ 8 0 ≤ 6) (hi : i9 + 4 < 96) (hk9 : isKd (μ 35 i9)) (d1 : 48 ≤ μ 35 (i9 + 1)) (d2 : 48 ≤ μ 35 (i9 + 2)) (d3 : 48 ≤ μ 35 (i9 + 3)) (d4 : 48 ≤ μ 35 (i9 + 4)) (hL9 : ∀ j, j < 96 → μ 35 j ≤ 255) : Ev G mX2_applyFloor 2 [rf G 34, .int (nI i9), rf G 8] μ (PI (fun v μ' => ((μ 8 0 < 6 ∧ 1 ≤ tw2 (μ 35) (i9 + 2) ∧ tw2 (μ 35) (i9 + 2) ≤ 20) ∧ v = nI 1 ∧ μ' = adF μ 8 (kdN (μ 35 i9)) (dg (μ 35) (i9 + 1)) (tw2 (μ 35) (i9 + 2)) (dg (μ 35) (i9 + 4))) ∨ (¬ (μ 8 0 < 6 ∧ 1 ≤ tw2 (μ 35) (i9 + 2) ∧ tw2 (μ 35) (i9 + 2) ≤ 20) ∧ v = nI 0 ∧ μ' = μ))) := by
  refine Ev.of (own := RX2) (n := 1) (by decide) rfl rfl (catOK rfl) (fun X C E => ?_)
  show J G X 0 [some _, some _, some _, none] [] _
  have hw9 := tw2_le (i := i9 + 2) hL9 (by omega)
  have hl9 := hL9 i9 (by omega)
  refine j_aload_n C dX2_applyFloor_0 rfl ?_
  refine j_iload_n C dX2_applyFloor_1 rfl ?_
  refine j_iconst (v := nI 2) C dX2_applyFloor_2 (by decide) ?_
  first | refine j_iaddN C dX2_applyFloor_3 ?_ | refine j_iadd C dX2_applyFloor_3 ?_
  refine cVe1 C dX2_applyFloor_4 lMX2_47 myX2_two (ev_X2_two (by omega) d2 d3) (by omega) rc2 (Nat.le_of_ble_eq_true rfl) ?_
  refine sn3 C dX2_applyFloor_7 rfl ?_
  refine j_aload_n C dX2_applyFloor_8 rfl ?_
  refine g0_0 isH_8 C dX2_applyFloor_9 lFX2_60 ?_
  refine j_bipush (v := nI 6) C dX2_applyFloor_12 (by decide) ?_
  first | refine j_icmp_geN (tgt := 28) C dX2_applyFloor_14 (by decide) (by omega) (by omega) (fun c_14 => ?_) (fun c_14 => ?_) | refine j_icmp_ge (tgt := 28) C dX2_applyFloor_14 (by decide) (fun c_14 => ?_) (fun c_14 => ?_)
  · refine j_iconst (v := nI 0) C dX2_applyFloor_28 (by decide) ?_
    exact j_zret C E dX2_applyFloor_29 rfl ⟨_, rfl, Or.inr ⟨(fun q => by omega), rfl, rfl⟩⟩
  · refine j_iload_n C dX2_applyFloor_17 rfl ?_
    refine j_iconst (v := nI 1) C dX2_applyFloor_18 (by decide) ?_
    first | refine j_icmp_ltN (tgt := 28) C dX2_applyFloor_19 (by decide) (by omega) (by omega) (fun c_19 => ?_) (fun c_19 => ?_) | refine j_icmp_lt (tgt := 28) C dX2_applyFloor_19 (by decide) (fun c_19 => ?_) (fun c_19 => ?_)
    · refine j_iconst (v := nI 0) C dX2_applyFloor_28 (by decide) ?_
      exact j_zret C E dX2_applyFloor_29 rfl ⟨_, rfl, Or.inr ⟨(fun q => by omega), rfl, rfl⟩⟩
    · refine j_iload_n C dX2_applyFloor_22 rfl ?_
      refine j_bipush (v := nI 20) C dX2_applyFloor_23 (by decide) ?_
      first | refine j_icmp_leN (tgt := 30) C dX2_applyFloor_25 (by decide) (by omega) (by omega) (fun c_25 => ?_) (fun c_25 => ?_) | refine j_icmp_le (tgt := 30) C dX2_applyFloor_25 (by decide) (fun c_25 => ?_) (fun c_25 => ?_)
      · refine j_aload_n C dX2_applyFloor_30 rfl ?_
        refine j_aload_n C dX2_applyFloor_31 rfl ?_
        refine g2_0 C dX2_applyFloor_32 lFX2_9 ?_
        refine j_iload_n C dX2_applyFloor_35 rfl ?_
        refine j_iald C dX2_applyFloor_36 iA_35 (by omega) ?_
        refine cSe1 C dX2_applyFloor_37 lMX2_41 myX2_kindOf (ev_X2_kindOf (by omega)) (by omega) (Nat.le_of_ble_eq_true rfl) ?_
        refine J.top (kdI_of hk9) ?_
        refine j_aload_n C dX2_applyFloor_40 rfl ?_
        refine j_iload_n C dX2_applyFloor_41 rfl ?_
        refine j_iconst (v := nI 1) C dX2_applyFloor_42 (by decide) ?_
        first | refine j_iaddN C dX2_applyFloor_43 ?_ | refine j_iadd C dX2_applyFloor_43 ?_
        refine cVe1 C dX2_applyFloor_44 lMX2_54 myX2_digit (ev_X2_digit (by omega) d1) (by omega) rc2 (Nat.le_of_ble_eq_true rfl) ?_
        refine j_iload_n C dX2_applyFloor_47 rfl ?_
        refine j_aload_n C dX2_applyFloor_48 rfl ?_
        refine j_iload_n C dX2_applyFloor_49 rfl ?_
        refine j_iconst (v := nI 4) C dX2_applyFloor_50 (by decide) ?_
        first | refine j_iaddN C dX2_applyFloor_51 ?_ | refine j_iadd C dX2_applyFloor_51 ?_
        refine cVe1 C dX2_applyFloor_52 lMX2_54 myX2_digit (ev_X2_digit (by omega) d4) (by omega) rc2 (Nat.le_of_ble_eq_true rfl) ?_
        refine cVv4 C dX2_applyFloor_55 lMX2_65 myX0_addFloor (ev_X0_addFloor isH_8 (by omega)) (by omega) (rc0 isH_8) (Nat.le_of_ble_eq_true rfl) (fun μ_55 hv_55 => ?_)
        subst hv_55
        refine j_iconst (v := nI 1) C dX2_applyFloor_58 (by decide) ?_
        exact j_zret C E dX2_applyFloor_59 rfl ⟨_, rfl, Or.inl ⟨⟨by omega, by omega, by omega⟩, rfl, rfl⟩⟩
      · refine j_iconst (v := nI 0) C dX2_applyFloor_28 (by decide) ?_
        exact j_zret C E dX2_applyFloor_29 rfl ⟨_, rfl, Or.inr ⟨(fun q => by omega), rfl, rfl⟩⟩
set_option maxRecDepth 100000 in
set_option maxHeartbeats 4000000 in
theorem ev_X2_applyChange {G : GX} {i9 : Nat} {μ : Mem} (hn : μ 8 0 ≤ 6) (hP : PI5 (sh μ 8)) (hi : i9 + 1 < 96) (d0 : 48 ≤ μ 35 i9) (d1 : 48 ≤ μ 35 (i9 + 1)) (hL9 : ∀ j, j < 96 → μ 35 j ≤ 255) : Ev G mX2_applyChange 2 [rf G 34, .int (nI i9), rf G 8] μ (PI (fun v μ' => ((dg (μ 35) i9 < μ 8 0 ∧ dg (μ 35) (i9 + 1) < μ 8 0 ∧ ¬ dg (μ 35) i9 = dg (μ 35) (i9 + 1)) ∧ v = nI 1 ∧ μ' = rowM μ 13 (swR (μ 13) (μ 8 0) (dg (μ 35) i9) (dg (μ 35) (i9 + 1)))) ∨ (¬ (dg (μ 35) i9 < μ 8 0 ∧ dg (μ 35) (i9 + 1) < μ 8 0 ∧ ¬ dg (μ 35) i9 = dg (μ 35) (i9 + 1)) ∧ v = nI 0 ∧ μ' = μ))) := by
  refine Ev.of (own := RX2) (n := 2) (by decide) rfl rfl (catOK rfl) (fun X C E => ?_)
  show J G X 0 [some _, some _, some _, none, none] [] _
  have hx9 : dg (μ 35) i9 ≤ 255 := by have := hL9 i9 (by omega); unfold dg; omega
  have hy9 : dg (μ 35) (i9 + 1) ≤ 255 := by have := hL9 (i9 + 1) (by omega); unfold dg; omega
  refine j_aload_n C dX2_applyChange_0 rfl ?_
  refine j_iload_n C dX2_applyChange_1 rfl ?_
  refine cVe1 C dX2_applyChange_2 lMX2_54 myX2_digit (ev_X2_digit (by omega) d0) (by omega) rc2 (Nat.le_of_ble_eq_true rfl) ?_
  refine sn3 C dX2_applyChange_5 rfl ?_
  refine j_aload_n C dX2_applyChange_6 rfl ?_
  refine j_iload_n C dX2_applyChange_7 rfl ?_
  refine j_iconst (v := nI 1) C dX2_applyChange_8 (by decide) ?_
  first | refine j_iaddN C dX2_applyChange_9 ?_ | refine j_iadd C dX2_applyChange_9 ?_
  refine cVe1 C dX2_applyChange_10 lMX2_54 myX2_digit (ev_X2_digit (by omega) d1) (by omega) rc2 (Nat.le_of_ble_eq_true rfl) ?_
  refine sl4 C dX2_applyChange_13 rfl ?_
  refine j_aload_n C dX2_applyChange_15 rfl ?_
  refine j_iload_n C dX2_applyChange_16 rfl ?_
  refine j_iload C dX2_applyChange_17 rfl ?_
  refine cVe2 C dX2_applyChange_19 lMX2_69 myX0_canSwap (ev_X0_canSwap isH_8) (by omega) (rc0 isH_8) (Nat.le_of_ble_eq_true rfl) ?_
  refine J.top (b2i_mo (csw (by omega) (by omega) (by omega))) ?_
  first | refine j_if_neB (tgt := 27) C dX2_applyChange_22 (by decide) (fun c_22 => ?_) (fun c_22 => ?_) | refine j_if_neN (tgt := 27) C dX2_applyChange_22 (by decide) (by omega) (fun c_22 => ?_) (fun c_22 => ?_) | refine j_if_ne (tgt := 27) C dX2_applyChange_22 (by decide) (fun c_22 => ?_) (fun c_22 => ?_)
  · obtain ⟨q1, q2, q3⟩ := hP.plc (f := dg (μ 35) i9) c_22.1
    obtain ⟨p1, p2, p3⟩ := hP.plc (f := dg (μ 35) (i9 + 1)) c_22.2.1
    have q1 : plc (μ 13) (dg (μ 35) i9) (μ 8 0) < μ 8 0 := q1
    have p1 : plc (μ 13) (dg (μ 35) (i9 + 1)) (μ 8 0) < μ 8 0 := p1
    refine j_aload_n C dX2_applyChange_27 rfl ?_
    refine j_iload_n C dX2_applyChange_28 rfl ?_
    refine j_iload C dX2_applyChange_29 rfl ?_
    refine cVv2 C dX2_applyChange_31 lMX2_73 myX0_swap (ev_X0_swap isH_8 hn hP.1 q1 p1 q2 p2 (by omega) (by omega) q3 p3) (by omega) (rc0 isH_8) (Nat.le_of_ble_eq_true rfl) (fun μ_31 hv_31 => ?_)
    have e31 : μ_31 = rowM μ 13 (swR (μ 13) (μ 8 0) (dg (μ 35) i9) (dg (μ 35) (i9 + 1))) := by rw [hv_31, show (8 + 5 : Nat) = 13 from rfl, up2_row]; rfl
    refine j_iconst (v := nI 1) C dX2_applyChange_34 (by decide) ?_
    exact j_zret C E dX2_applyChange_35 rfl ⟨_, rfl, Or.inl ⟨c_22, rfl, e31⟩⟩
  · refine j_iconst (v := nI 0) C dX2_applyChange_25 (by decide) ?_
    exact j_zret C E dX2_applyChange_26 rfl ⟨_, rfl, Or.inr ⟨c_22, rfl, rfl⟩⟩
set_option maxRecDepth 100000 in
set_option maxHeartbeats 4000000 in
theorem ev_X2_apply {G : GX} {a9 : Nat} {μ : Mem} (hn : μ 34 1 ≤ 96) (hL9 : ∀ j, j < 96 → μ 35 j ≤ 255) (hW : WF (μ 35) (μ 34 1) a9) (h8 : μ 8 0 ≤ 6) (hP : PI5 (sh μ 8)) : Ev G mX2_apply 3 [rf G 34, .int (nI a9), rf G 8] μ (PI (OutA (μ 35) a9 μ)) := by
  refine Ev.of (own := RX2) (n := 1) (by decide) rfl rfl (catOK rfl) (fun X C E => ?_)
  show J G X 0 [some _, some _, some _, none] [] _
  have hb8 := hW.2.1
  have hs8 := hW.1
  refine j_iload_n C dX2_apply_0 rfl ?_
  refine j_iconst (v := nI 1) C dX2_apply_1 (by decide) ?_
  first | refine j_iaddN C dX2_apply_2 ?_ | refine j_iadd C dX2_apply_2 ?_
  refine sn3 C dX2_apply_3 rfl ?_
  refine j_aload_n C dX2_apply_4 rfl ?_
  refine g2_0 C dX2_apply_5 lFX2_9 ?_
  refine j_iload_n C dX2_apply_8 rfl ?_
  refine j_iald C dX2_apply_9 iA_35 (by omega) ?_
  rcases slen_0.mp hW.1 with hq9 | hq9 | hq9 | hq9 | hq9 | hq9 | hq9
  · have hz9 : slen (μ 35 a9) = 7 := by rw [hq9]; rfl
    have hg9 := fun i h1 h2 => dg_of (i := i) hW h1 (by rw [hz9]; exact h2)
    have hb9 : a9 + 7 ≤ 96 := by have := hW.2.1; omega
    have ha9 := ap_f (L := μ 35) (a := a9) (E := sh μ 8) hq9
    have f29 := (hg9 2 (by decide) (by decide) (fun q => absurd q.1 (by omega))).1
    have f39 := (hg9 3 (by decide) (by decide) (fun q => absurd q.1 (by omega))).1
    have f49 := (hg9 4 (by decide) (by decide) (fun q => absurd q.1 (by omega))).1
    have f59 := (hg9 5 (by decide) (by decide) (fun q => absurd q.1 (by omega))).1
    have hk9 : isKd (μ 35 (a9 + 1)) := by have h9 := hW.2.2 1 (by decide) (by rw [hz9]; decide); rw [hz9] at h9; exact (mayS_kind (by decide) ⟨rfl, hq9⟩).mp h9
    have t29 := tw2_le (i := a9 + 2) hL9 (by omega)
    have t39 := tw2_le (i := a9 + 3) hL9 (by omega)
    have t49 := tw2_le (i := a9 + 4) hL9 (by omega)
    have g19 : dg (μ 35) (a9 + 1) ≤ 255 := by have := hL9 (a9 + 1) (by omega); unfold dg; omega
    have g29 : dg (μ 35) (a9 + 2) ≤ 255 := by have := hL9 (a9 + 2) (by omega); unfold dg; omega
    have g39 : dg (μ 35) (a9 + 3) ≤ 255 := by have := hL9 (a9 + 3) (by omega); unfold dg; omega
    have g49 : dg (μ 35) (a9 + 4) ≤ 255 := by have := hL9 (a9 + 4) (by omega); unfold dg; omega
    have g59 : dg (μ 35) (a9 + 5) ≤ 255 := by have := hL9 (a9 + 5) (by omega); unfold dg; omega
    refine J.top (y := nI 102) (by rw [hq9]) ?_
    refine j_tabIn (tgt := 104) C dX2_apply_10 (by decide) (by decide) (off := 94) (by decide) (by decide) ?_
    refine j_aload_n C dX2_apply_104 rfl ?_
    refine j_iload_n C dX2_apply_105 rfl ?_
    refine j_aload_n C dX2_apply_106 rfl ?_
    refine cVi2 C dX2_apply_107 lMX2_44 myX2_applyFloor (ev_X2_applyFloor (by omega) (by omega) hk9 f29 f39 f49 f59 hL9) (by omega) rc2 (Nat.le_of_ble_eq_true rfl) (fun v_107 μ_107 hv_107 => ?_)
    rcases hv_107 with ⟨h1, rfl, h3⟩ | ⟨h1, rfl, h3⟩
    · subst h3
      exact j_zret C E dX2_apply_110 rfl ⟨_, rfl, Or.inl ⟨ha9.1.mpr h1, rfl, by rw [ha9.2]; exact sh_adF, FR8_ad⟩⟩
    · subst h3
      exact j_zret C E dX2_apply_110 rfl ⟨_, rfl, Or.inr ⟨fun q => h1 (ha9.1.mp q), rfl, FR8.refl _⟩⟩
  · have hz9 : slen (μ 35 a9) = 6 := by rw [hq9]; rfl
    have hg9 := fun i h1 h2 => dg_of (i := i) hW h1 (by rw [hz9]; exact h2)
    have hb9 : a9 + 6 ≤ 96 := by have := hW.2.1; omega
    have ha9 := ap_u (L := μ 35) (a := a9) (E := sh μ 8) hq9
    have f19 := (hg9 1 (by decide) (by decide) (fun q => absurd q.2 (by omega))).1
    have f29 := (hg9 2 (by decide) (by decide) (fun q => absurd q.1 (by omega))).1
    have f39 := (hg9 3 (by decide) (by decide) (fun q => absurd q.1 (by omega))).1
    have f49 := (hg9 4 (by decide) (by decide) (fun q => absurd q.1 (by omega))).1
    have t19 := tw2_le (i := a9 + 1) hL9 (by omega)
    have t29 := tw2_le (i := a9 + 2) hL9 (by omega)
    have t39 := tw2_le (i := a9 + 3) hL9 (by omega)
    have g19 : dg (μ 35) (a9 + 1) ≤ 255 := by have := hL9 (a9 + 1) (by omega); unfold dg; omega
    have g29 : dg (μ 35) (a9 + 2) ≤ 255 := by have := hL9 (a9 + 2) (by omega); unfold dg; omega
    have g39 : dg (μ 35) (a9 + 3) ≤ 255 := by have := hL9 (a9 + 3) (by omega); unfold dg; omega
    have g49 : dg (μ 35) (a9 + 4) ≤ 255 := by have := hL9 (a9 + 4) (by omega); unfold dg; omega
    refine J.top (y := nI 117) (by rw [hq9]) ?_
    refine j_tabIn (tgt := 111) C dX2_apply_10 (by decide) (by decide) (off := 101) (by decide) (by decide) ?_
    refine j_aload_n C dX2_apply_111 rfl ?_
    refine j_iconst (v := nI 0) C dX2_apply_112 (by decide) ?_
    refine j_aload_n C dX2_apply_113 rfl ?_
    refine j_iload_n C dX2_apply_114 rfl ?_
    refine cVe1 C dX2_apply_115 lMX2_47 myX2_two (ev_X2_twoR (by first | rfl | simp only [u35]) (by omega) f19 f29) (by omega) rc2 (Nat.le_of_ble_eq_true rfl) ?_
    refine J.top (y := nI (tw2 (μ 35) (a9 + 1))) rfl ?_
    refine cSe3 C dX2_apply_118 lMX2_50 myX2_put (ev_X2_put (by decide) (by omega)) (by omega) (Nat.le_of_ble_eq_true rfl) ?_
    first | refine j_if_eqB (tgt := 143) C dX2_apply_121 (by decide) (fun c_121 => ?_) (fun c_121 => ?_) | refine j_if_eqN (tgt := 143) C dX2_apply_121 (by decide) (by omega) (fun c_121 => ?_) (fun c_121 => ?_) | refine j_if_eq (tgt := 143) C dX2_apply_121 (by decide) (fun c_121 => ?_) (fun c_121 => ?_)
    · refine J.mem (if_neg c_121) ?_
      refine j_iconst (v := nI 0) C dX2_apply_143 (by decide) ?_
      exact j_zret C E dX2_apply_144 rfl (by first | exact ⟨_, rfl, Or.inl ⟨ha9.1.mpr ⟨c_121, c_136⟩, rfl, (by rw [ha9.2, sh14, sh14]), FR8_14.trans FR8_14⟩⟩ | exact ⟨_, rfl, Or.inr ⟨(fun q9 => c_121 (ha9.1.mp q9).1), rfl, FR8.refl _⟩⟩ | exact ⟨_, rfl, Or.inr ⟨(fun q9 => c_136 (ha9.1.mp q9).2), rfl, FR8_14⟩⟩)
    · refine J.mem (if_pos c_121) ?_
      refine j_aload_n C dX2_apply_124 rfl ?_
      refine j_iconst (v := nI 1) C dX2_apply_125 (by decide) ?_
      refine j_aload_n C dX2_apply_126 rfl ?_
      refine j_iload_n C dX2_apply_127 rfl ?_
      refine j_iconst (v := nI 2) C dX2_apply_128 (by decide) ?_
      first | refine j_iaddN C dX2_apply_129 ?_ | refine j_iadd C dX2_apply_129 ?_
      refine cVe1 C dX2_apply_130 lMX2_47 myX2_two (ev_X2_twoR (by first | rfl | simp only [u35]) (by omega) f39 f49) (by omega) rc2 (Nat.le_of_ble_eq_true rfl) ?_
      refine J.top (y := nI (tw2 (μ 35) (a9 + 3))) rfl ?_
      refine cSe3 C dX2_apply_133 lMX2_50 myX2_put (ev_X2_put (by decide) (by omega)) (by omega) (Nat.le_of_ble_eq_true rfl) ?_
      first | refine j_if_eqB (tgt := 143) C dX2_apply_136 (by decide) (fun c_136 => ?_) (fun c_136 => ?_) | refine j_if_eqN (tgt := 143) C dX2_apply_136 (by decide) (by omega) (fun c_136 => ?_) (fun c_136 => ?_) | refine j_if_eq (tgt := 143) C dX2_apply_136 (by decide) (fun c_136 => ?_) (fun c_136 => ?_)
      · refine J.mem (if_neg c_136) ?_
        refine j_iconst (v := nI 0) C dX2_apply_143 (by decide) ?_
        exact j_zret C E dX2_apply_144 rfl (by first | exact ⟨_, rfl, Or.inl ⟨ha9.1.mpr ⟨c_121, c_136⟩, rfl, (by rw [ha9.2, sh14, sh14]), FR8_14.trans FR8_14⟩⟩ | exact ⟨_, rfl, Or.inr ⟨(fun q9 => c_121 (ha9.1.mp q9).1), rfl, FR8.refl _⟩⟩ | exact ⟨_, rfl, Or.inr ⟨(fun q9 => c_136 (ha9.1.mp q9).2), rfl, FR8_14⟩⟩)
      · refine J.mem (if_pos c_136) ?_
        refine j_iconst (v := nI 1) C dX2_apply_139 (by decide) ?_
        refine j_goto (tgt := 144) C dX2_apply_140 (by decide) ?_
        exact j_zret C E dX2_apply_144 rfl (by first | exact ⟨_, rfl, Or.inl ⟨ha9.1.mpr ⟨c_121, c_136⟩, rfl, (by rw [ha9.2, sh14, sh14]), FR8_14.trans FR8_14⟩⟩ | exact ⟨_, rfl, Or.inr ⟨(fun q9 => c_121 (ha9.1.mp q9).1), rfl, FR8.refl _⟩⟩ | exact ⟨_, rfl, Or.inr ⟨(fun q9 => c_136 (ha9.1.mp q9).2), rfl, FR8_14⟩⟩)
  · have hz9 : slen (μ 35 a9) = 8 := by rw [hq9]; rfl
    have hg9 := fun i h1 h2 => dg_of (i := i) hW h1 (by rw [hz9]; exact h2)
    have hb9 : a9 + 8 ≤ 96 := by have := hW.2.1; omega
    have ha9 := ap_b (L := μ 35) (a := a9) (E := sh μ 8) hq9
    have f19 := (hg9 1 (by decide) (by decide) (fun q => absurd q.2 (by omega))).1
    have f29 := (hg9 2 (by decide) (by decide) (fun q => absurd q.1 (by omega))).1
    have f39 := (hg9 3 (by decide) (by decide) (fun q => absurd q.1 (by omega))).1
    have f49 := (hg9 4 (by decide) (by decide) (fun q => absurd q.1 (by omega))).1
    have f59 := (hg9 5 (by decide) (by decide) (fun q => absurd q.1 (by omega))).1
    have f69 := (hg9 6 (by decide) (by decide) (fun q => absurd q.1 (by omega))).1
    have t19 := tw2_le (i := a9 + 1) hL9 (by omega)
    have t29 := tw2_le (i := a9 + 2) hL9 (by omega)
    have t39 := tw2_le (i := a9 + 3) hL9 (by omega)
    have t49 := tw2_le (i := a9 + 4) hL9 (by omega)
    have t59 := tw2_le (i := a9 + 5) hL9 (by omega)
    have g19 : dg (μ 35) (a9 + 1) ≤ 255 := by have := hL9 (a9 + 1) (by omega); unfold dg; omega
    have g29 : dg (μ 35) (a9 + 2) ≤ 255 := by have := hL9 (a9 + 2) (by omega); unfold dg; omega
    have g39 : dg (μ 35) (a9 + 3) ≤ 255 := by have := hL9 (a9 + 3) (by omega); unfold dg; omega
    have g49 : dg (μ 35) (a9 + 4) ≤ 255 := by have := hL9 (a9 + 4) (by omega); unfold dg; omega
    have g59 : dg (μ 35) (a9 + 5) ≤ 255 := by have := hL9 (a9 + 5) (by omega); unfold dg; omega
    have g69 : dg (μ 35) (a9 + 6) ≤ 255 := by have := hL9 (a9 + 6) (by omega); unfold dg; omega
    refine J.top (y := nI 98) (by rw [hq9]) ?_
    refine j_tabIn (tgt := 145) C dX2_apply_10 (by decide) (by decide) (off := 135) (by decide) (by decide) ?_
    refine j_aload_n C dX2_apply_145 rfl ?_
    refine j_iconst (v := nI 2) C dX2_apply_146 (by decide) ?_
    refine j_aload_n C dX2_apply_147 rfl ?_
    refine j_iload_n C dX2_apply_148 rfl ?_
    refine cVe1 C dX2_apply_149 lMX2_47 myX2_two (ev_X2_twoR (by first | rfl | simp only [u35]) (by omega) f19 f29) (by omega) rc2 (Nat.le_of_ble_eq_true rfl) ?_
    refine J.top (y := nI (tw2 (μ 35) (a9 + 1))) rfl ?_
    refine cSe3 C dX2_apply_152 lMX2_50 myX2_put (ev_X2_put (by decide) (by omega)) (by omega) (Nat.le_of_ble_eq_true rfl) ?_
    first | refine j_if_eqB (tgt := 192) C dX2_apply_155 (by decide) (fun c_155 => ?_) (fun c_155 => ?_) | refine j_if_eqN (tgt := 192) C dX2_apply_155 (by decide) (by omega) (fun c_155 => ?_) (fun c_155 => ?_) | refine j_if_eq (tgt := 192) C dX2_apply_155 (by decide) (fun c_155 => ?_) (fun c_155 => ?_)
    · refine J.mem (if_neg c_155) ?_
      refine j_iconst (v := nI 0) C dX2_apply_192 (by decide) ?_
      exact j_zret C E dX2_apply_193 rfl (by first | exact ⟨_, rfl, Or.inl ⟨ha9.1.mpr ⟨c_155, c_170, c_185⟩, rfl, (by rw [ha9.2, sh14, sh14, sh14]), (FR8_14.trans FR8_14).trans FR8_14⟩⟩ | exact ⟨_, rfl, Or.inr ⟨(fun q9 => c_155 (ha9.1.mp q9).1), rfl, FR8.refl _⟩⟩ | exact ⟨_, rfl, Or.inr ⟨(fun q9 => c_170 (ha9.1.mp q9).2.1), rfl, FR8_14⟩⟩ | exact ⟨_, rfl, Or.inr ⟨(fun q9 => c_185 (ha9.1.mp q9).2.2), rfl, FR8_14.trans FR8_14⟩⟩)
    · refine J.mem (if_pos c_155) ?_
      refine j_aload_n C dX2_apply_158 rfl ?_
      refine j_iconst (v := nI 3) C dX2_apply_159 (by decide) ?_
      refine j_aload_n C dX2_apply_160 rfl ?_
      refine j_iload_n C dX2_apply_161 rfl ?_
      refine j_iconst (v := nI 2) C dX2_apply_162 (by decide) ?_
      first | refine j_iaddN C dX2_apply_163 ?_ | refine j_iadd C dX2_apply_163 ?_
      refine cVe1 C dX2_apply_164 lMX2_47 myX2_two (ev_X2_twoR (by first | rfl | simp only [u35]) (by omega) f39 f49) (by omega) rc2 (Nat.le_of_ble_eq_true rfl) ?_
      refine J.top (y := nI (tw2 (μ 35) (a9 + 3))) rfl ?_
      refine cSe3 C dX2_apply_167 lMX2_50 myX2_put (ev_X2_put (by decide) (by omega)) (by omega) (Nat.le_of_ble_eq_true rfl) ?_
      first | refine j_if_eqB (tgt := 192) C dX2_apply_170 (by decide) (fun c_170 => ?_) (fun c_170 => ?_) | refine j_if_eqN (tgt := 192) C dX2_apply_170 (by decide) (by omega) (fun c_170 => ?_) (fun c_170 => ?_) | refine j_if_eq (tgt := 192) C dX2_apply_170 (by decide) (fun c_170 => ?_) (fun c_170 => ?_)
      · refine J.mem (if_neg c_170) ?_
        refine j_iconst (v := nI 0) C dX2_apply_192 (by decide) ?_
        exact j_zret C E dX2_apply_193 rfl (by first | exact ⟨_, rfl, Or.inl ⟨ha9.1.mpr ⟨c_155, c_170, c_185⟩, rfl, (by rw [ha9.2, sh14, sh14, sh14]), (FR8_14.trans FR8_14).trans FR8_14⟩⟩ | exact ⟨_, rfl, Or.inr ⟨(fun q9 => c_155 (ha9.1.mp q9).1), rfl, FR8.refl _⟩⟩ | exact ⟨_, rfl, Or.inr ⟨(fun q9 => c_170 (ha9.1.mp q9).2.1), rfl, FR8_14⟩⟩ | exact ⟨_, rfl, Or.inr ⟨(fun q9 => c_185 (ha9.1.mp q9).2.2), rfl, FR8_14.trans FR8_14⟩⟩)
      · refine J.mem (if_pos c_170) ?_
        refine j_aload_n C dX2_apply_173 rfl ?_
        refine j_iconst (v := nI 4) C dX2_apply_174 (by decide) ?_
        refine j_aload_n C dX2_apply_175 rfl ?_
        refine j_iload_n C dX2_apply_176 rfl ?_
        refine j_iconst (v := nI 4) C dX2_apply_177 (by decide) ?_
        first | refine j_iaddN C dX2_apply_178 ?_ | refine j_iadd C dX2_apply_178 ?_
        refine cVe1 C dX2_apply_179 lMX2_47 myX2_two (ev_X2_twoR (by first | rfl | simp only [u35]) (by omega) f59 f69) (by omega) rc2 (Nat.le_of_ble_eq_true rfl) ?_
        refine J.top (y := nI (tw2 (μ 35) (a9 + 5))) rfl ?_
        refine cSe3 C dX2_apply_182 lMX2_50 myX2_put (ev_X2_put (by decide) (by omega)) (by omega) (Nat.le_of_ble_eq_true rfl) ?_
        first | refine j_if_eqB (tgt := 192) C dX2_apply_185 (by decide) (fun c_185 => ?_) (fun c_185 => ?_) | refine j_if_eqN (tgt := 192) C dX2_apply_185 (by decide) (by omega) (fun c_185 => ?_) (fun c_185 => ?_) | refine j_if_eq (tgt := 192) C dX2_apply_185 (by decide) (fun c_185 => ?_) (fun c_185 => ?_)
        · refine J.mem (if_neg c_185) ?_
          refine j_iconst (v := nI 0) C dX2_apply_192 (by decide) ?_
          exact j_zret C E dX2_apply_193 rfl (by first | exact ⟨_, rfl, Or.inl ⟨ha9.1.mpr ⟨c_155, c_170, c_185⟩, rfl, (by rw [ha9.2, sh14, sh14, sh14]), (FR8_14.trans FR8_14).trans FR8_14⟩⟩ | exact ⟨_, rfl, Or.inr ⟨(fun q9 => c_155 (ha9.1.mp q9).1), rfl, FR8.refl _⟩⟩ | exact ⟨_, rfl, Or.inr ⟨(fun q9 => c_170 (ha9.1.mp q9).2.1), rfl, FR8_14⟩⟩ | exact ⟨_, rfl, Or.inr ⟨(fun q9 => c_185 (ha9.1.mp q9).2.2), rfl, FR8_14.trans FR8_14⟩⟩)
        · refine J.mem (if_pos c_185) ?_
          refine j_iconst (v := nI 1) C dX2_apply_188 (by decide) ?_
          refine j_goto (tgt := 193) C dX2_apply_189 (by decide) ?_
          exact j_zret C E dX2_apply_193 rfl (by first | exact ⟨_, rfl, Or.inl ⟨ha9.1.mpr ⟨c_155, c_170, c_185⟩, rfl, (by rw [ha9.2, sh14, sh14, sh14]), (FR8_14.trans FR8_14).trans FR8_14⟩⟩ | exact ⟨_, rfl, Or.inr ⟨(fun q9 => c_155 (ha9.1.mp q9).1), rfl, FR8.refl _⟩⟩ | exact ⟨_, rfl, Or.inr ⟨(fun q9 => c_170 (ha9.1.mp q9).2.1), rfl, FR8_14⟩⟩ | exact ⟨_, rfl, Or.inr ⟨(fun q9 => c_185 (ha9.1.mp q9).2.2), rfl, FR8_14.trans FR8_14⟩⟩)
  · have hz9 : slen (μ 35 a9) = 3 := by rw [hq9]; rfl
    have hg9 := fun i h1 h2 => dg_of (i := i) hW h1 (by rw [hz9]; exact h2)
    have hb9 : a9 + 3 ≤ 96 := by have := hW.2.1; omega
    have ha9 := ap_s (L := μ 35) (a := a9) (E := sh μ 8) hq9
    have f19 := (hg9 1 (by decide) (by decide) (fun q => absurd q.2 (by omega))).1
    have g19 : dg (μ 35) (a9 + 1) ≤ 255 := by have := hL9 (a9 + 1) (by omega); unfold dg; omega
    refine J.top (y := nI 115) (by rw [hq9]) ?_
    refine j_tabIn (tgt := 194) C dX2_apply_10 (by decide) (by decide) (off := 184) (by decide) (by decide) ?_
    refine j_aload_n C dX2_apply_194 rfl ?_
    refine j_iconst (v := nI 5) C dX2_apply_195 (by decide) ?_
    refine j_aload_n C dX2_apply_196 rfl ?_
    refine j_iload_n C dX2_apply_197 rfl ?_
    refine cVe1 C dX2_apply_198 lMX2_54 myX2_digit (ev_X2_digitR (by first | rfl | simp only [u35]) (by omega) f19) (by omega) rc2 (Nat.le_of_ble_eq_true rfl) ?_
    refine J.top (y := nI (dg (μ 35) (a9 + 1))) rfl ?_
    have f09 : dg (μ 35) (a9 + 1) ≤ 9 := by have := (hg9 1 (by decide) (by decide) (fun q => absurd q.2 (by omega))).2; unfold dg; omega
    refine cSe3 C dX2_apply_201 lMX2_50 myX2_put (ev_X2_put (by decide) (by omega)) (by omega) (Nat.le_of_ble_eq_true rfl) ?_
    refine J.mem (if_pos f09) ?_
    refine J.top (b2i_t f09) ?_
    exact j_zret C E dX2_apply_204 rfl ⟨_, rfl, Or.inl ⟨ha9.1.mpr f09, rfl, by rw [ha9.2, sh14], FR8_14⟩⟩
  · have hz9 : slen (μ 35 a9) = 4 := by rw [hq9]; rfl
    have hg9 := fun i h1 h2 => dg_of (i := i) hW h1 (by rw [hz9]; exact h2)
    have hb9 : a9 + 4 ≤ 96 := by have := hW.2.1; omega
    have ha9 := ap_g (L := μ 35) (a := a9) (E := sh μ 8) hq9
    have f19 := (hg9 1 (by decide) (by decide) (fun q => absurd q.2 (by omega))).1
    have f29 := (hg9 2 (by decide) (by decide) (fun q => absurd q.1 (by omega))).1
    have t19 := tw2_le (i := a9 + 1) hL9 (by omega)
    have g19 : dg (μ 35) (a9 + 1) ≤ 255 := by have := hL9 (a9 + 1) (by omega); unfold dg; omega
    have g29 : dg (μ 35) (a9 + 2) ≤ 255 := by have := hL9 (a9 + 2) (by omega); unfold dg; omega
    refine J.top (y := nI 103) (by rw [hq9]) ?_
    refine j_tabIn (tgt := 205) C dX2_apply_10 (by decide) (by decide) (off := 195) (by decide) (by decide) ?_
    refine j_aload_n C dX2_apply_205 rfl ?_
    refine j_bipush (v := nI 6) C dX2_apply_206 (by decide) ?_
    refine j_aload_n C dX2_apply_208 rfl ?_
    refine j_iload_n C dX2_apply_209 rfl ?_
    refine cVe1 C dX2_apply_210 lMX2_54 myX2_digit (ev_X2_digitR (by first | rfl | simp only [u35]) (by omega) f19) (by omega) rc2 (Nat.le_of_ble_eq_true rfl) ?_
    refine J.top (y := nI (dg (μ 35) (a9 + 1))) rfl ?_
    refine cSe3 C dX2_apply_213 lMX2_50 myX2_put (ev_X2_put (by decide) (by omega)) (by omega) (Nat.le_of_ble_eq_true rfl) ?_
    first | refine j_if_eqB (tgt := 239) C dX2_apply_216 (by decide) (fun c_216 => ?_) (fun c_216 => ?_) | refine j_if_eqN (tgt := 239) C dX2_apply_216 (by decide) (by omega) (fun c_216 => ?_) (fun c_216 => ?_) | refine j_if_eq (tgt := 239) C dX2_apply_216 (by decide) (fun c_216 => ?_) (fun c_216 => ?_)
    · refine J.mem (if_neg c_216) ?_
      refine j_iconst (v := nI 0) C dX2_apply_239 (by decide) ?_
      exact j_zret C E dX2_apply_240 rfl (by first | exact ⟨_, rfl, Or.inl ⟨ha9.1.mpr ⟨c_216, c_232⟩, rfl, (by rw [ha9.2, sh14, sh14]), FR8_14.trans FR8_14⟩⟩ | exact ⟨_, rfl, Or.inr ⟨(fun q9 => c_216 (ha9.1.mp q9).1), rfl, FR8.refl _⟩⟩ | exact ⟨_, rfl, Or.inr ⟨(fun q9 => c_232 (ha9.1.mp q9).2), rfl, FR8_14⟩⟩)
    · refine J.mem (if_pos c_216) ?_
      refine j_aload_n C dX2_apply_219 rfl ?_
      refine j_bipush (v := nI 7) C dX2_apply_220 (by decide) ?_
      refine j_aload_n C dX2_apply_222 rfl ?_
      refine j_iload_n C dX2_apply_223 rfl ?_
      refine j_iconst (v := nI 1) C dX2_apply_224 (by decide) ?_
      first | refine j_iaddN C dX2_apply_225 ?_ | refine j_iadd C dX2_apply_225 ?_
      refine cVe1 C dX2_apply_226 lMX2_54 myX2_digit (ev_X2_digitR (by first | rfl | simp only [u35]) (by omega) f29) (by omega) rc2 (Nat.le_of_ble_eq_true rfl) ?_
      refine J.top (y := nI (dg (μ 35) (a9 + 2))) rfl ?_
      refine cSe3 C dX2_apply_229 lMX2_50 myX2_put (ev_X2_put (by decide) (by omega)) (by omega) (Nat.le_of_ble_eq_true rfl) ?_
      first | refine j_if_eqB (tgt := 239) C dX2_apply_232 (by decide) (fun c_232 => ?_) (fun c_232 => ?_) | refine j_if_eqN (tgt := 239) C dX2_apply_232 (by decide) (by omega) (fun c_232 => ?_) (fun c_232 => ?_) | refine j_if_eq (tgt := 239) C dX2_apply_232 (by decide) (fun c_232 => ?_) (fun c_232 => ?_)
      · refine J.mem (if_neg c_232) ?_
        refine j_iconst (v := nI 0) C dX2_apply_239 (by decide) ?_
        exact j_zret C E dX2_apply_240 rfl (by first | exact ⟨_, rfl, Or.inl ⟨ha9.1.mpr ⟨c_216, c_232⟩, rfl, (by rw [ha9.2, sh14, sh14]), FR8_14.trans FR8_14⟩⟩ | exact ⟨_, rfl, Or.inr ⟨(fun q9 => c_216 (ha9.1.mp q9).1), rfl, FR8.refl _⟩⟩ | exact ⟨_, rfl, Or.inr ⟨(fun q9 => c_232 (ha9.1.mp q9).2), rfl, FR8_14⟩⟩)
      · refine J.mem (if_pos c_232) ?_
        refine j_iconst (v := nI 1) C dX2_apply_235 (by decide) ?_
        refine j_goto (tgt := 240) C dX2_apply_236 (by decide) ?_
        exact j_zret C E dX2_apply_240 rfl (by first | exact ⟨_, rfl, Or.inl ⟨ha9.1.mpr ⟨c_216, c_232⟩, rfl, (by rw [ha9.2, sh14, sh14]), FR8_14.trans FR8_14⟩⟩ | exact ⟨_, rfl, Or.inr ⟨(fun q9 => c_216 (ha9.1.mp q9).1), rfl, FR8.refl _⟩⟩ | exact ⟨_, rfl, Or.inr ⟨(fun q9 => c_232 (ha9.1.mp q9).2), rfl, FR8_14⟩⟩)
  · have hz9 : slen (μ 35 a9) = 5 := by rw [hq9]; rfl
    have hg9 := fun i h1 h2 => dg_of (i := i) hW h1 (by rw [hz9]; exact h2)
    have hb9 : a9 + 5 ≤ 96 := by have := hW.2.1; omega
    have ha9 := ap_r (L := μ 35) (a := a9) (E := sh μ 8) hq9
    have f19 := (hg9 1 (by decide) (by decide) (fun q => absurd q.2 (by omega))).1
    have f29 := (hg9 2 (by decide) (by decide) (fun q => absurd q.1 (by omega))).1
    have f39 := (hg9 3 (by decide) (by decide) (fun q => absurd q.1 (by omega))).1
    have t19 := tw2_le (i := a9 + 1) hL9 (by omega)
    have t29 := tw2_le (i := a9 + 2) hL9 (by omega)
    have g19 : dg (μ 35) (a9 + 1) ≤ 255 := by have := hL9 (a9 + 1) (by omega); unfold dg; omega
    have g29 : dg (μ 35) (a9 + 2) ≤ 255 := by have := hL9 (a9 + 2) (by omega); unfold dg; omega
    have g39 : dg (μ 35) (a9 + 3) ≤ 255 := by have := hL9 (a9 + 3) (by omega); unfold dg; omega
    refine J.top (y := nI 114) (by rw [hq9]) ?_
    refine j_tabIn (tgt := 241) C dX2_apply_10 (by decide) (by decide) (off := 231) (by decide) (by decide) ?_
    refine j_aload_n C dX2_apply_241 rfl ?_
    refine j_bipush (v := nI 8) C dX2_apply_242 (by decide) ?_
    refine j_aload_n C dX2_apply_244 rfl ?_
    refine j_iload_n C dX2_apply_245 rfl ?_
    refine cVe1 C dX2_apply_246 lMX2_54 myX2_digit (ev_X2_digitR (by first | rfl | simp only [u35]) (by omega) f19) (by omega) rc2 (Nat.le_of_ble_eq_true rfl) ?_
    refine J.top (y := nI (dg (μ 35) (a9 + 1))) rfl ?_
    refine cSe3 C dX2_apply_249 lMX2_50 myX2_put (ev_X2_put (by decide) (by omega)) (by omega) (Nat.le_of_ble_eq_true rfl) ?_
    first | refine j_if_eqB (tgt := 275) C dX2_apply_252 (by decide) (fun c_252 => ?_) (fun c_252 => ?_) | refine j_if_eqN (tgt := 275) C dX2_apply_252 (by decide) (by omega) (fun c_252 => ?_) (fun c_252 => ?_) | refine j_if_eq (tgt := 275) C dX2_apply_252 (by decide) (fun c_252 => ?_) (fun c_252 => ?_)
    · refine J.mem (if_neg c_252) ?_
      refine j_iconst (v := nI 0) C dX2_apply_275 (by decide) ?_
      exact j_zret C E dX2_apply_276 rfl (by first | exact ⟨_, rfl, Or.inl ⟨ha9.1.mpr ⟨c_252, c_268⟩, rfl, (by rw [ha9.2, sh14, sh14]), FR8_14.trans FR8_14⟩⟩ | exact ⟨_, rfl, Or.inr ⟨(fun q9 => c_252 (ha9.1.mp q9).1), rfl, FR8.refl _⟩⟩ | exact ⟨_, rfl, Or.inr ⟨(fun q9 => c_268 (ha9.1.mp q9).2), rfl, FR8_14⟩⟩)
    · refine J.mem (if_pos c_252) ?_
      refine j_aload_n C dX2_apply_255 rfl ?_
      refine j_bipush (v := nI 9) C dX2_apply_256 (by decide) ?_
      refine j_aload_n C dX2_apply_258 rfl ?_
      refine j_iload_n C dX2_apply_259 rfl ?_
      refine j_iconst (v := nI 1) C dX2_apply_260 (by decide) ?_
      first | refine j_iaddN C dX2_apply_261 ?_ | refine j_iadd C dX2_apply_261 ?_
      refine cVe1 C dX2_apply_262 lMX2_47 myX2_two (ev_X2_twoR (by first | rfl | simp only [u35]) (by omega) f29 f39) (by omega) rc2 (Nat.le_of_ble_eq_true rfl) ?_
      refine J.top (y := nI (tw2 (μ 35) (a9 + 2))) rfl ?_
      refine cSe3 C dX2_apply_265 lMX2_50 myX2_put (ev_X2_put (by decide) (by omega)) (by omega) (Nat.le_of_ble_eq_true rfl) ?_
      first | refine j_if_eqB (tgt := 275) C dX2_apply_268 (by decide) (fun c_268 => ?_) (fun c_268 => ?_) | refine j_if_eqN (tgt := 275) C dX2_apply_268 (by decide) (by omega) (fun c_268 => ?_) (fun c_268 => ?_) | refine j_if_eq (tgt := 275) C dX2_apply_268 (by decide) (fun c_268 => ?_) (fun c_268 => ?_)
      · refine J.mem (if_neg c_268) ?_
        refine j_iconst (v := nI 0) C dX2_apply_275 (by decide) ?_
        exact j_zret C E dX2_apply_276 rfl (by first | exact ⟨_, rfl, Or.inl ⟨ha9.1.mpr ⟨c_252, c_268⟩, rfl, (by rw [ha9.2, sh14, sh14]), FR8_14.trans FR8_14⟩⟩ | exact ⟨_, rfl, Or.inr ⟨(fun q9 => c_252 (ha9.1.mp q9).1), rfl, FR8.refl _⟩⟩ | exact ⟨_, rfl, Or.inr ⟨(fun q9 => c_268 (ha9.1.mp q9).2), rfl, FR8_14⟩⟩)
      · refine J.mem (if_pos c_268) ?_
        refine j_iconst (v := nI 1) C dX2_apply_271 (by decide) ?_
        refine j_goto (tgt := 276) C dX2_apply_272 (by decide) ?_
        exact j_zret C E dX2_apply_276 rfl (by first | exact ⟨_, rfl, Or.inl ⟨ha9.1.mpr ⟨c_252, c_268⟩, rfl, (by rw [ha9.2, sh14, sh14]), FR8_14.trans FR8_14⟩⟩ | exact ⟨_, rfl, Or.inr ⟨(fun q9 => c_252 (ha9.1.mp q9).1), rfl, FR8.refl _⟩⟩ | exact ⟨_, rfl, Or.inr ⟨(fun q9 => c_268 (ha9.1.mp q9).2), rfl, FR8_14⟩⟩)
  · have hz9 : slen (μ 35 a9) = 4 := by rw [hq9]; rfl
    have hg9 := fun i h1 h2 => dg_of (i := i) hW h1 (by rw [hz9]; exact h2)
    have hb9 : a9 + 4 ≤ 96 := by have := hW.2.1; omega
    have ha9 := ap_x (L := μ 35) (a := a9) (E := sh μ 8) hq9
    have f19 := (hg9 1 (by decide) (by decide) (fun q => absurd q.2 (by omega))).1
    have f29 := (hg9 2 (by decide) (by decide) (fun q => absurd q.1 (by omega))).1
    have t19 := tw2_le (i := a9 + 1) hL9 (by omega)
    have g19 : dg (μ 35) (a9 + 1) ≤ 255 := by have := hL9 (a9 + 1) (by omega); unfold dg; omega
    have g29 : dg (μ 35) (a9 + 2) ≤ 255 := by have := hL9 (a9 + 2) (by omega); unfold dg; omega
    refine J.top (y := nI 120) (by rw [hq9]) ?_
    refine j_tabOut (tgt := 277) C dX2_apply_10 (by decide) (by decide) ?_
    refine j_aload_n C dX2_apply_277 rfl ?_
    refine j_iload_n C dX2_apply_278 rfl ?_
    refine j_aload_n C dX2_apply_279 rfl ?_
    refine cVi2 C dX2_apply_280 lMX2_57 myX2_applyChange (ev_X2_applyChange (by omega) hP (by omega) f19 f29 hL9) (by omega) rc2 (Nat.le_of_ble_eq_true rfl) (fun v_280 μ_280 hv_280 => ?_)
    rcases hv_280 with ⟨h1, rfl, h3⟩ | ⟨h1, rfl, h3⟩
    · subst h3
      exact j_zret C E dX2_apply_283 rfl ⟨_, rfl, Or.inl ⟨ha9.1.mpr h1, rfl, by rw [ha9.2]; exact sh_row8 (k := 5), FR8_row⟩⟩
    · subst h3
      exact j_zret C E dX2_apply_283 rfl ⟨_, rfl, Or.inr ⟨fun q => h1 (ha9.1.mp q), rfl, FR8.refl _⟩⟩
