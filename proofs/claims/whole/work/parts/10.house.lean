-- HOUSE
theorem ret_t {p : Prop} [Decidable p] {μ : Mem} (h : p) : PIe (b2i p) μ (some (.int (nI 1))) μ := ⟨by rw [b2i_t h], rfl⟩
theorem ret_f {p : Prop} [Decidable p] {μ : Mem} (h : ¬ p) : PIe (b2i p) μ (some (.int (nI 0))) μ := ⟨by rw [b2i_f h], rfl⟩
theorem ret_e {a b : Nat} {μ : Mem} (h : a = b) : PIe (nI b) μ (some (.int (nI a))) μ := ⟨by rw [h], rfl⟩
/-- two houses hold the same -/
def EQ (E F : Mem) : Prop := E 0 0 = F 0 0 ∧ (∀ k i, 1 ≤ k → k ≤ 5 → i < 6 → E k i = F k i) ∧ ∀ i, i < 10 → E 6 i = F 6 i
theorem Ev.post {G : GX} {md : MD} {d : Nat} {av : List Value} {μ : Mem} {P Q : PO} (h : Ev G md d av μ P) (hPQ : ∀ r μ', P r μ' → Q r μ') : Ev G md d av μ Q := by
  intro p e ha hc hk s m args below hf happ hpre hkk
  obtain ⟨t, o, h1, h2, h3, ⟨⟨r, μ', e1, e2, e3⟩, e4⟩, e5⟩ := h p e ha hc hk s m args below hf happ hpre hkk
  exact ⟨t, o, h1, h2, h3, ⟨⟨r, μ', e1, hPQ r μ' e2, e3⟩, e4⟩, e5⟩
set_option maxRecDepth 100000 in
set_option maxHeartbeats 4000000 in
theorem ev_X0_halfRoundedUp {G : GX} {n : Nat} {μ : Mem} (hn : n < 2 ^ 30) : Ev G mX0_halfRoundedUp 0 [.int (nI n)] μ (PIe (nI ((n + 1) / 2)) μ) := by
  refine Ev.of (own := RX0) (n := 0) (by decide) rfl rfl (catOK rfl) (fun X C E => ?_)
  show J G X 0 [some _] [] _
  refine j_iload_n C dX0_halfRoundedUp_0 rfl ?_
  refine j_iconst (v := nI 1) C dX0_halfRoundedUp_1 (by decide) ?_
  first | refine j_iaddN C dX0_halfRoundedUp_2 ?_ | refine j_iadd C dX0_halfRoundedUp_2 ?_
  refine j_iconst (v := nI 2) C dX0_halfRoundedUp_3 (by decide) ?_
  first | refine j_idivN C dX0_halfRoundedUp_4 (by omega) (by omega) (by omega) ?_ | refine j_idiv C dX0_halfRoundedUp_4 (by decide) ?_
  exact j_iret C E dX0_halfRoundedUp_5 ⟨rfl, rfl⟩
set_option maxRecDepth 100000 in
set_option maxHeartbeats 4000000 in
theorem ev_X0_minutesByRamp {G : GX} {a b : Nat} {μ : Mem} (ha : a < 2 ^ 30) (hb : b < 2 ^ 30) : Ev G mX0_minutesByRamp 1 [.int (nI a), .int (nI b)] μ (PIe (nI (3 * dist a b)) μ) := by
  refine Ev.of (own := RX0) (n := 0) (by decide) rfl rfl (catOK rfl) (fun X C E => ?_)
  show J G X 0 [some _, some _] [] _
  refine j_iconst (v := nI 3) C dX0_minutesByRamp_0 (by decide) ?_
  refine j_iload_n C dX0_minutesByRamp_1 rfl ?_
  refine j_iload_n C dX0_minutesByRamp_2 rfl ?_
  refine j_isub C dX0_minutesByRamp_3 ?_
  refine j_absN C dX0_minutesByRamp_4 lMX0_61 (by omega) (Nat.le_of_ble_eq_true rfl) (by omega) (by omega) ?_
  first | refine j_imulN C dX0_minutesByRamp_7 ?_ | refine j_imul C dX0_minutesByRamp_7 ?_
  exact j_iret C E dX0_minutesByRamp_8 ⟨rfl, rfl⟩
set_option maxRecDepth 100000 in
set_option maxHeartbeats 4000000 in
theorem ev_X0_hasFloor {G : GX} {h : Nat} {x : Int32} {μ : Mem} (hh : isH h) : Ev G mX0_hasFloor 0 [rf G h, .int x] μ (PIe (b2i (0 ≤ x ∧ x < nI (μ h 0))) μ) := by
  refine Ev.of (own := RX0) (n := 0) (by decide) rfl rfl (catOK rfl) (fun X C E => ?_)
  show J G X 0 [some _, some _] [] _
  refine j_iload_n C dX0_hasFloor_0 rfl ?_
  first | refine j_if_lt (tgt := 16) C dX0_hasFloor_1 (by decide) (fun c_1 => ?_) (fun c_1 => ?_)
  · refine j_iconst (v := nI 0) C dX0_hasFloor_16 (by decide) ?_
    exact j_zret C E dX0_hasFloor_17 rfl (by first | exact ret_t (And.intro (Int32.not_lt.mp c_1) (Int32.not_le.mp c_9)) | exact ret_f (fun q => absurd q.1 (Int32.not_le.mpr c_1)) | exact ret_f (fun q => absurd q.2 (Int32.not_lt.mpr c_9)))
  · refine j_iload_n C dX0_hasFloor_4 rfl ?_
    refine j_aload_n C dX0_hasFloor_5 rfl ?_
    refine g0_0 hh C dX0_hasFloor_6 lFX0_9 ?_
    first | refine j_icmp_geN (tgt := 16) C dX0_hasFloor_9 (by decide) (by omega) (by omega) (fun c_9 => ?_) (fun c_9 => ?_) | refine j_icmp_ge (tgt := 16) C dX0_hasFloor_9 (by decide) (fun c_9 => ?_) (fun c_9 => ?_)
    · refine j_iconst (v := nI 0) C dX0_hasFloor_16 (by decide) ?_
      exact j_zret C E dX0_hasFloor_17 rfl (by first | exact ret_t (And.intro (Int32.not_lt.mp c_1) (Int32.not_le.mp c_9)) | exact ret_f (fun q => absurd q.1 (Int32.not_le.mpr c_1)) | exact ret_f (fun q => absurd q.2 (Int32.not_lt.mpr c_9)))
    · refine j_iconst (v := nI 1) C dX0_hasFloor_12 (by decide) ?_
      refine j_goto (tgt := 17) C dX0_hasFloor_13 (by decide) ?_
      exact j_zret C E dX0_hasFloor_17 rfl (by first | exact ret_t (And.intro (Int32.not_lt.mp c_1) (Int32.not_le.mp c_9)) | exact ret_f (fun q => absurd q.1 (Int32.not_le.mpr c_1)) | exact ret_f (fun q => absurd q.2 (Int32.not_lt.mpr c_9)))
theorem fl_of {x : Int32} {n : Nat} (hn : n < 2 ^ 31) (h : 0 ≤ x ∧ x < nI n) : ∃ k, k < n ∧ x = nI k := by
  obtain ⟨j, hj, rfl⟩ := nI_of (Int32.not_lt.mpr h.1)
  exact ⟨j, (nI_ltI hj hn).mp h.2, rfl⟩
theorem fl_to {k n : Nat} (hn : n < 2 ^ 31) (h : k < n) : 0 ≤ nI k ∧ nI k < nI n := ⟨nI_pos' (by omega), nI_lt h hn⟩
set_option maxRecDepth 100000 in
set_option maxHeartbeats 4000000 in
theorem ev_X0_placeOf {G : GX} {h f p : Nat} {μ : Mem} (hh : isH h) (hn : μ h 0 ≤ 6) (hov : ∀ i, i < μ h 0 → μ (h + 5) i < μ h 0) (hf : f < 6) (hp : p < μ h 0) (hpf : μ (h + 5) p = f) (hmin : ∀ j, j < p → ¬ μ (h + 5) j = f) : Ev G mX0_placeOf 0 [rf G h, .int (nI f)] μ (PIe (nI p) μ) := by
  refine Ev.of (own := RX0) (n := 1) (by decide) rfl rfl (catOK rfl) (fun X C E => ?_)
  show J G X 0 [some _, some _, none] [] _
  have loop : ∀ k i, i + k = p → J G X 2 [some (rf G h), some (.int (nI f)), some (.int (nI i))] [] μ := by
    intro k
    induction k with
    | zero =>
      intro i hi
      refine j_iload_n C dX0_placeOf_2 rfl ?_
      refine j_aload_n C dX0_placeOf_3 rfl ?_
      refine g0_0 hh C dX0_placeOf_4 lFX0_9 ?_
      first | refine j_icmp_geN (tgt := 28) C dX0_placeOf_7 (by decide) (by omega) (by omega) (fun c_7 => ?_) (fun c_7 => ?_) | refine j_icmp_ge (tgt := 28) C dX0_placeOf_7 (by decide) (fun c_7 => ?_) (fun c_7 => ?_)
      · exact absurd c_7 (by omega)
      · have hb := hov i (by omega)
        refine j_aload_n C dX0_placeOf_10 rfl ?_
        refine g0_5 hh C dX0_placeOf_11 lFX0_28 ?_
        refine j_iload_n C dX0_placeOf_14 rfl ?_
        refine j_iald C dX0_placeOf_15 (isA_5 hh) (by omega) ?_
        refine j_iload_n C dX0_placeOf_16 rfl ?_
        first | refine j_icmp_neN (tgt := 22) C dX0_placeOf_17 (by decide) (by omega) (by omega) (fun c_17 => ?_) (fun c_17 => ?_) | refine j_icmp_ne (tgt := 22) C dX0_placeOf_17 (by decide) (fun c_17 => ?_) (fun c_17 => ?_)
        · exact absurd (by rw [show i = p by omega]; exact hpf) c_17
        · refine j_iload_n C dX0_placeOf_20 rfl ?_
          exact j_iret C E dX0_placeOf_21 ⟨by rw [show i = p by omega], rfl⟩
    | succ k ih =>
      intro i hi
      refine j_iload_n C dX0_placeOf_2 rfl ?_
      refine j_aload_n C dX0_placeOf_3 rfl ?_
      refine g0_0 hh C dX0_placeOf_4 lFX0_9 ?_
      first | refine j_icmp_geN (tgt := 28) C dX0_placeOf_7 (by decide) (by omega) (by omega) (fun c_7 => ?_) (fun c_7 => ?_) | refine j_icmp_ge (tgt := 28) C dX0_placeOf_7 (by decide) (fun c_7 => ?_) (fun c_7 => ?_)
      · exact absurd c_7 (by omega)
      · have hb := hov i (by omega)
        refine j_aload_n C dX0_placeOf_10 rfl ?_
        refine g0_5 hh C dX0_placeOf_11 lFX0_28 ?_
        refine j_iload_n C dX0_placeOf_14 rfl ?_
        refine j_iald C dX0_placeOf_15 (isA_5 hh) (by omega) ?_
        refine j_iload_n C dX0_placeOf_16 rfl ?_
        first | refine j_icmp_neN (tgt := 22) C dX0_placeOf_17 (by decide) (by omega) (by omega) (fun c_17 => ?_) (fun c_17 => ?_) | refine j_icmp_ne (tgt := 22) C dX0_placeOf_17 (by decide) (fun c_17 => ?_) (fun c_17 => ?_)
        · first | refine in2 C dX0_placeOf_22 (nI_1 _) rfl ?_ | refine in2 C dX0_placeOf_22 rfl rfl ?_
          refine j_goto (tgt := 2) C dX0_placeOf_25 (by decide) ?_
          exact ih (i + 1) (by omega)
          -- back
        · exact absurd c_17 (hmin i (by omega))
  refine j_iconst (v := nI 0) C dX0_placeOf_0 (by decide) ?_
  refine sn2 C dX0_placeOf_1 rfl ?_
  exact loop p 0 (by omega)
set_option maxRecDepth 100000 in
set_option maxHeartbeats 4000000 in
theorem ev_X0_canSwap {G : GX} {h : Nat} {x y : Int32} {μ : Mem} (hh : isH h) : Ev G mX0_canSwap 1 [rf G h, .int x, .int y] μ (PIe (b2i ((0 ≤ x ∧ x < nI (μ h 0)) ∧ (0 ≤ y ∧ y < nI (μ h 0)) ∧ ¬ x = y)) μ) := by
  refine Ev.of (own := RX0) (n := 0) (by decide) rfl rfl (catOK rfl) (fun X C E => ?_)
  show J G X 0 [some _, some _, some _] [] _
  refine j_aload_n C dX0_canSwap_0 rfl ?_
  refine j_iload_n C dX0_canSwap_1 rfl ?_
  refine cVe1 C dX0_canSwap_2 lMX0_43 myX0_hasFloor (ev_X0_hasFloor hh) (by omega) (rc0 hh) (Nat.le_of_ble_eq_true rfl) ?_
  first | refine j_if_eqB (tgt := 25) C dX0_canSwap_5 (by decide) (fun c_5 => ?_) (fun c_5 => ?_) | refine j_if_eqN (tgt := 25) C dX0_canSwap_5 (by decide) (by omega) (fun c_5 => ?_) (fun c_5 => ?_) | refine j_if_eq (tgt := 25) C dX0_canSwap_5 (by decide) (fun c_5 => ?_) (fun c_5 => ?_)
  · refine j_iconst (v := nI 0) C dX0_canSwap_25 (by decide) ?_
    exact j_zret C E dX0_canSwap_26 rfl (by first | exact ret_t (And.intro c_5 (And.intro c_13 c_18)) | exact ret_f (fun q => q.2.2 c_18) | exact ret_f (fun q => c_13 q.2.1) | exact ret_f (fun q => c_5 q.1))
  · refine j_aload_n C dX0_canSwap_8 rfl ?_
    refine j_iload_n C dX0_canSwap_9 rfl ?_
    refine cVe1 C dX0_canSwap_10 lMX0_43 myX0_hasFloor (ev_X0_hasFloor hh) (by omega) (rc0 hh) (Nat.le_of_ble_eq_true rfl) ?_
    first | refine j_if_eqB (tgt := 25) C dX0_canSwap_13 (by decide) (fun c_13 => ?_) (fun c_13 => ?_) | refine j_if_eqN (tgt := 25) C dX0_canSwap_13 (by decide) (by omega) (fun c_13 => ?_) (fun c_13 => ?_) | refine j_if_eq (tgt := 25) C dX0_canSwap_13 (by decide) (fun c_13 => ?_) (fun c_13 => ?_)
    · refine j_iconst (v := nI 0) C dX0_canSwap_25 (by decide) ?_
      exact j_zret C E dX0_canSwap_26 rfl (by first | exact ret_t (And.intro c_5 (And.intro c_13 c_18)) | exact ret_f (fun q => q.2.2 c_18) | exact ret_f (fun q => c_13 q.2.1) | exact ret_f (fun q => c_5 q.1))
    · refine j_iload_n C dX0_canSwap_16 rfl ?_
      refine j_iload_n C dX0_canSwap_17 rfl ?_
      refine j_icmp_eq (tgt := 25) C dX0_canSwap_18 (by decide) (fun c_18 => ?_) (fun c_18 => ?_)
      · refine j_iconst (v := nI 0) C dX0_canSwap_25 (by decide) ?_
        exact j_zret C E dX0_canSwap_26 rfl (by first | exact ret_t (And.intro c_5 (And.intro c_13 c_18)) | exact ret_f (fun q => q.2.2 c_18) | exact ret_f (fun q => c_13 q.2.1) | exact ret_f (fun q => c_5 q.1))
      · refine j_iconst (v := nI 1) C dX0_canSwap_21 (by decide) ?_
        refine j_goto (tgt := 26) C dX0_canSwap_22 (by decide) ?_
        exact j_zret C E dX0_canSwap_26 rfl (by first | exact ret_t (And.intro c_5 (And.intro c_13 c_18)) | exact ret_f (fun q => q.2.2 c_18) | exact ret_f (fun q => c_13 q.2.1) | exact ret_f (fun q => c_5 q.1))
set_option maxRecDepth 100000 in
set_option maxHeartbeats 4000000 in
theorem ev_X0_swap {G : GX} {h f g p q : Nat} {μ : Mem} (hh : isH h) (hn : μ h 0 ≤ 6) (hov : ∀ i, i < μ h 0 → μ (h + 5) i < μ h 0) (hp : p < μ h 0) (hq : q < μ h 0) (hpf : μ (h + 5) p = f) (hqg : μ (h + 5) q = g) (hf : f < 6) (hg : g < 6) (hpm : ∀ j, j < p → ¬ μ (h + 5) j = f) (hqm : ∀ j, j < q → ¬ μ (h + 5) j = g) : Ev G mX0_swap 1 [rf G h, .int (nI f), .int (nI g)] μ (PV (fun μ' => μ' = up (up μ (h + 5) q f) (h + 5) p g)) := by
  refine Ev.of (own := RX0) (n := 1) (by decide) rfl rfl (catOK rfl) (fun X C E => ?_)
  show J G X 0 [some _, some _, some _, none] [] _
  refine j_aload_n C dX0_swap_0 rfl ?_
  refine j_iload_n C dX0_swap_1 rfl ?_
  refine cVe1 C dX0_swap_2 lMX0_47 myX0_placeOf (ev_X0_placeOf hh hn hov hf hp hpf hpm) (by omega) (rc0 hh) (Nat.le_of_ble_eq_true rfl) ?_
  refine sn3 C dX0_swap_5 rfl ?_
  refine j_aload_n C dX0_swap_6 rfl ?_
  refine g0_5 hh C dX0_swap_7 lFX0_28 ?_
  refine j_aload_n C dX0_swap_10 rfl ?_
  refine j_iload_n C dX0_swap_11 rfl ?_
  refine cVe1 C dX0_swap_12 lMX0_47 myX0_placeOf (ev_X0_placeOf hh hn hov hg hq hqg hqm) (by omega) (rc0 hh) (Nat.le_of_ble_eq_true rfl) ?_
  refine j_iload_n C dX0_swap_15 rfl ?_
  refine j_iast C dX0_swap_16 (isA_5 hh) (by omega) ?_
  refine j_aload_n C dX0_swap_17 rfl ?_
  refine g0_5 hh C dX0_swap_18 lFX0_28 ?_
  refine j_iload_n C dX0_swap_21 rfl ?_
  refine j_iload_n C dX0_swap_22 rfl ?_
  refine j_iast C dX0_swap_23 (isA_5 hh) (by omega) ?_
  exact j_vret C E dX0_swap_24 ⟨rfl, rfl⟩
set_option maxRecDepth 100000 in
set_option maxHeartbeats 4000000 in
theorem ev_X0_allPeople {G : GX} {h : Nat} {μ : Mem} (hh : isH h) (hn : μ h 0 ≤ 6) : Ev G mX0_allPeople 0 [rf G h] μ (PIe (nI (sumTo (μ (h + 3)) (μ h 0))) μ) := by
  refine Ev.of (own := RX0) (n := 2) (by decide) rfl rfl (catOK rfl) (fun X C E => ?_)
  show J G X 0 [some _, none, none] [] _
  have loop : ∀ k i, i + k = μ h 0 → J G X 4 [some (rf G h), some (.int (nI (sumTo (μ (h + 3)) i))), some (.int (nI i))] [] μ := by
    intro k
    induction k with
    | zero =>
      intro i hi
      refine j_iload_n C dX0_allPeople_4 rfl ?_
      refine j_aload_n C dX0_allPeople_5 rfl ?_
      refine g0_0 hh C dX0_allPeople_6 lFX0_9 ?_
      first | refine j_icmp_geN (tgt := 27) C dX0_allPeople_9 (by decide) (by omega) (by omega) (fun c_9 => ?_) (fun c_9 => ?_) | refine j_icmp_ge (tgt := 27) C dX0_allPeople_9 (by decide) (fun c_9 => ?_) (fun c_9 => ?_)
      · refine j_iload_n C dX0_allPeople_27 rfl ?_
        exact j_iret C E dX0_allPeople_28 ⟨by rw [show i = μ h 0 by omega], rfl⟩
      · exact absurd c_9 (by omega)
    | succ k ih =>
      intro i hi
      refine j_iload_n C dX0_allPeople_4 rfl ?_
      refine j_aload_n C dX0_allPeople_5 rfl ?_
      refine g0_0 hh C dX0_allPeople_6 lFX0_9 ?_
      first | refine j_icmp_geN (tgt := 27) C dX0_allPeople_9 (by decide) (by omega) (by omega) (fun c_9 => ?_) (fun c_9 => ?_) | refine j_icmp_ge (tgt := 27) C dX0_allPeople_9 (by decide) (fun c_9 => ?_) (fun c_9 => ?_)
      · exact absurd c_9 (by omega)
      · refine j_iload_n C dX0_allPeople_12 rfl ?_
        refine j_aload_n C dX0_allPeople_13 rfl ?_
        refine g0_3 hh C dX0_allPeople_14 lFX0_22 ?_
        refine j_iload_n C dX0_allPeople_17 rfl ?_
        refine j_iald C dX0_allPeople_18 (isA_3 hh) (by omega) ?_
        first | refine j_iaddN C dX0_allPeople_19 ?_ | refine j_iadd C dX0_allPeople_19 ?_
        refine sn1 C dX0_allPeople_20 rfl ?_
        first | refine in2 C dX0_allPeople_21 (nI_1 _) rfl ?_ | refine in2 C dX0_allPeople_21 rfl rfl ?_
        refine j_goto (tgt := 4) C dX0_allPeople_24 (by decide) ?_
        exact ih (i + 1) (by omega)
  refine j_iconst (v := nI 0) C dX0_allPeople_0 (by decide) ?_
  refine sn1 C dX0_allPeople_1 rfl ?_
  refine j_iconst (v := nI 0) C dX0_allPeople_2 (by decide) ?_
  refine sn2 C dX0_allPeople_3 rfl ?_
  exact loop (μ h 0) 0 (by omega)
set_option maxRecDepth 100000 in
set_option maxHeartbeats 4000000 in
theorem ev_X0_bunsWanted {G : GX} {h f : Nat} {μ : Mem} (hh : isH h) (hf : f < 6) (hk : μ (h + 1) f ≤ 5) : Ev G mX0_bunsWanted 0 [rf G h, .int (nI f)] μ (PIe (nI (if μ (h + 1) f = 4 then 3 else 1)) μ) := by
  refine Ev.of (own := RX0) (n := 0) (by decide) rfl rfl (catOK rfl) (fun X C E => ?_)
  show J G X 0 [some _, some _] [] _
  refine j_aload_n C dX0_bunsWanted_0 rfl ?_
  refine g0_1 hh C dX0_bunsWanted_1 lFX0_15 ?_
  refine j_iload_n C dX0_bunsWanted_4 rfl ?_
  refine j_iald C dX0_bunsWanted_5 (isA_1 hh) (by omega) ?_
  refine j_iconst (v := nI 4) C dX0_bunsWanted_6 (by decide) ?_
  first | refine j_icmp_neN (tgt := 14) C dX0_bunsWanted_7 (by decide) (by omega) (by omega) (fun c_7 => ?_) (fun c_7 => ?_) | refine j_icmp_ne (tgt := 14) C dX0_bunsWanted_7 (by decide) (fun c_7 => ?_) (fun c_7 => ?_)
  · refine j_iconst (v := nI 1) C dX0_bunsWanted_14 (by decide) ?_
    exact j_iret C E dX0_bunsWanted_15 (by first | exact ret_e (if_neg c_7).symm | exact ret_e (if_pos c_7).symm)
  · refine j_iconst (v := nI 3) C dX0_bunsWanted_10 (by decide) ?_
    refine j_goto (tgt := 15) C dX0_bunsWanted_11 (by decide) ?_
    exact j_iret C E dX0_bunsWanted_15 (by first | exact ret_e (if_neg c_7).symm | exact ret_e (if_pos c_7).symm)
set_option maxRecDepth 100000 in
set_option maxHeartbeats 4000000 in
theorem ev_X0_minutesByLift {G : GX} {h a b : Nat} {μ : Mem} (hh : isH h) (ha : a < 2 ^ 20) (hb : b < 2 ^ 20) : Ev G mX0_minutesByLift 1 [rf G h, .int (nI a), .int (nI b)] μ (PIe (nI (if a = b then 0 else μ (h + 6) 7 + dist a b)) μ) := by
  refine Ev.of (own := RX0) (n := 0) (by decide) rfl rfl (catOK rfl) (fun X C E => ?_)
  show J G X 0 [some _, some _, some _] [] _
  refine j_iload_n C dX0_minutesByLift_0 rfl ?_
  refine j_iload_n C dX0_minutesByLift_1 rfl ?_
  first | refine j_icmp_neN (tgt := 9) C dX0_minutesByLift_2 (by decide) (by omega) (by omega) (fun c_2 => ?_) (fun c_2 => ?_) | refine j_icmp_ne (tgt := 9) C dX0_minutesByLift_2 (by decide) (fun c_2 => ?_) (fun c_2 => ?_)
  · refine j_aload_n C dX0_minutesByLift_9 rfl ?_
    refine g0_6 hh C dX0_minutesByLift_10 lFX0_34 ?_
    refine j_bipush (v := nI 7) C dX0_minutesByLift_13 (by decide) ?_
    refine j_iald C dX0_minutesByLift_15 (isA_6 hh) (by omega) ?_
    refine j_iload_n C dX0_minutesByLift_16 rfl ?_
    refine j_iload_n C dX0_minutesByLift_17 rfl ?_
    refine j_isub C dX0_minutesByLift_18 ?_
    refine j_absN C dX0_minutesByLift_19 lMX0_61 (by omega) (Nat.le_of_ble_eq_true rfl) (by omega) (by omega) ?_
    first | refine j_iaddN C dX0_minutesByLift_22 ?_ | refine j_iadd C dX0_minutesByLift_22 ?_
    exact j_iret C E dX0_minutesByLift_23 (by first | exact ret_e (if_neg c_2).symm | exact ret_e (if_pos c_2).symm)
  · refine j_iconst (v := nI 0) C dX0_minutesByLift_5 (by decide) ?_
    refine j_goto (tgt := 23) C dX0_minutesByLift_6 (by decide) ?_
    exact j_iret C E dX0_minutesByLift_23 (by first | exact ret_e (if_neg c_2).symm | exact ret_e (if_pos c_2).symm)
set_option maxRecDepth 100000 in
set_option maxHeartbeats 4000000 in
theorem ev_X0_minutesBetween {G : GX} {h a b : Nat} {μ : Mem} (hh : isH h) (hg : μ (h + 6) 6 ≤ 1) (ha : a < 2 ^ 20) (hb : b < 2 ^ 20) : Ev G mX0_minutesBetween 2 [rf G h, .int (nI a), .int (nI b)] μ (PIe (nI (tGoes (μ (h + 6) 6) (μ (h + 6) 7) a b)) μ) := by
  refine Ev.of (own := RX0) (n := 0) (by decide) rfl rfl (catOK rfl) (fun X C E => ?_)
  show J G X 0 [some _, some _, some _] [] _
  refine j_aload_n C dX0_minutesBetween_0 rfl ?_
  refine g0_6 hh C dX0_minutesBetween_1 lFX0_34 ?_
  refine j_bipush (v := nI 6) C dX0_minutesBetween_4 (by decide) ?_
  refine j_iald C dX0_minutesBetween_6 (isA_6 hh) (by omega) ?_
  first | refine j_if_neB (tgt := 19) C dX0_minutesBetween_7 (by decide) (fun c_7 => ?_) (fun c_7 => ?_) | refine j_if_neN (tgt := 19) C dX0_minutesBetween_7 (by decide) (by omega) (fun c_7 => ?_) (fun c_7 => ?_) | refine j_if_ne (tgt := 19) C dX0_minutesBetween_7 (by decide) (fun c_7 => ?_) (fun c_7 => ?_)
  · refine j_iload_n C dX0_minutesBetween_19 rfl ?_
    refine j_iload_n C dX0_minutesBetween_20 rfl ?_
    refine cSe2 C dX0_minutesBetween_21 lMX0_58 myX0_minutesByRamp (ev_X0_minutesByRamp (by omega) (by omega)) (by omega) (Nat.le_of_ble_eq_true rfl) ?_
    exact j_iret C E dX0_minutesBetween_24 (by
          refine ⟨?_, rfl⟩
          unfold tGoes
          by_cases e : a = b
          · subst e
            simp [dist]
          · first
            | rw [if_neg e, if_neg e, if_pos c_7]
            | rw [if_neg e, if_neg c_7])
  · refine j_aload_n C dX0_minutesBetween_10 rfl ?_
    refine j_iload_n C dX0_minutesBetween_11 rfl ?_
    refine j_iload_n C dX0_minutesBetween_12 rfl ?_
    refine cVe2 C dX0_minutesBetween_13 lMX0_54 myX0_minutesByLift (ev_X0_minutesByLift hh (by omega) (by omega)) (by omega) (rc0 hh) (Nat.le_of_ble_eq_true rfl) ?_
    refine j_goto (tgt := 24) C dX0_minutesBetween_16 (by decide) ?_
    exact j_iret C E dX0_minutesBetween_24 (by
          refine ⟨?_, rfl⟩
          unfold tGoes
          by_cases e : a = b
          · subst e
            simp [dist]
          · first
            | rw [if_neg e, if_neg e, if_pos c_7]
            | rw [if_neg e, if_neg c_7])
set_option maxRecDepth 100000 in
set_option maxHeartbeats 4000000 in
theorem ev_X0_minutesToServe {G : GX} {h f n : Nat} {μ : Mem} (hh : isH h) (hf : f < 6) (hk : μ (h + 1) f ≤ 5) (hc : μ (h + 4) f ≤ 9) (hn : n ≤ 20) : Ev G mX0_minutesToServe 1 [rf G h, .int (nI f), .int (nI n)] μ (PIe (nI (tServes (μ (h + 1) f) (μ (h + 4) f) n)) μ) := by
  refine Ev.of (own := RX0) (n := 1) (by decide) rfl rfl (catOK rfl) (fun X C E => ?_)
  show J G X 0 [some _, some _, some _, none] [] _
  refine j_iload_n C dX0_minutesToServe_0 rfl ?_
  refine cSe1 C dX0_minutesToServe_1 lMX0_51 myX0_halfRoundedUp (ev_X0_halfRoundedUp (by omega)) (by omega) (Nat.le_of_ble_eq_true rfl) ?_
  refine j_aload_n C dX0_minutesToServe_4 rfl ?_
  refine g0_4 hh C dX0_minutesToServe_5 lFX0_25 ?_
  refine j_iload_n C dX0_minutesToServe_8 rfl ?_
  refine j_iald C dX0_minutesToServe_9 (isA_4 hh) (by omega) ?_
  first | refine j_iaddN C dX0_minutesToServe_10 ?_ | refine j_iadd C dX0_minutesToServe_10 ?_
  refine sn3 C dX0_minutesToServe_11 rfl ?_
  refine j_aload_n C dX0_minutesToServe_12 rfl ?_
  refine g0_1 hh C dX0_minutesToServe_13 lFX0_15 ?_
  refine j_iload_n C dX0_minutesToServe_16 rfl ?_
  refine j_iald C dX0_minutesToServe_17 (isA_1 hh) (by omega) ?_
  refine j_iconst (v := nI 3) C dX0_minutesToServe_18 (by decide) ?_
  first | refine j_icmp_neN (tgt := 26) C dX0_minutesToServe_19 (by decide) (by omega) (by omega) (fun c_19 => ?_) (fun c_19 => ?_) | refine j_icmp_ne (tgt := 26) C dX0_minutesToServe_19 (by decide) (fun c_19 => ?_) (fun c_19 => ?_)
  · refine j_aload_n C dX0_minutesToServe_26 rfl ?_
    refine g0_1 hh C dX0_minutesToServe_27 lFX0_15 ?_
    refine j_iload_n C dX0_minutesToServe_30 rfl ?_
    refine j_iald C dX0_minutesToServe_31 (isA_1 hh) (by omega) ?_
    refine j_iconst (v := nI 5) C dX0_minutesToServe_32 (by decide) ?_
    first | refine j_icmp_neN (tgt := 42) C dX0_minutesToServe_33 (by decide) (by omega) (by omega) (fun c_33 => ?_) (fun c_33 => ?_) | refine j_icmp_ne (tgt := 42) C dX0_minutesToServe_33 (by decide) (fun c_33 => ?_) (fun c_33 => ?_)
    · refine j_iload_n C dX0_minutesToServe_42 rfl ?_
      exact j_iret C E dX0_minutesToServe_43 (by first | exact ret_e (by simp [tServes, c_19, c_33]))
    · refine j_iload_n C dX0_minutesToServe_36 rfl ?_
      refine j_iconst (v := nI 2) C dX0_minutesToServe_37 (by decide) ?_
      first | refine j_idivN C dX0_minutesToServe_38 (by omega) (by omega) (by omega) ?_ | refine j_idiv C dX0_minutesToServe_38 (by decide) ?_
      refine j_goto (tgt := 43) C dX0_minutesToServe_39 (by decide) ?_
      exact j_iret C E dX0_minutesToServe_43 (by first | exact ret_e (by simp [tServes, c_19, c_33]))
  · refine j_iload_n C dX0_minutesToServe_22 rfl ?_
    refine j_iconst (v := nI 2) C dX0_minutesToServe_23 (by decide) ?_
    first | refine j_iaddN C dX0_minutesToServe_24 ?_ | refine j_iadd C dX0_minutesToServe_24 ?_
    exact j_iret C E dX0_minutesToServe_25 ⟨by rw [tServes, if_pos c_19], rfl⟩
set_option maxRecDepth 100000 in
set_option maxHeartbeats 4000000 in
theorem ev_X0_comingAt {G : GX} {h f t : Nat} {μ : Mem} (hh : isH h) (hf : f < 6) (hk : μ (h + 1) f ≤ 5) (hp : μ (h + 3) f ≤ 20) (ht : t < 2 ^ 30) : Ev G mX0_comingAt 1 [rf G h, .int (nI f), .int (nI t)] μ (PIe (nI (tComes (μ (h + 1) f) (μ (h + 3) f) t)) μ) := by
  refine Ev.of (own := RX0) (n := 0) (by decide) rfl rfl (catOK rfl) (fun X C E => ?_)
  show J G X 0 [some _, some _, some _] [] _
  refine j_aload_n C dX0_comingAt_0 rfl ?_
  refine g0_1 hh C dX0_comingAt_1 lFX0_15 ?_
  refine j_iload_n C dX0_comingAt_4 rfl ?_
  refine j_iald C dX0_comingAt_5 (isA_1 hh) (by omega) ?_
  have hkc : μ (h + 1) f = 0 ∨ μ (h + 1) f = 1 ∨ μ (h + 1) f = 2 ∨ μ (h + 1) f = 3 ∨ μ (h + 1) f = 4 ∨ μ (h + 1) f = 5 := by omega
  rcases hkc with hkc | hkc | hkc | hkc | hkc | hkc <;> rw [hkc]
  · refine j_tabOut (tgt := 67) C dX0_comingAt_6 (by decide) (by decide) ?_
    refine j_aload_n C dX0_comingAt_67 rfl ?_
    refine g0_3 hh C dX0_comingAt_68 lFX0_22 ?_
    refine j_iload_n C dX0_comingAt_71 rfl ?_
    refine j_iald C dX0_comingAt_72 (isA_3 hh) (by omega) ?_
    exact j_iret C E dX0_comingAt_73 ⟨by simp [tComes, hkc], rfl⟩
  · refine j_tabIn (tgt := 40) C dX0_comingAt_6 (by decide) (by decide) (off := 34) (by decide) (by decide) ?_
    refine j_iload_n C dX0_comingAt_40 rfl ?_
    refine j_bipush (v := nI 10) C dX0_comingAt_41 (by decide) ?_
    first | refine j_icmp_geN (tgt := 50) C dX0_comingAt_43 (by decide) (by omega) (by omega) (fun c_43 => ?_) (fun c_43 => ?_) | refine j_icmp_ge (tgt := 50) C dX0_comingAt_43 (by decide) (fun c_43 => ?_) (fun c_43 => ?_)
    · refine j_aload_n C dX0_comingAt_50 rfl ?_
      refine g0_3 hh C dX0_comingAt_51 lFX0_22 ?_
      refine j_iload_n C dX0_comingAt_54 rfl ?_
      refine j_iald C dX0_comingAt_55 (isA_3 hh) (by omega) ?_
      exact j_iret C E dX0_comingAt_56 (ret_e (by unfold tComes; rw [hkc]; (repeat' split) <;> omega))
    · refine j_iconst (v := nI 0) C dX0_comingAt_46 (by decide) ?_
      refine j_goto (tgt := 56) C dX0_comingAt_47 (by decide) ?_
      exact j_iret C E dX0_comingAt_56 (ret_e (by unfold tComes; rw [hkc]; (repeat' split) <;> omega))
  · refine j_tabIn (tgt := 57) C dX0_comingAt_6 (by decide) (by decide) (off := 51) (by decide) (by decide) ?_
    refine j_aload_n C dX0_comingAt_57 rfl ?_
    refine g0_3 hh C dX0_comingAt_58 lFX0_22 ?_
    refine j_iload_n C dX0_comingAt_61 rfl ?_
    refine j_iald C dX0_comingAt_62 (isA_3 hh) (by omega) ?_
    refine cSe1 C dX0_comingAt_63 lMX0_51 myX0_halfRoundedUp (ev_X0_halfRoundedUp (by omega)) (by omega) (Nat.le_of_ble_eq_true rfl) ?_
    exact j_iret C E dX0_comingAt_66 ⟨by simp [tComes, hkc], rfl⟩
  · refine j_tabIn (tgt := 67) C dX0_comingAt_6 (by decide) (by decide) (off := 61) (by decide) (by decide) ?_
    refine j_aload_n C dX0_comingAt_67 rfl ?_
    refine g0_3 hh C dX0_comingAt_68 lFX0_22 ?_
    refine j_iload_n C dX0_comingAt_71 rfl ?_
    refine j_iald C dX0_comingAt_72 (isA_3 hh) (by omega) ?_
    exact j_iret C E dX0_comingAt_73 ⟨by simp [tComes, hkc], rfl⟩
  · refine j_tabIn (tgt := 57) C dX0_comingAt_6 (by decide) (by decide) (off := 51) (by decide) (by decide) ?_
    refine j_aload_n C dX0_comingAt_57 rfl ?_
    refine g0_3 hh C dX0_comingAt_58 lFX0_22 ?_
    refine j_iload_n C dX0_comingAt_61 rfl ?_
    refine j_iald C dX0_comingAt_62 (isA_3 hh) (by omega) ?_
    refine cSe1 C dX0_comingAt_63 lMX0_51 myX0_halfRoundedUp (ev_X0_halfRoundedUp (by omega)) (by omega) (Nat.le_of_ble_eq_true rfl) ?_
    exact j_iret C E dX0_comingAt_66 ⟨by simp [tComes, hkc], rfl⟩
  · refine j_tabIn (tgt := 40) C dX0_comingAt_6 (by decide) (by decide) (off := 34) (by decide) (by decide) ?_
    refine j_iload_n C dX0_comingAt_40 rfl ?_
    refine j_bipush (v := nI 10) C dX0_comingAt_41 (by decide) ?_
    first | refine j_icmp_geN (tgt := 50) C dX0_comingAt_43 (by decide) (by omega) (by omega) (fun c_43 => ?_) (fun c_43 => ?_) | refine j_icmp_ge (tgt := 50) C dX0_comingAt_43 (by decide) (fun c_43 => ?_) (fun c_43 => ?_)
    · refine j_aload_n C dX0_comingAt_50 rfl ?_
      refine g0_3 hh C dX0_comingAt_51 lFX0_22 ?_
      refine j_iload_n C dX0_comingAt_54 rfl ?_
      refine j_iald C dX0_comingAt_55 (isA_3 hh) (by omega) ?_
      exact j_iret C E dX0_comingAt_56 (ret_e (by unfold tComes; rw [hkc]; (repeat' split) <;> omega))
    · refine j_iconst (v := nI 0) C dX0_comingAt_46 (by decide) ?_
      refine j_goto (tgt := 56) C dX0_comingAt_47 (by decide) ?_
      exact j_iret C E dX0_comingAt_56 (ret_e (by unfold tComes; rw [hkc]; (repeat' split) <;> omega))

