-- THE REFERENCE: orders turned about
theorem sum01 {g : Nat → Nat} : ∀ n, (∀ i, i < n → g i = 0 ∨ g i = 1) → (∀ i j, i < n → j < n → g i = 1 → g j = 1 → i = j) → (sumTo g n = 0 ∧ ∀ i, i < n → g i = 0) ∨ (sumTo g n = 1 ∧ ∃ i, i < n ∧ g i = 1)
  | 0, _, _ => Or.inl ⟨rfl, fun i hi => absurd hi (by omega)⟩
  | n + 1, h, u => by
    have h1 := h n (by omega)
    rcases sum01 n (fun i hi => h i (by omega)) (fun i j hi hj => u i j (by omega) (by omega)) with ⟨a, b⟩ | ⟨a, i, b, c⟩
    · rcases h1 with h1 | h1
      · exact Or.inl ⟨by rw [sumTo, a, h1], fun i hi => if e : i = n then (by rw [e]; exact h1) else b i (by omega)⟩
      · exact Or.inr ⟨by rw [sumTo, a, h1], n, by omega, h1⟩
    · rcases h1 with h1 | h1
      · exact Or.inr ⟨by rw [sumTo, a, h1], i, by omega, c⟩
      · exact absurd (u i n (by omega) (by omega) c h1) (by omega)
theorem rot_inj {n d i j : Nat} {ρ : Nat → Nat} (hu : ∀ i j, i < n → j < n → ρ i = ρ j → i = j) (hd : d < n) (hi : i < n) (hj : j < n) (h : rotO n ρ d i = rotO n ρ d j) : i = j := by
  unfold rotO at h
  split at h
  · split at h
    · have := hu _ _ (by omega) (by omega) h; omega
    · have := hu _ _ (by omega) (by omega) h; omega
  · split at h
    · have := hu _ _ (by omega) (by omega) h; omega
    · have := hu _ _ (by omega) (by omega) h; omega
theorem rot_mod {n d i : Nat} {ρ : Nat → Nat} (hd : d < n) (hi : i < n) : rotO n ρ d i = ρ ((d + i) % n) := by
  unfold rotO
  split
  · rw [Nat.mod_eq_of_lt (by omega), Nat.add_comm]
  · rw [Nat.mod_eq_sub_mod (by omega), Nat.mod_eq_of_lt (by omega), Nat.add_comm]
theorem cdD_bit {E : Mem} {ρ : Nat → Nat} {f d cm : Nat} (hP : ∀ i j, i < E 0 0 → j < E 0 0 → ρ i = ρ j → i = j) (hd : d < E 0 0) (hf : f < 6) (hc : CMI E (rotO (E 0 0) ρ d) 0 (E 0 0) cm) : (if cm.testBit f then 1 else 0) = cdD E ρ f d := by
  have c01 : ∀ i, i < E 0 0 → cdI E ρ f d i = 0 ∨ cdI E ρ f d i = 1 := fun i _ => by unfold cdI; split <;> omega
  have c1 : ∀ i, cdI E ρ f d i = 1 → rotO (E 0 0) ρ d i = f ∧ 0 < oCold E (rotO (E 0 0) ρ d) 0 i := fun i h => by
    unfold cdI at h
    split at h
    · assumption
    · omega
  rcases sum01 (E 0 0) c01 (fun i j hi hj a b => rot_inj hP hd hi hj ((c1 i a).1.trans (c1 j b).1.symm)) with ⟨a, b⟩ | ⟨a, i, b, c⟩
  · have : ¬ cm.testBit f = true := fun h => by
      obtain ⟨j, h1, h2, h3⟩ := (hc.2 f hf).mp h
      have := b j h1
      rw [cdI, if_pos ⟨h2, h3⟩] at this
      omega
    rw [if_neg this]
    exact a.symm
  · have : cm.testBit f = true := (hc.2 f hf).mpr ⟨i, b, c1 i c⟩
    rw [if_pos this]
    exact a.symm
theorem rot_eqTo {n d : Nat} {ρ σ : Nat → Nat} (h : eqTo n ρ σ) (hd : d < n) : eqTo n (rotO n ρ d) (rotO n σ d) := by
  intro i hi
  unfold rotO
  split
  · exact h _ (by omega)
  · exact h _ (by omega)
theorem tdN_eq {E F : Mem} {ρ σ : Nat → Nat} {f : Nat} (h : EQ E F) (hE : EI E) (ho : OI E ρ) (hop : eqTo (E 0 0) ρ σ) : tdN E ρ f = tdN F σ f := by
  have h0 : E 0 0 = F 0 0 := h.1
  unfold tdN
  rw [sumTo_eq (E 0 0) (fun d hd => show cdD E ρ f d = cdD F σ f d by
    unfold cdD
    rw [sumTo_eq (E 0 0) (fun i hi => show cdI E ρ f d i = cdI F σ f d i by
      have hr := rot_eqTo hop hd
      have a := (o_eq (w := 0) h hE (rot_OI ho hd) hr hi).2.2.2.2.1
      unfold cdI
      rw [a, hr i hi, h0]), h0]), h0]
theorem KMei {μ ν : Mem} (h : KM μ ν) (hE : EI (sh μ 38)) : EI (sh ν 38) := EI.eq h.2.1.symm hE
theorem KMpi {μ ν : Mem} (h : KM μ ν) (hE : EI (sh μ 38)) (hP : PI5 (sh μ 38)) : PI5 (sh ν 38) := PI5.eq h.2.1.symm hE hP
theorem KMo {μ ν : Mem} (h : KM μ ν) (hE : EI (sh μ 38)) : eqTo (μ 38 0) (ν 43) (μ 43) := fun i hi => h.2.1.2.1 5 i (by omega) (by omega) (by have h6 : μ 38 0 ≤ 6 := hE.1; omega)
set_option maxRecDepth 100000 in
set_option maxHeartbeats 4000000 in
theorem ev_X5_turns {G : GX} {j9 : Nat} {μ : Mem} (hE : EI (sh μ 38)) (hP : PI5 (sh μ 38)) (hz : μ 38 15 = 0) (hj : j9 < μ 38 0) : Ev G mX5_turns 3 [rf G 38, .int (nI j9)] μ (PI (fun v μ' => v = nI (tdN (sh μ 38) (μ 43) j9) ∧ KM μ μ')) := by
  refine Ev.of (own := RX5) (n := 3) (by decide) rfl rfl (catOK rfl) (fun X C E => ?_)
  show J G X 0 [some _, some _, none, none, none] [] _
  have hn : μ 38 0 ≤ 6 := hE.1
  have loop : ∀ k k9 x4 ν, k9 + k = μ 38 0 → SM μ ν → eqTo 6 (ν 59) (μ 43) → J G X 30 [some (rf G 38), some (.int (nI j9)), some (.int (nI (sumTo (cdD (sh μ 38) (μ 43) j9) k9))), some (.int (nI k9)), x4] [] ν := by
    intro k
    induction k with
    | zero =>
      intro k9 x4 ν hi hS hw
      refine j_iload_n C dX5_turns_30 rfl ?_
      refine j_aload_n C dX5_turns_31 rfl ?_
      refine g5_0 C dX5_turns_32 lFX5_79 ?_
      refine J.top (y := nI (μ 38 0)) (by rw [(SM_f hS).1]) ?_
      first | refine j_icmp_geN (tgt := 102) C dX5_turns_35 (by decide) (by omega) (by omega) (fun c_35 => ?_) (fun c_35 => ?_) | refine j_icmp_ge (tgt := 102) C dX5_turns_35 (by decide) (fun c_35 => ?_) (fun c_35 => ?_)
      · refine j_aload_n C dX5_turns_102 rfl ?_
        refine cVv0 C dX5_turns_103 lMX5_176 myX5_asItWas (ev_X5_asItWas) (by omega) rc5 (Nat.le_of_ble_eq_true rfl) (fun μ_103 hv_103 => ?_)
        refine j_iload_n C dX5_turns_106 rfl ?_
        exact j_iret C E dX5_turns_107 ⟨_, rfl, by rw [show k9 = μ 38 0 by omega]; rfl, SM_back (SM_trans hS (SM_off (fun q a _ => hv_103.1 q a))) (fun i hi => (hv_103.2 i hi).trans (hw i hi))⟩
      · exact absurd c_35 (by omega)
    | succ k ih =>
      intro k9 x4 ν hi hS hw
      refine j_iload_n C dX5_turns_30 rfl ?_
      refine j_aload_n C dX5_turns_31 rfl ?_
      refine g5_0 C dX5_turns_32 lFX5_79 ?_
      refine J.top (y := nI (μ 38 0)) (by rw [(SM_f hS).1]) ?_
      first | refine j_icmp_geN (tgt := 102) C dX5_turns_35 (by decide) (by omega) (by omega) (fun c_35 => ?_) (fun c_35 => ?_) | refine j_icmp_ge (tgt := 102) C dX5_turns_35 (by decide) (fun c_35 => ?_) (fun c_35 => ?_)
      · exact absurd c_35 (by omega)
      · refine j_iconst (v := nI 0) C dX5_turns_38 (by decide) ?_
        refine sl4 C dX5_turns_39 rfl ?_
        have inner : ∀ k i9 σ, i9 + k = μ 38 0 → eqTo i9 σ (rotO (μ 38 0) (μ 43) k9) → J G X 41 [some (rf G 38), some (.int (nI j9)), some (.int (nI (sumTo (cdD (sh μ 38) (μ 43) j9) k9))), some (.int (nI k9)), some (.int (nI i9))] [] (rowM ν 43 σ) := by
          intro k
          induction k with
          | zero =>
            intro i9 σ hi hs
            refine j_iload C dX5_turns_41 rfl ?_
            refine j_aload_n C dX5_turns_43 rfl ?_
            refine g5_0 C dX5_turns_44 lFX5_79 ?_
            refine J.top (y := nI (μ 38 0)) (by rw [rowM_ne (by decide), (SM_f hS).1]) ?_
            first | refine j_icmp_geN (tgt := 77) C dX5_turns_47 (by decide) (by omega) (by omega) (fun c_47 => ?_) (fun c_47 => ?_) | refine j_icmp_ge (tgt := 77) C dX5_turns_47 (by decide) (fun c_47 => ?_) (fun c_47 => ?_)
            · have hS2 : SM μ (rowM ν 43 σ) := SM_trans hS (SM_off (fun q a _ => rowM_ne a))
              have hRO : OI (sh μ 38) (rotO (μ 38 0) (μ 43) k9) := rot_OI hP.1 (show k9 < μ 38 0 by omega)
              obtain ⟨w1, w2, w4, w5⟩ := sM hS2 hE hRO (by rw [rowM_at]; exact fun j hj => hs j (by omega))
              have w3 : rowM ν 43 σ 38 15 = 0 := by rw [(SM_f hS2).2.1]; exact hz
              refine j_aload_n C dX5_turns_77 rfl ?_
              refine cVv0 C dX5_turns_78 lMX5_166 myX5_round (ev_X5_round w1 w2 w3 (Or.inl rfl)) (by omega) rc5 (Nat.le_of_ble_eq_true rfl) (fun μ_78 hv_78 => ?_)
              obtain ⟨v1, v2, v3, v4⟩ := w5 _ hv_78
              have hb1 := cdD_bit (E := (sh μ 38)) (ρ := μ 43) (f := j9) (d := k9) hP.2.1 (show k9 < μ 38 0 by omega) (by omega) v2
              have hb2 : (cdD (sh μ 38) (μ 43) j9) k9 ≤ 1 := by rw [← hb1]; split <;> omega
              have hw2 : eqTo 6 (μ_78 59) (μ 43) := by rw [v4 59 (by omega), rowM_ne (by decide)]; exact hw
              refine j_aload_n C dX5_turns_81 rfl ?_
              refine g5_14 C dX5_turns_82 lFX5_147 ?_
              refine j_iload_n C dX5_turns_85 rfl ?_
              refine j_ishr C dX5_turns_86 ?_
              refine j_iconst (v := nI 1) C dX5_turns_87 (by decide) ?_
              refine j_iand C dX5_turns_88 ?_
              refine J.top (y := nI ((cdD (sh μ 38) (μ 43) j9) k9)) (by rw [cm_bit _ v2.1 _ (by omega), hb1]) ?_
              refine j_iconst (v := nI 1) C dX5_turns_89 (by decide) ?_
              first | refine j_icmp_neN (tgt := 96) C dX5_turns_90 (by decide) (by omega) (by omega) (fun c_90 => ?_) (fun c_90 => ?_) | refine j_icmp_ne (tgt := 96) C dX5_turns_90 (by decide) (fun c_90 => ?_) (fun c_90 => ?_)
              · have e5 : sumTo (cdD (sh μ 38) (μ 43) j9) (k9 + 1) = sumTo (cdD (sh μ 38) (μ 43) j9) k9 := by rw [sumTo, show (cdD (sh μ 38) (μ 43) j9) k9 = 0 by omega]; rfl
                first | refine in3 C dX5_turns_96 (nI_1 _) rfl ?_ | refine in3 C dX5_turns_96 rfl rfl ?_
                refine j_goto (tgt := 30) C dX5_turns_99 (by decide) ?_
                rw [← e5]
                exact ih (k9 + 1) _ _ (by omega) v3 hw2
              · have e5 : sumTo (cdD (sh μ 38) (μ 43) j9) (k9 + 1) = sumTo (cdD (sh μ 38) (μ 43) j9) k9 + 1 := by rw [sumTo, c_90]
                first | refine in2 C dX5_turns_93 (nI_1 _) rfl ?_ | refine in2 C dX5_turns_93 rfl rfl ?_
                first | refine in3 C dX5_turns_96 (nI_1 _) rfl ?_ | refine in3 C dX5_turns_96 rfl rfl ?_
                refine j_goto (tgt := 30) C dX5_turns_99 (by decide) ?_
                rw [← e5]
                exact ih (k9 + 1) _ _ (by omega) v3 hw2
            · exact absurd c_47 (by omega)
          | succ k ih2 =>
            intro i9 σ hi hs
            refine j_iload C dX5_turns_41 rfl ?_
            refine j_aload_n C dX5_turns_43 rfl ?_
            refine g5_0 C dX5_turns_44 lFX5_79 ?_
            refine J.top (y := nI (μ 38 0)) (by rw [rowM_ne (by decide), (SM_f hS).1]) ?_
            first | refine j_icmp_geN (tgt := 77) C dX5_turns_47 (by decide) (by omega) (by omega) (fun c_47 => ?_) (fun c_47 => ?_) | refine j_icmp_ge (tgt := 77) C dX5_turns_47 (by decide) (fun c_47 => ?_) (fun c_47 => ?_)
            · exact absurd c_47 (by omega)
            · have hm := Nat.mod_lt (k9 + i9) (show 0 < μ 38 0 by omega)
              refine j_aload_n C dX5_turns_50 rfl ?_
              refine g5_5 C dX5_turns_51 lFX5_22 ?_
              refine j_iload C dX5_turns_54 rfl ?_
              refine j_aload_n C dX5_turns_56 rfl ?_
              refine g5_27 C dX5_turns_57 lFX5_70 ?_
              refine j_iload_n C dX5_turns_60 rfl ?_
              refine j_iload C dX5_turns_61 rfl ?_
              first | refine j_iaddN C dX5_turns_63 ?_ | refine j_iadd C dX5_turns_63 ?_
              refine j_aload_n C dX5_turns_64 rfl ?_
              refine g5_0 C dX5_turns_65 lFX5_79 ?_
              refine J.top (y := nI (μ 38 0)) (by rw [rowM_ne (by decide), (SM_f hS).1]) ?_
              first | refine j_iremN C dX5_turns_68 (by omega) (by omega) (by omega) ?_ | refine j_irem C dX5_turns_68 (by decide) ?_
              refine j_iald C dX5_turns_69 iA_59 (by omega) ?_
              refine J.top (y := nI ((rotO (μ 38 0) (μ 43) k9) i9)) (by rw [rowM_ne (by decide), hw _ (by omega), rot_mod (by omega) (by omega)]) ?_
              refine j_iast C dX5_turns_70 iA_43 (by omega) ?_
              refine J.mem up_row ?_
              first | refine in4 C dX5_turns_71 (nI_1 _) rfl ?_ | refine in4 C dX5_turns_71 rfl rfl ?_
              refine j_goto (tgt := 41) C dX5_turns_74 (by decide) ?_
              exact ih2 (i9 + 1) _ (by omega) (fun j hj => if q : j = i9 then (by rw [q, u1_at]) else (by rw [u1_ne q]; exact hs j (by omega)))
        refine J.mem (rowM_self (a := 43)).symm ?_
        exact inner (μ 38 0) 0 _ (by omega) (fun j hj => absurd hj (by omega))
  have loop1 : ∀ k i9 σ, i9 + k = 6 → eqTo i9 σ (μ 43) → J G X 2 [some (rf G 38), some (.int (nI j9)), some (.int (nI i9)), none, none] [] (rowM μ 59 σ) := by
    intro k
    induction k with
    | zero =>
      intro i9 σ hi hs
      refine j_iload_n C dX5_turns_2 rfl ?_
      refine j_bipush (v := nI 6) C dX5_turns_3 (by decide) ?_
      first | refine j_icmp_geN (tgt := 26) C dX5_turns_5 (by decide) (by omega) (by omega) (fun c_5 => ?_) (fun c_5 => ?_) | refine j_icmp_ge (tgt := 26) C dX5_turns_5 (by decide) (fun c_5 => ?_) (fun c_5 => ?_)
      · refine j_iconst (v := nI 0) C dX5_turns_26 (by decide) ?_
        refine sn2 C dX5_turns_27 rfl ?_
        refine j_iconst (v := nI 0) C dX5_turns_28 (by decide) ?_
        refine sn3 C dX5_turns_29 rfl ?_
        exact loop (μ 38 0) 0 _ _ (by omega) (SM_off (fun q _ b => rowM_ne (by omega))) (by rw [rowM_at]; exact fun j hj => hs j (by omega))
      · exact absurd c_5 (by omega)
    | succ k ih =>
      intro i9 σ hi hs
      refine j_iload_n C dX5_turns_2 rfl ?_
      refine j_bipush (v := nI 6) C dX5_turns_3 (by decide) ?_
      first | refine j_icmp_geN (tgt := 26) C dX5_turns_5 (by decide) (by omega) (by omega) (fun c_5 => ?_) (fun c_5 => ?_) | refine j_icmp_ge (tgt := 26) C dX5_turns_5 (by decide) (fun c_5 => ?_) (fun c_5 => ?_)
      · exact absurd c_5 (by omega)
      · refine j_aload_n C dX5_turns_8 rfl ?_
        refine g5_27 C dX5_turns_9 lFX5_70 ?_
        refine j_iload_n C dX5_turns_12 rfl ?_
        refine j_aload_n C dX5_turns_13 rfl ?_
        refine g5_5 C dX5_turns_14 lFX5_22 ?_
        refine j_iload_n C dX5_turns_17 rfl ?_
        refine j_iald C dX5_turns_18 iA_43 (by omega) ?_
        refine J.top (y := nI (μ 43 i9)) (by rw [rowM_ne (by decide)]) ?_
        refine j_iast C dX5_turns_19 iA_59 (by omega) ?_
        refine J.mem up_row ?_
        first | refine in2 C dX5_turns_20 (nI_1 _) rfl ?_ | refine in2 C dX5_turns_20 rfl rfl ?_
        refine j_goto (tgt := 2) C dX5_turns_23 (by decide) ?_
        exact ih (i9 + 1) _ (by omega) (fun j hj => if q : j = i9 then (by rw [q, u1_at]) else (by rw [u1_ne q]; exact hs j (by omega)))
  refine j_iconst (v := nI 0) C dX5_turns_0 (by decide) ?_
  refine sn2 C dX5_turns_1 rfl ?_
  refine J.mem (rowM_self (a := 59)).symm ?_
  exact loop1 6 0 _ (by omega) (fun j hj => absurd hj (by omega))
set_option maxRecDepth 100000 in
set_option maxHeartbeats 4000000 in
theorem ev_X5_turned {G : GX} {x9 : Int32} {μ : Mem} (hE : EI (sh μ 38)) (hP : PI5 (sh μ 38)) (hz : μ 38 15 = 0) : Ev G mX5_turned 4 [rf G 38, .int x9] μ (PI (OutM (kFl (μ 38 0) x9) (nI (tdN (sh μ 38) (μ 43) x9.toNatClampNeg)) μ)) := by
  refine Ev.of (own := RX5) (n := 0) (by decide) rfl rfl (catOK rfl) (fun X C E => ?_)
  show J G X 0 [some _, some _] [] _
  have hn : μ 38 0 ≤ 6 := hE.1
  refine j_aload_n C dX5_turned_0 rfl ?_
  refine j_iload_n C dX5_turned_1 rfl ?_
  refine cVe1 C dX5_turned_2 lMX5_111 myX5_isFloor (ev_X5_isFloor (by omega)) (by omega) rc5 (Nat.le_of_ble_eq_true rfl) ?_
  first | refine j_if_eqB (tgt := 16) C dX5_turned_5 (by decide) (fun c_5 => ?_) (fun c_5 => ?_) | refine j_if_eqN (tgt := 16) C dX5_turned_5 (by decide) (by omega) (fun c_5 => ?_) (fun c_5 => ?_) | refine j_if_eq (tgt := 16) C dX5_turned_5 (by decide) (fun c_5 => ?_) (fun c_5 => ?_)
  · refine j_aload_n C dX5_turned_16 rfl ?_
    refine j_iconst (v := (-1)) C dX5_turned_17 (by decide) ?_
    refine cVe1 C dX5_turned_18 lMX5_75 myX5_no (ev_X5_no (k := 1) (by decide) (by decide)) (by omega) rc5 (Nat.le_of_ble_eq_true rfl) ?_
    exact j_iret C E dX5_turned_21 (by first | exact outM_ok (if_pos c_5) (by rw [cl (by omega)]; exact hv_10.1) hv_10.2 | exact outM_no (j := 1) (if_neg c_5) (by decide) (by decide))
  · obtain ⟨j9, hj, rfl⟩ := isM_E hE c_5
    refine j_aload_n C dX5_turned_8 rfl ?_
    refine j_iload_n C dX5_turned_9 rfl ?_
    refine cVi1 C dX5_turned_10 lMX5_182 myX5_turns (ev_X5_turns hE hP hz hj) (by omega) rc5 (Nat.le_of_ble_eq_true rfl) (fun v_10 μ_10 hv_10 => ?_)
    refine j_goto (tgt := 21) C dX5_turned_13 (by decide) ?_
    exact j_iret C E dX5_turned_21 (by first | exact outM_ok (if_pos c_5) (by rw [cl (by omega)]; exact hv_10.1) hv_10.2 | exact outM_no (j := 1) (if_neg c_5) (by decide) (by decide))
set_option maxRecDepth 100000 in
set_option maxHeartbeats 4000000 in
theorem ev_X5_most {G : GX} {μ : Mem} (hE : EI (sh μ 38)) (hP : PI5 (sh μ 38)) (hz : μ 38 15 = 0) : Ev G mX5_most 4 [rf G 38] μ (PI (OutM 0 (nI (maxTo (tdN (sh μ 38) (μ 43)) (μ 38 0))) μ)) := by
  refine Ev.of (own := RX5) (n := 2) (by decide) rfl rfl (catOK rfl) (fun X C E => ?_)
  show J G X 0 [some _, none, none] [] _
  have hn : μ 38 0 ≤ 6 := hE.1
  have loop : ∀ k i9 ν, i9 + k = μ 38 0 → KM μ ν → J G X 4 [some (rf G 38), some (.int (nI (maxTo (tdN (sh μ 38) (μ 43)) i9))), some (.int (nI i9))] [] ν := by
    intro k
    induction k with
    | zero =>
      intro i9 ν hi hK
      refine j_iload_n C dX5_most_4 rfl ?_
      refine j_aload_n C dX5_most_5 rfl ?_
      refine g5_0 C dX5_most_6 lFX5_79 ?_
      refine J.top (y := nI (μ 38 0)) (congrArg nI hK.2.1.1) ?_
      first | refine j_icmp_geN (tgt := 28) C dX5_most_9 (by decide) (by omega) (by omega) (fun c_9 => ?_) (fun c_9 => ?_) | refine j_icmp_ge (tgt := 28) C dX5_most_9 (by decide) (fun c_9 => ?_) (fun c_9 => ?_)
      · refine j_iload_n C dX5_most_28 rfl ?_
        exact j_iret C E dX5_most_29 (outM_ok rfl (by rw [show i9 = μ 38 0 by omega]) hK)
      · exact absurd c_9 (by omega)
    | succ k ih =>
      intro i9 ν hi hK
      refine j_iload_n C dX5_most_4 rfl ?_
      refine j_aload_n C dX5_most_5 rfl ?_
      refine g5_0 C dX5_most_6 lFX5_79 ?_
      refine J.top (y := nI (μ 38 0)) (congrArg nI hK.2.1.1) ?_
      first | refine j_icmp_geN (tgt := 28) C dX5_most_9 (by decide) (by omega) (by omega) (fun c_9 => ?_) (fun c_9 => ?_) | refine j_icmp_ge (tgt := 28) C dX5_most_9 (by decide) (fun c_9 => ?_) (fun c_9 => ?_)
      · exact absurd c_9 (by omega)
      · have hb1 := maxTo_le (f := tdN (sh μ 38) (μ 43)) (B := 36) i9 (fun i _ => tdN_le hE.1)
        have hb2 : tdN (sh μ 38) (μ 43) i9 ≤ 36 := tdN_le hE.1
        have h0 : ν 38 0 = μ 38 0 := hK.2.1.1
        have hz2 : ν 38 15 = 0 := by rw [hK.2.2.1]; exact hz
        refine j_iload_n C dX5_most_12 rfl ?_
        refine j_aload_n C dX5_most_13 rfl ?_
        refine j_iload_n C dX5_most_14 rfl ?_
        refine cVi1 C dX5_most_15 lMX5_182 myX5_turns (ev_X5_turns (KMei hK hE) (KMpi hK hE hP) hz2 (by omega)) (by omega) rc5 (Nat.le_of_ble_eq_true rfl) (fun v_15 μ_15 hv_15 => ?_)
        have hvv : v_15 = nI (tdN (sh μ 38) (μ 43) i9) := by
          rw [hv_15.1]
          exact congrArg nI (tdN_eq hK.2.1 (KMei hK hE) (KMpi hK hE hP).1 (by show eqTo (ν 38 0) _ _; rw [h0]; exact KMo hK hE))
        rw [hvv]
        refine j_maxN C dX5_most_18 lMX5_150 (by omega) (Nat.le_of_ble_eq_true rfl) (by omega) (by omega) ?_
        refine sn1 C dX5_most_21 rfl ?_
        first | refine in2 C dX5_most_22 (nI_1 _) rfl ?_ | refine in2 C dX5_most_22 rfl rfl ?_
        refine j_goto (tgt := 4) C dX5_most_25 (by decide) ?_
        exact ih (i9 + 1) _ (by omega) (hK.trans hv_15.2)
  refine j_iconst (v := nI 0) C dX5_most_0 (by decide) ?_
  refine sn1 C dX5_most_1 rfl ?_
  refine j_iconst (v := nI 0) C dX5_most_2 (by decide) ?_
  refine sn2 C dX5_most_3 rfl ?_
  exact loop (μ 38 0) 0 _ (by omega) (KM.refl μ)
