-- THE REFERENCE: fits
set_option maxRecDepth 100000 in
set_option maxHeartbeats 4000000 in
theorem ev_X5_wrongO {G : GX} {μ : Mem} (hE : EI (sh μ 38)) (hO : OI (sh μ 38) (μ 43)) (hz : μ 38 15 = 0) (hc : μ 38 20 ≤ 12) (hN : ∀ i, i < μ 38 20 → μ 54 i ≤ 99) : Ev G mX5_wrong 3 [rf G 38] μ (PI (fun v μ' => v = fns (μ 54) (oServed (sh μ 38) (μ 43) 0) (μ 38 0) (μ 38 20) 0 ∧ RPM μ (sh μ 38) (μ 43) 0 μ')) := by
  refine Ev.of (own := RX5) (n := 1) (by decide) rfl rfl (catOK rfl) (fun X C E => ?_)
  show J G X 0 [some _, none] [] _
  have hn : μ 38 0 ≤ 6 := hE.1
  refine j_aload_n C dX5_wrong_0 rfl ?_
  refine cVv0 C dX5_wrong_1 lMX5_166 myX5_round (ev_X5_round hE hO hz (Or.inl rfl)) (by omega) rc5 (Nat.le_of_ble_eq_true rfl) (fun μ_1 hv_1 => ?_)
  refine j_iconst (v := nI 0) C dX5_wrong_4 (by decide) ?_
  refine sn1 C dX5_wrong_5 rfl ?_
  have loop : ∀ k i9, i9 + k = μ 38 20 → fns (μ 54) (oServed (sh μ 38) (μ 43) 0) (μ 38 0) k i9 = fns (μ 54) (oServed (sh μ 38) (μ 43) 0) (μ 38 0) (μ 38 20) 0 → J G X 6 [some (rf G 38), some (.int (nI i9))] [] μ_1 := by
    intro k
    induction k with
    | zero =>
      intro i9 hi hfn
      refine j_iload_n C dX5_wrong_6 rfl ?_
      refine j_aload_n C dX5_wrong_7 rfl ?_
      refine g5_20 C dX5_wrong_8 lFX5_208 ?_
      refine J.top (y := nI (μ 38 20)) (by rw [hv_1.f (by decide)]) ?_
      first | refine j_icmp_geN (tgt := 45) C dX5_wrong_11 (by decide) (by omega) (by omega) (fun c_11 => ?_) (fun c_11 => ?_) | refine j_icmp_ge (tgt := 45) C dX5_wrong_11 (by decide) (fun c_11 => ?_) (fun c_11 => ?_)
      · refine j_bipush (v := (-9)) C dX5_wrong_45 (by decide) ?_
        exact j_iret C E dX5_wrong_47 ⟨_, rfl, by rw [← hfn, fns], hv_1⟩
      · exact absurd c_11 (by omega)
    | succ k ih =>
      intro i9 hi hfn
      refine j_iload_n C dX5_wrong_6 rfl ?_
      refine j_aload_n C dX5_wrong_7 rfl ?_
      refine g5_20 C dX5_wrong_8 lFX5_208 ?_
      refine J.top (y := nI (μ 38 20)) (by rw [hv_1.f (by decide)]) ?_
      first | refine j_icmp_geN (tgt := 45) C dX5_wrong_11 (by decide) (by omega) (by omega) (fun c_11 => ?_) (fun c_11 => ?_) | refine j_icmp_ge (tgt := 45) C dX5_wrong_11 (by decide) (fun c_11 => ?_) (fun c_11 => ?_)
      · exact absurd c_11 (by omega)
      · refine j_iload_n C dX5_wrong_14 rfl ?_
        refine j_aload_n C dX5_wrong_15 rfl ?_
        refine g5_0 C dX5_wrong_16 lFX5_79 ?_
        refine J.top (y := nI (μ 38 0)) (by rw [hv_1.f (by decide)]) ?_
        first | refine j_icmp_geN (tgt := 37) C dX5_wrong_19 (by decide) (by omega) (by omega) (fun c_19 => ?_) (fun c_19 => ?_) | refine j_icmp_ge (tgt := 37) C dX5_wrong_19 (by decide) (fun c_19 => ?_) (fun c_19 => ?_)
        · have hni : μ 38 0 ≤ i9 := by omega
          refine j_iload_n C dX5_wrong_37 rfl ?_
          exact j_iret C E dX5_wrong_38 (by first | exact ⟨_, rfl, by rw [← hfn, fns, if_pos hni], hv_1⟩ | exact ⟨_, rfl, by rw [← hfn, fns, if_neg (by omega), if_neg c_34], hv_1⟩)
        · have hsb : oServed (sh μ 38) (μ 43) 0 i9 ≤ 20 := (o_b (w := 0) hE hO (show i9 < (sh μ 38) 0 0 by show i9 < μ 38 0; omega)).2.2.1
          have hrb := hN i9 (by omega)
          refine j_aload_n C dX5_wrong_22 rfl ?_
          refine g5_21 C dX5_wrong_23 lFX5_55 ?_
          refine j_iload_n C dX5_wrong_26 rfl ?_
          refine j_iald C dX5_wrong_27 iA_54 (by omega) ?_
          refine J.top (y := nI (μ 54 i9)) (by rw [hv_1.1 54 (by omega)]) ?_
          refine j_aload_n C dX5_wrong_28 rfl ?_
          refine g5_11 C dX5_wrong_29 lFX5_40 ?_
          refine j_iload_n C dX5_wrong_32 rfl ?_
          refine j_iald C dX5_wrong_33 iA_49 (by omega) ?_
          refine J.top (y := nI (oServed (sh μ 38) (μ 43) 0 i9)) (by rw [(hv_1.2.2.2.1 i9 (by show i9 < μ 38 0; omega)).2.2.1]) ?_
          first | refine j_icmp_eqN (tgt := 39) C dX5_wrong_34 (by decide) (by omega) (by omega) (fun c_34 => ?_) (fun c_34 => ?_) | refine j_icmp_eq (tgt := 39) C dX5_wrong_34 (by decide) (fun c_34 => ?_) (fun c_34 => ?_)
          · first | refine in1 C dX5_wrong_39 (nI_1 _) rfl ?_ | refine in1 C dX5_wrong_39 rfl rfl ?_
            refine j_goto (tgt := 6) C dX5_wrong_42 (by decide) ?_
            exact ih (i9 + 1) (by omega) (by rw [← hfn, fns, if_neg (by omega), if_pos c_34])
          · refine j_iload_n C dX5_wrong_37 rfl ?_
            exact j_iret C E dX5_wrong_38 (by first | exact ⟨_, rfl, by rw [← hfn, fns, if_pos hni], hv_1⟩ | exact ⟨_, rfl, by rw [← hfn, fns, if_neg (by omega), if_neg c_34], hv_1⟩)
  exact loop (μ 38 20) 0 (by omega) rfl
set_option maxRecDepth 100000 in
set_option maxHeartbeats 4000000 in
theorem ev_X5_fits {G : GX} {x9 : Int32} {μ : Mem} (hE : EI (sh μ 38)) (hP : PI5 (sh μ 38)) (hz : μ 38 15 = 0) (hc : μ 38 20 ≤ 12) (hN : ∀ i, i < μ 38 20 → μ 54 i ≤ 99) : Ev G mX5_fits 4 [rf G 38, .int x9] μ (PI (OutM (kFi (μ 38 0) x9) (fiW (sh μ 38) (μ 54) (μ 38 20) x9) μ)) := by
  refine Ev.of (own := RX5) (n := 3) (by decide) rfl rfl (catOK rfl) (fun X C E => ?_)
  show J G X 0 [some _, some _, none, none, none] [] _
  have h6 : μ 38 0 ≤ 6 := hE.1
  have hnp := nP_b h6
  have hnt : (nI (μ 38 0)).toInt = (μ 38 0 : Int) := nI_toInt (by omega)
  refine j_iload_n C dX5_fits_0 rfl ?_
  refine j_iconst (v := (-1)) C dX5_fits_1 (by decide) ?_
  refine j_icmp_ge (tgt := 12) C dX5_fits_2 (by decide) (fun c_2 => ?_) (fun c_2 => ?_)
  · refine j_iload_n C dX5_fits_12 rfl ?_
    refine j_aload_n C dX5_fits_13 rfl ?_
    refine g5_0 C dX5_fits_14 lFX5_79 ?_
    refine j_icmp_lt (tgt := 26) C dX5_fits_17 (by decide) (fun c_17 => ?_) (fun c_17 => ?_)
    · refine j_iconst (v := nI 0) C dX5_fits_26 (by decide) ?_
      refine sn2 C dX5_fits_27 rfl ?_
      refine j_bipush (v := (-9)) C dX5_fits_28 (by decide) ?_
      refine sn3 C dX5_fits_30 rfl ?_
      refine j_aload_n C dX5_fits_31 rfl ?_
      refine cVv0 C dX5_fits_32 lMX5_169 myX5_first (ev_X5_first) (by omega) rc5 (Nat.le_of_ble_eq_true rfl) (fun μ_32 hv_32 => ?_)
      refine j_iconst (v := nI 1) C dX5_fits_35 (by decide) ?_
      refine sl4 C dX5_fits_36 rfl ?_
      by_cases hx1 : x9 = -1
      · subst hx1
        have kq : kFi (μ 38 0) (-1) = 0 := by rw [kFi, if_neg (by decide), if_pos rfl]
        have p80 : ∀ x3 t9 ν, OSM μ ν t9 → x3 = (-9) → J G X 38 [some (rf G 38), some (.int (-1)), some (.int (nI (ctF (fitO (sh μ 38) (μ 54) (μ 38 20)) (nP (μ 38 0))))), some (.int x3), some (.int (nI 0))] [] ν := by
          intro x3 t9 ν hO hx
          refine j_iload C dX5_fits_38 rfl ?_
          refine j_if_eqN (tgt := 80) C dX5_fits_40 (by decide) (by omega) (fun c_40 => ?_) (fun c_40 => absurd rfl c_40)
          · refine j_aload_n C dX5_fits_80 rfl ?_
            refine cVv0 C dX5_fits_81 lMX5_176 myX5_asItWas (ev_X5_asItWas) (by omega) rc5 (Nat.le_of_ble_eq_true rfl) (fun μ_81 hv_81 => ?_)
            refine j_iload_n C dX5_fits_84 rfl ?_
            refine j_if_ge (tgt := 92) C dX5_fits_85 (by decide) (fun c_85 => absurd c_85 (by decide)) (fun c_85 => ?_)
            · refine j_iload_n C dX5_fits_88 rfl ?_
              refine j_goto (tgt := 93) C dX5_fits_89 (by decide) ?_
              exact j_iret C E dX5_fits_93 (outM_ok kq (by rw [fiW, if_pos rfl]; rfl) (hO.back hv_81))
        have loop : ∀ c t9 x3 ν, t9 + c = (nP (μ 38 0)) → t9 < (nP (μ 38 0)) → OSM μ ν t9 → x3 = (-9) → J G X 38 [some (rf G 38), some (.int (-1)), some (.int (nI (ctF (fitO (sh μ 38) (μ 54) (μ 38 20)) t9))), some (.int x3), some (.int (nI 1))] [] ν := by
          intro c
          induction c with
          | zero => intro t9 x3 ν hc ht; exact absurd ht (by omega)
          | succ c ih =>
            intro t9 x3 ν hcc ht hO hx
            have hctl := ctF_le (fitO (sh μ 38) (μ 54) (μ 38 20)) t9
            have p71 : ∀ x3 ν, OSM μ ν t9 → x3 = (-9) → J G X 71 [some (rf G 38), some (.int (-1)), some (.int (nI (ctF (fitO (sh μ 38) (μ 54) (μ 38 20)) (t9 + 1)))), some (.int x3), some (.int (nI 1))] [] ν := by
              intro x3 ν hO hx
              refine j_aload_n C dX5_fits_71 rfl ?_
              refine cVi0 C dX5_fits_72 lMX5_172 myX5_next (ev_X5_next (hO.lt hE ht).1 (hO.lt hE ht).2) (by omega) rc5 (Nat.le_of_ble_eq_true rfl) (fun v_72 μ_72 hv_72 => ?_)
              have hadv := hO.adv hE ht
              rcases Nat.lt_or_ge (t9 + 1) (nP (μ 38 0)) with hlt | hge
              · obtain ⟨a1, a2⟩ := hadv.1 hlt
                obtain ⟨z1, z2, z3⟩ := hv_72.resolve_left (fun z => by have := z.1; omega)
                rw [z2]
                refine sl4 C dX5_fits_75 rfl ?_
                refine j_goto (tgt := 38) C dX5_fits_77 (by decide) ?_
                exact ih (t9 + 1) _ _ (by omega) hlt (by rw [z3]; exact a2) hx
              · have a1 := hadv.2 (by omega)
                obtain ⟨z1, z2, z3⟩ := hv_72.resolve_right (fun z => by have := z.1; omega)
                rw [z2]
                refine sl4 C dX5_fits_75 rfl ?_
                refine j_goto (tgt := 38) C dX5_fits_77 (by decide) ?_
                have hN9 : t9 + 1 = (nP (μ 38 0)) := by omega
                rw [hN9]
                exact p80 _ t9 _ (by rw [z3]; exact hO) (by first | (rw [← hN9]; exact hx) | exact hx)
            refine j_iload C dX5_fits_38 rfl ?_
            refine j_if_eqN (tgt := 80) C dX5_fits_40 (by decide) (by decide) (fun c_40 => absurd c_40 (by decide)) (fun c_40 => ?_)
            · obtain ⟨w1, w2, w4, w5⟩ := sM hO.1 hE (OI_pf hE ht) hO.2.2
              obtain ⟨f0, f15, f20, f54⟩ := SM_f hO.1
              have w3 : ν 38 15 = 0 := by rw [f15]; exact hz
              refine j_aload_n C dX5_fits_43 rfl ?_
              refine cVi0 C dX5_fits_44 lMX5_211 myX5_wrong (ev_X5_wrongO w1 w2 w3 (by rw [f20]; exact hc) (by rw [f20, f54]; exact hN)) (by omega) rc5 (Nat.le_of_ble_eq_true rfl) (fun v_44 μ_44 hv_44 => ?_)
              obtain ⟨v1, v2, v3, v4⟩ := w5 _ hv_44.2
              have hO2 : OSM μ μ_44 t9 := ⟨v3, by rw [v4 59 (by omega)]; exact hO.2.1, by rw [v4 43 (by omega)]; exact hO.2.2⟩
              have hvv : v_44 = fns (μ 54) (oServed (sh μ 38) (pf (μ 38 0) t9) 0) (μ 38 0) (μ 38 20) 0 := by rw [hv_44.1, f0, f20, f54]; exact fns_eq w4 _ _ (fun _ _ => rfl)
              rw [hvv]
              refine j_bipush (v := (-9)) C dX5_fits_47 (by decide) ?_
              refine j_icmp_ne (tgt := 71) C dX5_fits_49 (by decide) (fun c_49 => ?_) (fun c_49 => ?_)
              · have hp : (fitO (sh μ 38) (μ 54) (μ 38 20)) t9 = false := decide_eq_false c_49
                have e1 : ctF (fitO (sh μ 38) (μ 54) (μ 38 20)) (t9 + 1) = ctF (fitO (sh μ 38) (μ 54) (μ 38 20)) t9 := by rw [ctF, hp]; rfl
                have e2 : ffF (fitO (sh μ 38) (μ 54) (μ 38 20)) (t9 + 1) = ffF (fitO (sh μ 38) (μ 54) (μ 38 20)) t9 := by rw [ffF, hp]; rfl
                rw [← e1]
                exact p71 _ _ hO2 (by first | (rw [e1, e2]; exact hx) | exact hx)
              · have hp : (fitO (sh μ 38) (μ 54) (μ 38 20)) t9 = true := decide_eq_true c_49
                have e1 : ctF (fitO (sh μ 38) (μ 54) (μ 38 20)) (t9 + 1) = ctF (fitO (sh μ 38) (μ 54) (μ 38 20)) t9 + 1 := by rw [ctF, hp]; rfl
                have e0 : ¬ ctF (fitO (sh μ 38) (μ 54) (μ 38 20)) (t9 + 1) = 0 := by omega
                refine in2 C dX5_fits_52 (nI_1 _) rfl ?_
                refine j_iload_n C dX5_fits_55 rfl ?_
                refine j_iconst (v := nI 1) C dX5_fits_56 (by decide) ?_
                refine j_icmp_neN (tgt := 71) C dX5_fits_57 (by decide) (by omega) (by omega) (fun c_57 => ?_) (fun c_57 => ?_)
                · have e2 : ffF (fitO (sh μ 38) (μ 54) (μ 38 20)) (t9 + 1) = ffF (fitO (sh μ 38) (μ 54) (μ 38 20)) t9 := by rw [ffF, if_neg (fun z => c_57 (by rw [z.2]))]
                  rw [← e1]
                  exact p71 _ _ hO2 (by first | (rw [if_neg e0, e2]; rw [if_neg (show ¬ ctF (fitO (sh μ 38) (μ 54) (μ 38 20)) t9 = 0 by omega)] at hx; exact hx) | exact hx)
                · have c_0 : ctF (fitO (sh μ 38) (μ 54) (μ 38 20)) t9 = 0 := by omega
                  have e2 : ffF (fitO (sh μ 38) (μ 54) (μ 38 20)) (t9 + 1) = t9 := by rw [ffF, if_pos ⟨hp, c_0⟩]
                  refine j_iload_n C dX5_fits_60 rfl ?_
                  refine j_if_lt (tgt := 71) C dX5_fits_61 (by decide) (fun c_61 => ?_) (fun c_61 => absurd (by decide) c_61)
                  · rw [← e1]
                    exact p71 _ _ hO2 hx
        exact loop (nP (μ 38 0)) 0 _ _ (by omega) (by omega) (OSM.beg h6 hv_32) rfl
      · have hx0 : (0 : Int32) ≤ x9 := by
          rw [Int32.le_iff_toInt_le] at c_2 ⊢
          have e1 : (-1 : Int32).toInt = -1 := rfl
          have e0 : (0 : Int32).toInt = 0 := rfl
          have n1 : x9.toInt ≠ -1 := fun e => hx1 (Int32.toInt_inj.mp (e.trans e1.symm))
          rw [e1] at c_2
          rw [e0]
          omega
        obtain ⟨j9, hj, rfl⟩ := isM_E hE ⟨hx0, c_17⟩
        have hj1 : ¬ nI j9 = -1 := hx1
        have kq : kFi (μ 38 0) (nI j9) = 0 := by rw [kFi, if_neg (Int32.not_lt.mpr c_2), if_neg hj1, if_pos ⟨hx0, c_17⟩]
        have p80 : ∀ x3 t9 ν, OSM μ ν t9 → x3 = (if ctF (fitO (sh μ 38) (μ 54) (μ 38 20)) (nP (μ 38 0)) = 0 then -9 else nI (pf (μ 38 0) (ffF (fitO (sh μ 38) (μ 54) (μ 38 20)) (nP (μ 38 0))) j9)) → J G X 38 [some (rf G 38), some (.int (nI j9)), some (.int (nI (ctF (fitO (sh μ 38) (μ 54) (μ 38 20)) (nP (μ 38 0))))), some (.int x3), some (.int (nI 0))] [] ν := by
          intro x3 t9 ν hO hx
          refine j_iload C dX5_fits_38 rfl ?_
          refine j_if_eqN (tgt := 80) C dX5_fits_40 (by decide) (by omega) (fun c_40 => ?_) (fun c_40 => absurd rfl c_40)
          · refine j_aload_n C dX5_fits_80 rfl ?_
            refine cVv0 C dX5_fits_81 lMX5_176 myX5_asItWas (ev_X5_asItWas) (by omega) rc5 (Nat.le_of_ble_eq_true rfl) (fun μ_81 hv_81 => ?_)
            refine j_iload_n C dX5_fits_84 rfl ?_
            refine j_if_geN (tgt := 92) C dX5_fits_85 (by decide) (by omega) ?_
            refine j_iload_n C dX5_fits_92 rfl ?_
            exact j_iret C E dX5_fits_93 (outM_ok kq (by rw [hx, fiW, if_neg hj1, cl (by omega)]; rfl) (hO.back hv_81))
        have loop : ∀ c t9 x3 ν, t9 + c = (nP (μ 38 0)) → t9 < (nP (μ 38 0)) → OSM μ ν t9 → x3 = (if ctF (fitO (sh μ 38) (μ 54) (μ 38 20)) t9 = 0 then -9 else nI (pf (μ 38 0) (ffF (fitO (sh μ 38) (μ 54) (μ 38 20)) t9) j9)) → J G X 38 [some (rf G 38), some (.int (nI j9)), some (.int (nI (ctF (fitO (sh μ 38) (μ 54) (μ 38 20)) t9))), some (.int x3), some (.int (nI 1))] [] ν := by
          intro c
          induction c with
          | zero => intro t9 x3 ν hc ht; exact absurd ht (by omega)
          | succ c ih =>
            intro t9 x3 ν hcc ht hO hx
            have hctl := ctF_le (fitO (sh μ 38) (μ 54) (μ 38 20)) t9
            have p71 : ∀ x3 ν, OSM μ ν t9 → x3 = (if ctF (fitO (sh μ 38) (μ 54) (μ 38 20)) (t9 + 1) = 0 then -9 else nI (pf (μ 38 0) (ffF (fitO (sh μ 38) (μ 54) (μ 38 20)) (t9 + 1)) j9)) → J G X 71 [some (rf G 38), some (.int (nI j9)), some (.int (nI (ctF (fitO (sh μ 38) (μ 54) (μ 38 20)) (t9 + 1)))), some (.int x3), some (.int (nI 1))] [] ν := by
              intro x3 ν hO hx
              refine j_aload_n C dX5_fits_71 rfl ?_
              refine cVi0 C dX5_fits_72 lMX5_172 myX5_next (ev_X5_next (hO.lt hE ht).1 (hO.lt hE ht).2) (by omega) rc5 (Nat.le_of_ble_eq_true rfl) (fun v_72 μ_72 hv_72 => ?_)
              have hadv := hO.adv hE ht
              rcases Nat.lt_or_ge (t9 + 1) (nP (μ 38 0)) with hlt | hge
              · obtain ⟨a1, a2⟩ := hadv.1 hlt
                obtain ⟨z1, z2, z3⟩ := hv_72.resolve_left (fun z => by have := z.1; omega)
                rw [z2]
                refine sl4 C dX5_fits_75 rfl ?_
                refine j_goto (tgt := 38) C dX5_fits_77 (by decide) ?_
                exact ih (t9 + 1) _ _ (by omega) hlt (by rw [z3]; exact a2) hx
              · have a1 := hadv.2 (by omega)
                obtain ⟨z1, z2, z3⟩ := hv_72.resolve_right (fun z => by have := z.1; omega)
                rw [z2]
                refine sl4 C dX5_fits_75 rfl ?_
                refine j_goto (tgt := 38) C dX5_fits_77 (by decide) ?_
                have hN9 : t9 + 1 = (nP (μ 38 0)) := by omega
                rw [hN9]
                exact p80 _ t9 _ (by rw [z3]; exact hO) (by first | (rw [← hN9]; exact hx) | exact hx)
            refine j_iload C dX5_fits_38 rfl ?_
            refine j_if_eqN (tgt := 80) C dX5_fits_40 (by decide) (by decide) (fun c_40 => absurd c_40 (by decide)) (fun c_40 => ?_)
            · obtain ⟨w1, w2, w4, w5⟩ := sM hO.1 hE (OI_pf hE ht) hO.2.2
              obtain ⟨f0, f15, f20, f54⟩ := SM_f hO.1
              have w3 : ν 38 15 = 0 := by rw [f15]; exact hz
              refine j_aload_n C dX5_fits_43 rfl ?_
              refine cVi0 C dX5_fits_44 lMX5_211 myX5_wrong (ev_X5_wrongO w1 w2 w3 (by rw [f20]; exact hc) (by rw [f20, f54]; exact hN)) (by omega) rc5 (Nat.le_of_ble_eq_true rfl) (fun v_44 μ_44 hv_44 => ?_)
              obtain ⟨v1, v2, v3, v4⟩ := w5 _ hv_44.2
              have hO2 : OSM μ μ_44 t9 := ⟨v3, by rw [v4 59 (by omega)]; exact hO.2.1, by rw [v4 43 (by omega)]; exact hO.2.2⟩
              have hvv : v_44 = fns (μ 54) (oServed (sh μ 38) (pf (μ 38 0) t9) 0) (μ 38 0) (μ 38 20) 0 := by rw [hv_44.1, f0, f20, f54]; exact fns_eq w4 _ _ (fun _ _ => rfl)
              rw [hvv]
              refine j_bipush (v := (-9)) C dX5_fits_47 (by decide) ?_
              refine j_icmp_ne (tgt := 71) C dX5_fits_49 (by decide) (fun c_49 => ?_) (fun c_49 => ?_)
              · have hp : (fitO (sh μ 38) (μ 54) (μ 38 20)) t9 = false := decide_eq_false c_49
                have e1 : ctF (fitO (sh μ 38) (μ 54) (μ 38 20)) (t9 + 1) = ctF (fitO (sh μ 38) (μ 54) (μ 38 20)) t9 := by rw [ctF, hp]; rfl
                have e2 : ffF (fitO (sh μ 38) (μ 54) (μ 38 20)) (t9 + 1) = ffF (fitO (sh μ 38) (μ 54) (μ 38 20)) t9 := by rw [ffF, hp]; rfl
                rw [← e1]
                exact p71 _ _ hO2 (by first | (rw [e1, e2]; exact hx) | exact hx)
              · have hp : (fitO (sh μ 38) (μ 54) (μ 38 20)) t9 = true := decide_eq_true c_49
                have e1 : ctF (fitO (sh μ 38) (μ 54) (μ 38 20)) (t9 + 1) = ctF (fitO (sh μ 38) (μ 54) (μ 38 20)) t9 + 1 := by rw [ctF, hp]; rfl
                have e0 : ¬ ctF (fitO (sh μ 38) (μ 54) (μ 38 20)) (t9 + 1) = 0 := by omega
                refine in2 C dX5_fits_52 (nI_1 _) rfl ?_
                refine j_iload_n C dX5_fits_55 rfl ?_
                refine j_iconst (v := nI 1) C dX5_fits_56 (by decide) ?_
                refine j_icmp_neN (tgt := 71) C dX5_fits_57 (by decide) (by omega) (by omega) (fun c_57 => ?_) (fun c_57 => ?_)
                · have e2 : ffF (fitO (sh μ 38) (μ 54) (μ 38 20)) (t9 + 1) = ffF (fitO (sh μ 38) (μ 54) (μ 38 20)) t9 := by rw [ffF, if_neg (fun z => c_57 (by rw [z.2]))]
                  rw [← e1]
                  exact p71 _ _ hO2 (by first | (rw [if_neg e0, e2]; rw [if_neg (show ¬ ctF (fitO (sh μ 38) (μ 54) (μ 38 20)) t9 = 0 by omega)] at hx; exact hx) | exact hx)
                · have c_0 : ctF (fitO (sh μ 38) (μ 54) (μ 38 20)) t9 = 0 := by omega
                  have e2 : ffF (fitO (sh μ 38) (μ 54) (μ 38 20)) (t9 + 1) = t9 := by rw [ffF, if_pos ⟨hp, c_0⟩]
                  refine j_iload_n C dX5_fits_60 rfl ?_
                  refine j_if_ltN (tgt := 71) C dX5_fits_61 (by decide) (by omega) ?_
                  refine j_aload_n C dX5_fits_64 rfl ?_
                  refine g5_5 C dX5_fits_65 lFX5_22 ?_
                  refine j_iload_n C dX5_fits_68 rfl ?_
                  refine j_iald C dX5_fits_69 iA_43 (by omega) ?_
                  refine J.top (y := nI (pf (μ 38 0) t9 j9)) (by rw [hO2.2.2 j9 hj]) ?_
                  refine sn3 C dX5_fits_70 rfl ?_
                  rw [← e1]
                  exact p71 _ _ hO2 (by rw [if_neg e0, e2])
        exact loop (nP (μ 38 0)) 0 _ _ (by omega) (by omega) (OSM.beg h6 hv_32) rfl
    · refine j_aload_n C dX5_fits_20 rfl ?_
      refine j_iconst (v := (-1)) C dX5_fits_21 (by decide) ?_
      refine cVe1 C dX5_fits_22 lMX5_75 myX5_no (ev_X5_no (k := 1) (by decide) (by decide)) (by omega) rc5 (Nat.le_of_ble_eq_true rfl) ?_
      exact j_iret C E dX5_fits_25 (outM_no (j := 1) (by
            have h0n : (0 : Int32) ≤ nI (μ 38 0) := nI_0le (by omega)
            rw [kFi, if_neg (Int32.not_lt.mpr c_2), if_neg (fun e => by subst e; exact c_17 (Int32.lt_of_lt_of_le (show (-1 : Int32) < 0 by decide) h0n)), if_neg (fun q => c_17 q.2)]) (by decide) (by decide))
  · refine j_aload_n C dX5_fits_5 rfl ?_
    refine j_bipush (v := (-4)) C dX5_fits_6 (by decide) ?_
    refine cVe1 C dX5_fits_8 lMX5_75 myX5_no (ev_X5_no (k := 4) (by decide) (by decide)) (by omega) rc5 (Nat.le_of_ble_eq_true rfl) ?_
    exact j_iret C E dX5_fits_11 (outM_no (j := 4) (if_pos (Int32.not_le.mp c_2)) (by decide) (by decide))
