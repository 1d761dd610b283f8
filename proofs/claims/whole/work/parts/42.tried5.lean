-- THE REFERENCE: rounds with one number otherwise
theorem sh38_up {ν : Mem} {a k v : Nat} : sh (up ν (38 + a) k v) 38 = up (sh ν 38) a k v := by
  funext q i
  by_cases h : q = a <;> simp [sh, up, h]
theorem KM_upa {μ ν : Mem} {a k v : Nat} (ha : 1 ≤ a ∧ a ≤ 6) (h : KM μ ν) : KM (up μ (38 + a) k v) (up ν (38 + a) k v) := by
  obtain ⟨h1, h2, h3, h4, h5, h6, h7, h8, h9, h10⟩ := h
  have u : ∀ (κ : Mem) q, q ≤ 38 ∨ 44 < q → up κ (38 + a) k v q = κ q := fun κ q h => up_ne (by omega)
  refine ⟨fun q hq => by rw [u ν q (by omega), u μ q (by omega)]; exact h1 q hq, by rw [sh38_up, sh38_up]; exact EQ_up h2, ?_, ?_, ?_, ?_, ?_, ?_, ?_, ?_⟩
  · rw [u ν 38 (by omega), u μ 38 (by omega)]; exact h3
  · rw [u ν 38 (by omega), u μ 38 (by omega)]; exact h4
  · rw [u ν 38 (by omega), u μ 38 (by omega)]; exact h5
  · rw [u ν 38 (by omega), u μ 38 (by omega)]; exact h6
  · rw [u ν 52 (by omega), u μ 52 (by omega)]; exact h7
  · rw [u ν 54 (by omega), u μ 54 (by omega)]; exact h8
  · rw [u ν 55 (by omega), u μ 55 (by omega)]; exact h9
  · rw [u ν 56 (by omega), u μ 56 (by omega)]; exact h10
/-- all is as it was but that one number, and what a round leaves -/
def TM (μ : Mem) (a k : Nat) (ν : Mem) : Prop := KM (up μ (38 + a) k 0) (up ν (38 + a) k 0)
theorem TM_refl {μ : Mem} {a k : Nat} : TM μ a k μ := KM.refl _
theorem TM_set {μ ν : Mem} {a k v : Nat} (ha : 1 ≤ a ∧ a ≤ 6) (h : TM μ a k ν) : KM (up μ (38 + a) k v) (up ν (38 + a) k v) := by
  have := KM_upa (k := k) (v := v) ha h
  rw [up_up, up_up] at this
  exact this
theorem TM_back {μ ν : Mem} {a k : Nat} (ha : 1 ≤ a ∧ a ≤ 6) (h : TM μ a k ν) : KM μ (up ν (38 + a) k (μ (38 + a) k)) := by
  have := TM_set (v := μ (38 + a) k) ha h
  have e : up μ (38 + a) k (μ (38 + a) k) = μ := by
    funext q i
    by_cases h1 : q = 38 + a
    · subst h1
      by_cases h2 : i = k
      · subst h2; exact up_at
      · exact up_off (Or.inr h2)
    · exact congrFun (up_ne h1) i
  rw [e] at this
  exact this
theorem tM {μ ν : Mem} {a k v : Nat} (h : TM μ a k ν) (ha : a = 3 ∨ a = 6) (hE : EI (up (sh μ 38) a k v)) (hP : PI5 (sh μ 38)) (hz : μ 38 15 = 0) :
    EI (sh (up ν (38 + a) k v) 38) ∧ OI (sh (up ν (38 + a) k v) 38) (up ν (38 + a) k v 43) ∧ up ν (38 + a) k v 38 15 = 0 ∧
      ∀ ν', RPM (up ν (38 + a) k v) (sh (up ν (38 + a) k v) 38) (up ν (38 + a) k v 43) 0 ν' →
        (∀ j, j < 8 → ν' 46 j = Tot (up (sh μ 38) a k v) (μ 43) 0 j) ∧ (∀ j, j < μ 38 0 → ν' 50 j = oIced (up (sh μ 38) a k v) (μ 43) 0 j) ∧ TM μ a k ν' := by
  have hs := TM_set (v := v) (by omega) h
  have he : EQ (sh (up ν (38 + a) k v) 38) (up (sh μ 38) a k v) := by have := hs.2.1; rw [sh38_up (ν := μ)] at this; exact this
  have hE1 := EI.eq he.symm hE
  have hP1 : PI5 (up (sh μ 38) a k v) := PI5_up hP (by omega) (by omega)
  have hP2 := PI5.eq he.symm hE hP1
  have e5 : eqTo (sh (up ν (38 + a) k v) 38 0 0) (up ν (38 + a) k v 43) (μ 43) := by
    intro i hi
    have h6 : sh (up ν (38 + a) k v) 38 0 0 ≤ 6 := hE1.1
    have := he.2.1 5 i (by omega) (by omega) (by omega)
    have e9 : up (sh μ 38) a k v 5 = μ 43 := up_ne (by omega)
    rw [e9] at this
    exact this
  have h0 : sh (up ν (38 + a) k v) 38 0 0 = μ 38 0 := by
    have := he.1
    rw [show up (sh μ 38) a k v 0 = sh μ 38 0 from up_ne (by omega)] at this
    exact this
  refine ⟨hE1, hP2.1, ?_, fun ν' hr => ⟨fun j hj => ?_, fun j hj => ?_, ?_⟩⟩
  · rw [hs.2.2.1, up_ne (by omega)]; exact hz
  · rw [hr.2.2.1 j hj]
    exact Tot_eq he hE1 hP2.1 e5
  · rw [(hr.2.2.2.1 j (by rw [h0]; exact hj)).2.2.2.1]
    exact (o_eq he hE1 hP2.1 e5 (by rw [h0]; exact hj)).2.2.2.1
  · have := KM_upa (a := a) (k := k) (v := 0) (by omega) (hs.trans hr.KM)
    rw [up_up] at this
    exact this
theorem in_02 {x : Int32} : (nI 0 ≤ x ∧ x ≤ nI 2) ↔ (0 ≤ x ∧ x ≤ nI 2) := Iff.rfl
set_option maxRecDepth 100000 in
set_option maxHeartbeats 4000000 in
theorem ev_X5_enough {G : GX} {x : Int32} {μ : Mem} (hE : EI (sh μ 38)) (hP : PI5 (sh μ 38)) (hz : μ 38 15 = 0) : Ev G mX5_enough 3 [rf G 38, .int x] μ (PI (OutM (k2 x 2) (fst0 (fun v => Tot (up (sh μ 38) 6 (2 + x.toNatClampNeg) v) (μ 43) 0 5) 61 0) μ)) := by
  refine Ev.of (own := RX5) (n := 3) (by decide) rfl rfl (catOK rfl) (fun X C E => ?_)
  show J G X 0 [some _, some _, none, none, none] [] _
  refine j_iload_n C dX5_enough_0 rfl ?_
  refine j_iconst (v := nI 0) C dX5_enough_1 (by decide) ?_
  refine j_iconst (v := nI 2) C dX5_enough_2 (by decide) ?_
  refine cSe3 C dX5_enough_3 lMX5_83 myX5_within (ev_X5_within) (by omega) (Nat.le_of_ble_eq_true rfl) ?_
  refine J.top (b2i_mo (q := 0 ≤ x ∧ x ≤ nI 2) in_02) ?_
  first | refine j_if_neB (tgt := 16) C dX5_enough_6 (by decide) (fun c_6 => ?_) (fun c_6 => ?_) | refine j_if_neN (tgt := 16) C dX5_enough_6 (by decide) (by omega) (fun c_6 => ?_) (fun c_6 => ?_) | refine j_if_ne (tgt := 16) C dX5_enough_6 (by decide) (fun c_6 => ?_) (fun c_6 => ?_)
  · obtain ⟨z9, hz9, rfl⟩ := nI_of2 (n := 2) (M := nI 2) (x := x) (by decide) (Int32.not_lt.mpr c_6.1) c_6.2
    have kq : k2 (nI z9) 2 = 0 := if_pos c_6
    have hm2 : ∀ v, v ≤ 60 → v ≤ mostN (2 + z9) := by
      intro v hv
      have : z9 = 0 ∨ z9 = 1 ∨ z9 = 2 := by omega
      rcases this with rfl | rfl | rfl <;> exact hv
    refine j_aload_n C dX5_enough_16 rfl ?_
    refine g5_6 C dX5_enough_17 lFX5_25 ?_
    refine j_iconst (v := nI 2) C dX5_enough_20 (by decide) ?_
    refine j_iload_n C dX5_enough_21 rfl ?_
    first | refine j_iaddN C dX5_enough_22 ?_ | refine j_iadd C dX5_enough_22 ?_
    refine j_iald C dX5_enough_23 iA_44 (by omega) ?_
    refine sn2 C dX5_enough_24 rfl ?_
    refine j_bipush (v := (-9)) C dX5_enough_25 (by decide) ?_
    refine sn3 C dX5_enough_27 rfl ?_
    refine j_iconst (v := nI 0) C dX5_enough_28 (by decide) ?_
    refine sl4 C dX5_enough_29 rfl ?_
    have loop : ∀ c v9 ν, v9 + c = 61 → TM μ 6 (2 + z9) ν → fst0 (fun v => Tot (up (sh μ 38) 6 (2 + z9) v) (μ 43) 0 5) 61 0 = fst0 (fun v => Tot (up (sh μ 38) 6 (2 + z9) v) (μ 43) 0 5) c v9 → J G X 31 [some (rf G 38), some (.int (nI z9)), some (.int (nI (μ 44 (2 + z9)))), some (.int (-9)), some (.int (nI v9))] [] ν := by
      intro c
      induction c with
      | zero =>
        intro v9 ν hvc hT hf
        refine j_iload C dX5_enough_31 rfl ?_
        refine j_bipush (v := nI 61) C dX5_enough_33 (by decide) ?_
        first | refine j_icmp_geN (tgt := 74) C dX5_enough_35 (by decide) (by omega) (by omega) (fun c_35 => ?_) (fun c_35 => ?_) | refine j_icmp_ge (tgt := 74) C dX5_enough_35 (by decide) (fun c_35 => ?_) (fun c_35 => ?_)
        · refine j_aload_n C dX5_enough_74 rfl ?_
          refine g5_6 C dX5_enough_75 lFX5_25 ?_
          refine j_iconst (v := nI 2) C dX5_enough_78 (by decide) ?_
          refine j_iload_n C dX5_enough_79 rfl ?_
          first | refine j_iaddN C dX5_enough_80 ?_ | refine j_iadd C dX5_enough_80 ?_
          refine j_iload_n C dX5_enough_81 rfl ?_
          refine j_iast C dX5_enough_82 iA_44 (by omega) ?_
          refine j_iload_n C dX5_enough_83 rfl ?_
          exact j_iret C E dX5_enough_84 (outM_ok kq (by rw [cl (by omega)]; exact (by rw [hf]; rfl)) (TM_back (a := 6) (by omega) hT))
        · exact absurd c_35 (by omega)
      | succ c ih =>
        intro v9 ν hvc hT hf
        refine j_iload C dX5_enough_31 rfl ?_
        refine j_bipush (v := nI 61) C dX5_enough_33 (by decide) ?_
        first | refine j_icmp_geN (tgt := 74) C dX5_enough_35 (by decide) (by omega) (by omega) (fun c_35 => ?_) (fun c_35 => ?_) | refine j_icmp_ge (tgt := 74) C dX5_enough_35 (by decide) (fun c_35 => ?_) (fun c_35 => ?_)
        · exact absurd c_35 (by omega)
        · obtain ⟨w1, w2, w3, w4⟩ := tM (v := v9) hT (Or.inr rfl) (EI_up6 hE (hm2 v9 (by omega))) hP hz
          refine j_iload_n C dX5_enough_38 rfl ?_
          refine j_if_ge (tgt := 74) C dX5_enough_39 (by decide) (fun c_39 => absurd c_39 (by decide)) (fun c_39 => ?_)
          · refine j_aload_n C dX5_enough_42 rfl ?_
            refine g5_6 C dX5_enough_43 lFX5_25 ?_
            refine j_iconst (v := nI 2) C dX5_enough_46 (by decide) ?_
            refine j_iload_n C dX5_enough_47 rfl ?_
            first | refine j_iaddN C dX5_enough_48 ?_ | refine j_iadd C dX5_enough_48 ?_
            refine j_iload C dX5_enough_49 rfl ?_
            refine j_iast C dX5_enough_51 iA_44 (by omega) ?_
            refine j_aload_n C dX5_enough_52 rfl ?_
            refine cVv0 C dX5_enough_53 lMX5_166 myX5_round (ev_X5_round w1 w2 w3 (Or.inl rfl)) (by omega) rc5 (Nat.le_of_ble_eq_true rfl) (fun μ_53 hv_53 => ?_)
            obtain ⟨r1, r2, r3⟩ := w4 _ hv_53
            refine j_aload_n C dX5_enough_56 rfl ?_
            refine g5_8 C dX5_enough_57 lFX5_31 ?_
            refine j_iconst (v := nI 5) C dX5_enough_60 (by decide) ?_
            refine j_iald C dX5_enough_61 iA_46 (by omega) ?_
            refine J.top (y := nI ((fun v => Tot (up (sh μ 38) 6 (2 + z9) v) (μ 43) 0 5) v9)) (by rw [r1 5 (by omega)]) ?_
            have hb5 : (fun v => Tot (up (sh μ 38) 6 (2 + z9) v) (μ 43) 0 5) v9 ≤ 100000 := Tot_b (EI_up6 hE (hm2 v9 (by omega))) (PI5_up hP (by omega) (by omega)).1
            refine j_if_neN (tgt := 68) C dX5_enough_62 (by decide) (by omega) (fun c_62 => ?_) (fun c_62 => ?_)
            · refine in4 C dX5_enough_68 (nI_1 _) rfl ?_
              refine j_goto (tgt := 31) C dX5_enough_71 (by decide) ?_
              exact ih (v9 + 1) _ (by omega) r3 (by rw [hf, fst0, if_neg c_62])
            · refine j_iload C dX5_enough_65 rfl ?_
              refine sn3 C dX5_enough_67 rfl ?_
              refine in4 C dX5_enough_68 (nI_1 _) rfl ?_
              refine j_goto (tgt := 31) C dX5_enough_71 (by decide) ?_
              refine j_iload C dX5_enough_31 rfl ?_
              refine j_bipush (v := nI 61) C dX5_enough_33 (by decide) ?_
              have hres : fst0 (fun v => Tot (up (sh μ 38) 6 (2 + z9) v) (μ 43) 0 5) 61 0 = nI v9 := by rw [hf, fst0, if_pos c_62]
              refine j_icmp_ge (tgt := 74) C dX5_enough_35 (by decide) (fun c_35 => ?_) (fun c_35 => ?_)
              · refine j_aload_n C dX5_enough_74 rfl ?_
                refine g5_6 C dX5_enough_75 lFX5_25 ?_
                refine j_iconst (v := nI 2) C dX5_enough_78 (by decide) ?_
                refine j_iload_n C dX5_enough_79 rfl ?_
                first | refine j_iaddN C dX5_enough_80 ?_ | refine j_iadd C dX5_enough_80 ?_
                refine j_iload_n C dX5_enough_81 rfl ?_
                refine j_iast C dX5_enough_82 iA_44 (by omega) ?_
                refine j_iload_n C dX5_enough_83 rfl ?_
                exact j_iret C E dX5_enough_84 (outM_ok kq (by rw [cl (by omega)]; exact hres.symm) (TM_back (a := 6) (by omega) r3))
              · refine j_iload_n C dX5_enough_38 rfl ?_
                refine j_if_ge (tgt := 74) C dX5_enough_39 (by decide) (fun c_39 => ?_) (fun c_39 => absurd (nI_0le (by omega)) c_39)
                refine j_aload_n C dX5_enough_74 rfl ?_
                refine g5_6 C dX5_enough_75 lFX5_25 ?_
                refine j_iconst (v := nI 2) C dX5_enough_78 (by decide) ?_
                refine j_iload_n C dX5_enough_79 rfl ?_
                first | refine j_iaddN C dX5_enough_80 ?_ | refine j_iadd C dX5_enough_80 ?_
                refine j_iload_n C dX5_enough_81 rfl ?_
                refine j_iast C dX5_enough_82 iA_44 (by omega) ?_
                refine j_iload_n C dX5_enough_83 rfl ?_
                exact j_iret C E dX5_enough_84 (outM_ok kq (by rw [cl (by omega)]; exact hres.symm) (TM_back (a := 6) (by omega) r3))
    exact loop 61 0 _ (by omega) TM_refl rfl
  · refine j_aload_n C dX5_enough_9 rfl ?_
    refine j_bipush (v := (-2)) C dX5_enough_10 (by decide) ?_
    refine cVe1 C dX5_enough_12 lMX5_75 myX5_no (ev_X5_no (k := 2) (by decide) (by decide)) (by omega) rc5 (Nat.le_of_ble_eq_true rfl) ?_
    exact j_iret C E dX5_enough_15 (outM_no (j := 2) (if_neg c_6) (by decide) (by decide))
