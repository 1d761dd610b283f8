-- EVERY ASK, OF CLASS AND REFERENCE: one answer
theorem ifl0 {p : Prop} [Decidable p] {a : Nat} (h : (if p then a else 1) = 0) : p := by
  by_cases c : p
  · exact c
  · rw [if_neg c] at h; cases h
theorem if20 {p : Prop} [Decidable p] {a : Nat} (h : (if p then a else 2) = 0) : p := by
  by_cases c : p
  · exact c
  · rw [if_neg c] at h; cases h
theorem flj {n : Nat} {x : Int32} (hn : n ≤ 6) (h : isFl n x) : ∃ j, j < n ∧ x = nI j := fl_of (by omega) h
theorem s_story {μ ν κ : Mem} {x y : Int32} {v v9 : Int32} (h : IV μ) (r : OutC (kSt (μ 1 0) x y) (stW (sh μ 1) x.toNatClampNeg y) μ v ν) (s : OutM (kSt (ν 38 0) x y) (stW (sh ν 38) x.toNatClampNeg y) ν v9 κ) : v = v9 ∧ IV κ := by
  have Q := IV_Q h
  have E := IV_E h
  have O := IV_O h
  have o := IV_o h
  have n6 := IV_n6 h
  have hr := OutC_RF r
  rw [RF_sh hr, hr 38 (by decide)] at s
  refine IV_ask h r s (by rw [IV_n h]) (fun hk => ?_)
  obtain ⟨j, hj, rfl⟩ := flj n6 (ifl0 hk)
  have hc : (nI j).toNatClampNeg = j := cl (by omega)
  rw [hc]
  have e1 := Q.2.1 1 j (by decide) (by decide) (by omega)
  have e2 := Q.2.1 2 j (by decide) (by decide) (by omega)
  have e3 := Q.2.1 3 j (by decide) (by decide) (by omega)
  have e4 := Q.2.1 4 j (by decide) (by decide) (by omega)
  unfold stW
  rw [e1, e2, e3, e4, ← Q.1]
  have e5 : plc (sh μ 1 5) j (sh μ 1 0 0) = plc (sh μ 38 5) j (sh μ 1 0 0) := plc_eq _ o
  rw [e5]
theorem s_place {μ ν κ : Mem} {x : Int32} {v v9 : Int32} (h : IV μ) (r : OutC (kFl (μ 1 0) x) (nI (μ 6 x.toNatClampNeg)) μ v ν) (s : OutM (kFl (ν 38 0) x) (nI (ν 43 x.toNatClampNeg)) ν v9 κ) : v = v9 ∧ IV κ := by
  have Q := IV_Q h
  have E := IV_E h
  have O := IV_O h
  have o := IV_o h
  have n6 := IV_n6 h
  have hr := OutC_RF r
  rw [hr 38 (by decide), hr 43 (by decide)] at s
  refine IV_ask h r s (by rw [IV_n h]) (fun hk => ?_)
  obtain ⟨j, hj, rfl⟩ := flj n6 (ifl0 hk)
  have hc : (nI j).toNatClampNeg = j := cl (by omega)
  rw [hc]
  exact congrArg nI (o j hj)
theorem s_come {μ ν κ : Mem} {x y : Int32} {v v9 : Int32} (h : IV μ) (r : OutC (kCo (μ 1 0) x y) (nI (tComes ((sh μ 1) 1 x.toNatClampNeg) ((sh μ 1) 3 x.toNatClampNeg) y.toNatClampNeg)) μ v ν) (s : OutM (kCo (ν 38 0) x y) (nI (tComes ((sh ν 38) 1 x.toNatClampNeg) ((sh ν 38) 3 x.toNatClampNeg) y.toNatClampNeg)) ν v9 κ) : v = v9 ∧ IV κ := by
  have Q := IV_Q h
  have E := IV_E h
  have O := IV_O h
  have o := IV_o h
  have n6 := IV_n6 h
  have hr := OutC_RF r
  rw [RF_sh hr, hr 38 (by decide)] at s
  refine IV_ask h r s (by rw [IV_n h]) (fun hk => ?_)
  obtain ⟨j, hj, rfl⟩ := flj n6 (ifl0 hk)
  have hc : (nI j).toNatClampNeg = j := cl (by omega)
  rw [hc]
  rw [Q.2.1 1 j (by decide) (by decide) (by omega), Q.2.1 3 j (by decide) (by decide) (by omega)]
theorem s_going {μ ν κ : Mem} {x y : Int32} {v v9 : Int32} (h : IV μ) (r : OutC (kGo x y) (nI (tGoes ((sh μ 1) 6 6) ((sh μ 1) 6 7) x.toNatClampNeg y.toNatClampNeg)) μ v ν) (s : OutM (kGo x y) (nI (tGoes ((sh ν 38) 6 6) ((sh ν 38) 6 7) x.toNatClampNeg y.toNatClampNeg)) ν v9 κ) : v = v9 ∧ IV κ := by
  have Q := IV_Q h
  have E := IV_E h
  have O := IV_O h
  have o := IV_o h
  have n6 := IV_n6 h
  have hr := OutC_RF r
  rw [RF_sh hr] at s
  refine IV_ask h r s rfl (fun hk => ?_)
  rw [Q.2.2 6 (by decide), Q.2.2 7 (by decide)]
theorem s_total {μ ν κ : Mem} {x : Int32} {v v9 : Int32} (h : IV μ) (r : OutC (kTo x) (nI (Tot (sh μ 1) (μ 6) 0 x.toNatClampNeg)) μ v ν) (s : OutM (kTo x) (nI (Tot (sh ν 38) (ν 43) 0 x.toNatClampNeg)) ν v9 κ) : v = v9 ∧ IV κ := by
  have Q := IV_Q h
  have E := IV_E h
  have O := IV_O h
  have o := IV_o h
  have n6 := IV_n6 h
  have hr := OutC_RF r
  rw [RF_sh hr, hr 43 (by decide)] at s
  refine IV_ask h r s rfl (fun hk => ?_)
  exact congrArg nI (Tot_eq Q E O o)
theorem s_at {μ ν κ : Mem} {x y : Int32} {v v9 : Int32} (h : IV μ) (r : OutC (if isFl (μ 1 0) x then (if 0 ≤ y ∧ y ≤ nI 3 then 0 else 2) else 1) (atW (sh μ 1) (μ 6) x.toNatClampNeg y) μ v ν) (s : OutM (if isFl (ν 38 0) x then (if 0 ≤ y ∧ y ≤ nI 3 then 0 else 2) else 1) (atW (sh ν 38) (ν 43) x.toNatClampNeg y) ν v9 κ) : v = v9 ∧ IV κ := by
  have Q := IV_Q h
  have E := IV_E h
  have O := IV_O h
  have o := IV_o h
  have n6 := IV_n6 h
  have hr := OutC_RF r
  rw [RF_sh hr, hr 38 (by decide), hr 43 (by decide)] at s
  refine IV_ask h r s (by rw [IV_n h]) (fun hk => ?_)
  obtain ⟨j, hj, rfl⟩ := flj n6 (ifl0 hk)
  have hc : (nI j).toNatClampNeg = j := cl (by omega)
  rw [hc]
  have a := o_eq (w := 0) Q E O o hj
  unfold atW
  rw [a.1, a.2.1, a.2.2.1, a.2.2.2.1]
theorem s_when {μ ν κ : Mem} {x : Int32} {v v9 : Int32} (h : IV μ) (r : OutC (kFl (μ 1 0) x) (nI (oMin (sh μ 1) (μ 6) 0 (plc (μ 6) x.toNatClampNeg (μ 1 0)))) μ v ν) (s : OutM (kFl (ν 38 0) x) (nI (oMin (sh ν 38) (ν 43) 0 (plc (ν 43) x.toNatClampNeg (ν 38 0)))) ν v9 κ) : v = v9 ∧ IV κ := by
  have Q := IV_Q h
  have E := IV_E h
  have O := IV_O h
  have o := IV_o h
  have n6 := IV_n6 h
  have hr := OutC_RF r
  rw [RF_sh hr, hr 38 (by decide), hr 43 (by decide)] at s
  refine IV_ask h r s (by rw [IV_n h]) (fun hk => ?_)
  obtain ⟨j, hj, rfl⟩ := flj n6 (ifl0 hk)
  have hc : (nI j).toNatClampNeg = j := cl (by omega)
  rw [hc]
  have p := (IV_P h).plc hj
  have e5 : plc (μ 6) j (μ 1 0) = plc (μ 43) j (μ 1 0) := plc_eq _ o
  rw [IV_n h, ← e5]
  exact congrArg nI (o_eq (w := 0) Q E O o p.1).1
theorem s_best {μ ν κ : Mem} {x : Int32} {v v9 : Int32} (h : IV μ) (r : OutC (kTo x) (nI (valO (sh μ 1) x.toNatClampNeg (bstI (sh μ 1) x.toNatClampNeg))) μ v ν) (s : OutM (kTo x) (nI (valO (sh ν 38) x.toNatClampNeg (bstI (sh ν 38) x.toNatClampNeg))) ν v9 κ) : v = v9 ∧ IV κ := by
  have Q := IV_Q h
  have E := IV_E h
  have O := IV_O h
  have o := IV_o h
  have n6 := IV_n6 h
  have hr := OutC_RF r
  rw [RF_sh hr] at s
  refine IV_ask h r s rfl (fun hk => ?_)
  have hb := bstI_lt (k := x.toNatClampNeg) E
  rw [← bstI_eq Q E]
  exact congrArg nI (valO_eq Q E hb)
theorem s_bestAt {μ ν κ : Mem} {x y : Int32} {v v9 : Int32} (h : IV μ) (r : OutC (kBa (μ 1 0) x y) (nI (pf (μ 1 0) (bstI (sh μ 1) x.toNatClampNeg) y.toNatClampNeg)) μ v ν) (s : OutM (kBa (ν 38 0) x y) (nI (pf (ν 38 0) (bstI (sh ν 38) x.toNatClampNeg) y.toNatClampNeg)) ν v9 κ) : v = v9 ∧ IV κ := by
  have Q := IV_Q h
  have E := IV_E h
  have O := IV_O h
  have o := IV_o h
  have n6 := IV_n6 h
  have hr := OutC_RF r
  rw [RF_sh hr, hr 38 (by decide)] at s
  refine IV_ask h r s (by rw [IV_n h]) (fun hk => ?_)
  rw [IV_n h, bstI_eq Q E]
theorem s_turned {μ ν κ : Mem} {x : Int32} {v v9 : Int32} (h : IV μ) (r : OutC (kFl (μ 1 0) x) (nI (tdN (sh μ 1) (μ 6) x.toNatClampNeg)) μ v ν) (s : OutM (kFl (ν 38 0) x) (nI (tdN (sh ν 38) (ν 43) x.toNatClampNeg)) ν v9 κ) : v = v9 ∧ IV κ := by
  have Q := IV_Q h
  have E := IV_E h
  have O := IV_O h
  have o := IV_o h
  have n6 := IV_n6 h
  have hr := OutC_RF r
  rw [RF_sh hr, hr 38 (by decide), hr 43 (by decide)] at s
  refine IV_ask h r s (by rw [IV_n h]) (fun hk => ?_)
  exact congrArg nI (tdN_eq Q E O o)
theorem s_most {μ ν κ : Mem} {v v9 : Int32} (h : IV μ) (r : OutC 0 (nI (maxTo (tdN (sh μ 1) (μ 6)) (μ 1 0))) μ v ν) (s : OutM 0 (nI (maxTo (tdN (sh ν 38) (ν 43)) (ν 38 0))) ν v9 κ) : v = v9 ∧ IV κ := by
  have Q := IV_Q h
  have E := IV_E h
  have O := IV_O h
  have o := IV_o h
  have n6 := IV_n6 h
  have hr := OutC_RF r
  rw [RF_sh hr, hr 38 (by decide), hr 43 (by decide)] at s
  refine IV_ask h r s rfl (fun hk => ?_)
  rw [IV_n h]
  exact congrArg nI (maxTo_eq _ (fun f _ => tdN_eq Q E O o))
theorem s_enough {μ ν κ : Mem} {x : Int32} {v v9 : Int32} (h : IV μ) (r : OutC (k2 x 2) (fst0 (fun v => Tot (up (sh μ 1) 6 (2 + x.toNatClampNeg) v) (μ 6) 0 5) 61 0) μ v ν) (s : OutM (k2 x 2) (fst0 (fun v => Tot (up (sh ν 38) 6 (2 + x.toNatClampNeg) v) (ν 43) 0 5) 61 0) ν v9 κ) : v = v9 ∧ IV κ := by
  have Q := IV_Q h
  have E := IV_E h
  have O := IV_O h
  have o := IV_o h
  have n6 := IV_n6 h
  have hr := OutC_RF r
  rw [RF_sh hr, hr 43 (by decide)] at s
  refine IV_ask h r s rfl (fun hk => ?_)
  have hx := if20 hk
  obtain ⟨z, hz, rfl⟩ := nI_of2 (n := 2) (M := nI 2) (x := x) (by decide) (Int32.not_lt.mpr hx.1) hx.2
  have hc : (nI z).toNatClampNeg = z := cl (by omega)
  rw [hc]
  exact fst0_eq 61 0 (fun v _ hv => Tot_up Q (EI_up6 E (by
    rcases (show z = 0 ∨ z = 1 ∨ z = 2 by omega) with rfl | rfl | rfl
    · show v ≤ 60; omega
    · show v ≤ 60; omega
    · show v ≤ 60; omega)) (by decide) O o)
theorem s_fill {μ ν κ : Mem} {v v9 : Int32} (h : IV μ) (r : OutC 0 (nI (bIdx (fun v => Tot (up (sh μ 1) 6 8 v) (μ 6) 0 7) false 2)) μ v ν) (s : OutM 0 (nI (bIdx (fun v => Tot (up (sh ν 38) 6 8 v) (ν 43) 0 7) false 2)) ν v9 κ) : v = v9 ∧ IV κ := by
  have Q := IV_Q h
  have E := IV_E h
  have O := IV_O h
  have o := IV_o h
  have n6 := IV_n6 h
  have hr := OutC_RF r
  rw [RF_sh hr, hr 43 (by decide)] at s
  refine IV_ask h r s rfl (fun hk => ?_)
  exact congrArg nI (bIdx_eq 2 (fun v hv => Tot_up Q (EI_up6 E (show v ≤ 2 from hv)) (by decide) O o))
theorem s_ramp {μ ν κ : Mem} {v v9 : Int32} (h : IV μ) (r : OutC 0 (nI (bIdx (fun v => Tot (up (sh μ 1) 6 6 v) (μ 6) 0 7) false 1)) μ v ν) (s : OutM 0 (nI (bIdx (fun v => Tot (up (sh ν 38) 6 6 v) (ν 43) 0 7) false 1)) ν v9 κ) : v = v9 ∧ IV κ := by
  have Q := IV_Q h
  have E := IV_E h
  have O := IV_O h
  have o := IV_o h
  have n6 := IV_n6 h
  have hr := OutC_RF r
  rw [RF_sh hr, hr 43 (by decide)] at s
  refine IV_ask h r s rfl (fun hk => ?_)
  exact congrArg nI (bIdx_eq 1 (fun v hv => Tot_up Q (EI_up6 E (show v ≤ 1 from hv)) (by decide) O o))
theorem s_keep {μ ν κ : Mem} {x : Int32} {v v9 : Int32} (h : IV μ) (r : OutC (k2 x 1) (kpW (fun v => if μ 1 0 = 0 then 0 else oIced (up (sh μ 1) 6 9 v) (μ 6) 0 (μ 1 0 - 1)) x) μ v ν) (s : OutM (k2 x 1) (kpW (fun v => if ν 38 0 = 0 then 0 else oIced (up (sh ν 38) 6 9 v) (ν 43) 0 (ν 38 0 - 1)) x) ν v9 κ) : v = v9 ∧ IV κ := by
  have Q := IV_Q h
  have E := IV_E h
  have O := IV_O h
  have o := IV_o h
  have n6 := IV_n6 h
  have hr := OutC_RF r
  rw [RF_sh hr, hr 38 (by decide), hr 43 (by decide)] at s
  refine IV_ask h r s rfl (fun hk => ?_)
  have hfg : ∀ v, v ≤ 20 → (if μ 1 0 = 0 then 0 else oIced (up (sh μ 1) 6 9 v) (μ 6) 0 (μ 1 0 - 1)) = (if μ 38 0 = 0 then 0 else oIced (up (sh μ 38) 6 9 v) (μ 43) 0 (μ 38 0 - 1)) := fun v hv => by
    rw [IV_n h]
    by_cases c : μ 1 0 = 0
    · rw [if_pos c, if_pos c]
    · rw [if_neg c, if_neg c]
      have e0 : up (sh μ 1) 6 9 v 0 = sh μ 1 0 := up_ne (by decide)
      exact (o_eq (w := 0) (EQ_up Q) (EI_up6 E (show v ≤ 20 from hv)) (by unfold OI; rw [e0]; exact O) (by rw [e0]; exact o) (i := μ 1 0 - 1) (by rw [e0]; show μ 1 0 - 1 < μ 1 0; omega)).2.2.2.1
  have hb := bIdx_eq (m := true) 20 hfg
  have hl := bIdx_le (fun v => if μ 38 0 = 0 then 0 else oIced (up (sh μ 38) 6 9 v) (μ 43) 0 (μ 38 0 - 1)) true 20
  unfold kpW
  rw [hb]
  have e1 := hfg _ hl
  split
  · rfl
  · exact congrArg nI e1
theorem s_oneEach {μ ν κ : Mem} {v v9 : Int32} (h : IV μ) (r : OutC 0 (nI (Tot (sh μ 1) (μ 6) 0 5) - nI (Tot (sh μ 1) (μ 6) 1 5)) μ v ν) (s : OutM 0 (nI (Tot (sh ν 38) (ν 43) 0 5) - nI (Tot (sh ν 38) (ν 43) 1 5)) ν v9 κ) : v = v9 ∧ IV κ := by
  have Q := IV_Q h
  have E := IV_E h
  have O := IV_O h
  have o := IV_o h
  have n6 := IV_n6 h
  have hr := OutC_RF r
  rw [RF_sh hr, hr 43 (by decide)] at s
  refine IV_ask h r s rfl (fun hk => ?_)
  rw [Tot_eq (w := 0) (k := 5) Q E O o, Tot_eq (w := 1) (k := 5) Q E O o]
theorem s_saves {μ ν κ : Mem} {v v9 : Int32} (h : IV μ) (r : OutC 0 (nI (machN (sh μ 1)) - nI (Tot (sh μ 1) (μ 6) 0 6)) μ v ν) (s : OutM 0 (nI (machN (sh ν 38)) - nI (Tot (sh ν 38) (ν 43) 0 6)) ν v9 κ) : v = v9 ∧ IV κ := by
  have Q := IV_Q h
  have E := IV_E h
  have O := IV_O h
  have o := IV_o h
  have n6 := IV_n6 h
  have hr := OutC_RF r
  rw [RF_sh hr, hr 43 (by decide)] at s
  refine IV_ask h r s rfl (fun hk => ?_)
  rw [machN_eq Q E, Tot_eq (w := 0) (k := 6) Q E O o]
theorem s_late {μ ν κ : Mem} {x y : Int32} {v v9 : Int64} (h : IV μ) (r : OutCL (kLa x y) (laW (sh μ 1) (μ 6) x.toNatClampNeg y) μ v ν) (s : OutML (kLa x y) (laW (sh ν 38) (ν 43) x.toNatClampNeg y) ν v9 κ) : v = v9 ∧ IV κ := by
  have Q := IV_Q h
  have E := IV_E h
  have O := IV_O h
  have o := IV_o h
  have n6 := IV_n6 h
  have hr := OutCL_RF r
  rw [RF_sh hr, hr 43 (by decide)] at s
  refine IV_askL h r s rfl (fun hk => ?_)
  unfold laW
  rw [lateN_eq Q E O o]
theorem s_more {μ ν κ : Mem} {x : Int32} {v v9 : Int32} (h : IV μ) (r : OutC (kFl (μ 1 0) x) (nI (tdn (fun v => Tot (up (sh μ 1) 3 x.toNatClampNeg v) (μ 6) 0 2) (Tot (sh μ 1) (μ 6) 0 2) (μ 4 x.toNatClampNeg) 20)) μ v ν) (s : OutM (kFl (ν 38 0) x) (nI (tdn (fun v => Tot (up (sh ν 38) 3 x.toNatClampNeg v) (ν 43) 0 2) (Tot (sh ν 38) (ν 43) 0 2) (ν 41 x.toNatClampNeg) 20)) ν v9 κ) : v = v9 ∧ IV κ := by
  have Q := IV_Q h
  have E := IV_E h
  have O := IV_O h
  have o := IV_o h
  have n6 := IV_n6 h
  have hr := OutC_RF r
  rw [RF_sh hr, hr 38 (by decide), hr 43 (by decide), hr 41 (by decide)] at s
  refine IV_ask h r s (by rw [IV_n h]) (fun hk => ?_)
  obtain ⟨j, hj, rfl⟩ := flj n6 (ifl0 hk)
  have hc : (nI j).toNatClampNeg = j := cl (by omega)
  rw [hc]
  have e3 : μ 4 j = μ 41 j := Q.2.1 3 j (by decide) (by decide) (by omega)
  have h3 : 1 ≤ μ 4 j ∧ μ 4 j ≤ 20 := ⟨(E.2.1 j hj).2.2.1, (E.2.1 j hj).2.2.2.1⟩
  rw [Tot_eq (w := 0) (k := 2) Q E O o, ← e3]
  exact congrArg nI (tdn_eq 20 (fun v h1 h2 => Tot_up Q (EI_up3 E (by omega) h2) (by decide) O o))
theorem s_squeak {μ ν κ : Mem} {x : Int32} {v v9 : Int32} (h : IV μ) (r : OutC (kSq x) (nI (sqN (sh μ 1) (μ 6) x.toNatClampNeg)) μ v ν) (s : OutM (kSq x) (nI (sqN (sh ν 38) (ν 43) x.toNatClampNeg)) ν v9 κ) : v = v9 ∧ IV κ := by
  have Q := IV_Q h
  have E := IV_E h
  have O := IV_O h
  have o := IV_o h
  have n6 := IV_n6 h
  have hr := OutC_RF r
  rw [RF_sh hr, hr 43 (by decide)] at s
  refine IV_ask h r s rfl (fun hk => ?_)
  exact congrArg nI (sqN_eq Q E O o)
theorem s_fits {μ ν κ : Mem} {x : Int32} {v v9 : Int32} (h : IV μ) (r : OutC (kFi (μ 1 0) x) (fiW (sh μ 1) (μ 36) (μ 0 10) x) μ v ν) (s : OutM (kFi (ν 38 0) x) (fiW (sh ν 38) (ν 54) (ν 38 20) x) ν v9 κ) : v = v9 ∧ IV κ := by
  have Q := IV_Q h
  have E := IV_E h
  have O := IV_O h
  have o := IV_o h
  have n6 := IV_n6 h
  have hr := OutC_RF r
  rw [RF_sh hr, hr 38 (by decide), hr 54 (by decide)] at s
  refine IV_ask h r s (by rw [IV_n h]) (fun hk => ?_)
  have hN : ∀ j, j < μ 0 10 → μ 36 j = μ 54 j := fun j _ => by rw [h.2.2.2.1.2.2.1]
  have hc := ctF_eq (nP (sh μ 1 0 0)) (fun t ht => fitO_eq Q E hN ht)
  unfold fiW
  rw [h.2.2.2.1.1, ← Q.1, hc.1, hc.2]
theorem s_lots {μ ν κ : Mem} {x y : Int32} {v v9 : Int32} (h : IV μ) (r : OutC (kLo x) (nI (sumTo (dayC (sh μ 1) (μ 6) y) x.toNatClampNeg)) μ v ν) (s : OutM (kLo x) (nI (sumTo (dayC (sh ν 38) (ν 43) y) x.toNatClampNeg)) ν v9 κ) : v = v9 ∧ IV κ := by
  have Q := IV_Q h
  have E := IV_E h
  have O := IV_O h
  have o := IV_o h
  have n6 := IV_n6 h
  have hr := OutC_RF r
  rw [RF_sh hr, hr 43 (by decide)] at s
  refine IV_ask h r s rfl (fun hk => ?_)
  exact congrArg nI (sumTo_eq _ (fun d _ => dayC_eq Q E O o))
theorem s_count {μ ν κ : Mem} {x : Int32} {v v9 : Int32} (h : IV μ) (r : OutC 0 (ctW (sh μ 1) (μ 37) (μ 0 10) (μ 34 1) x) μ v ν) (s : OutM 0 (ctW (sh ν 38) (ν 55) (ν 38 20) (ν 38 16) x) ν v9 κ) : v = v9 ∧ IV κ := by
  have Q := IV_Q h
  have E := IV_E h
  have O := IV_O h
  have o := IV_o h
  have n6 := IV_n6 h
  have hr := OutC_RF r
  rw [RF_sh hr, hr 38 (by decide), hr 55 (by decide)] at s
  refine IV_ask h r s rfl (fun hk => ?_)
  have e3 := sumTo_eq (sh μ 1 0 0) (f := sh μ 1 3) (g := sh μ 38 3) (fun f hf => Q.2.1 3 f (by decide) (by decide) (by have : f < μ 1 0 := hf; omega))
  unfold ctW
  rw [h.2.2.2.2, h.2.2.2.1.1, h.2.2.1.1, e3, Q.1, Q.2.2 2 (by decide), Q.2.2 3 (by decide), Q.2.2 4 (by decide), Q.2.2 0 (by decide), Q.2.2 1 (by decide), Q.2.2 5 (by decide), Q.2.2 6 (by decide), Q.2.2 8 (by decide)]
theorem s_machine {μ ν κ : Mem} {v v9 : Int32} (h : IV μ) (r : OutC 0 (nI (machN (sh μ 1))) μ v ν) (s : v9 = nI (machN (sh ν 38)) ∧ κ = ν) : v = v9 ∧ IV κ := by
  have hr := OutC_RF r
  obtain ⟨s1, rfl⟩ := s
  exact IV_ask h r (Or.inl ⟨rfl, s1, KM.refl _⟩) rfl (fun _ => by rw [RF_sh hr, machN_eq (IV_Q h) (IV_E h)])
