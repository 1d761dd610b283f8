-- THE REFERENCE READS: a letter, digits, two
/-- all is as it was but the place and the numbers read; the place is w -/
def FD (μ ν : Mem) (w : Nat) : Prop := (∀ q, q ≠ 38 → q ≠ 53 → ν q = μ q) ∧ (∀ k, k ≠ 18 → ν 38 k = μ 38 k) ∧ ν 38 18 = w
theorem FD_self {μ : Mem} {a : Nat} (h : μ 38 18 = a) : FD μ μ a := ⟨fun _ _ _ => rfl, fun _ _ => rfl, h⟩
theorem FD_up {μ ν : Mem} {a w : Nat} (h : FD (up μ 38 18 a) ν w) : FD μ ν w :=
  ⟨fun q a b => (h.1 q a b).trans (up_ne a), fun k hk => (h.2.1 k hk).trans (up_off (Or.inr hk)), h.2.2⟩
theorem FD_at {μ : Mem} {a : Nat} : FD μ (up μ 38 18 a) a := ⟨fun q a _ => up_ne a, fun k hk => up_off (Or.inr hk), up_at⟩
theorem FD_trans {a b c : Mem} {w v : Nat} (h : FD a b w) (g : FD b c v) : FD a c v :=
  ⟨fun q x y => (g.1 q x y).trans (h.1 q x y), fun k hk => (g.2.1 k hk).trans (h.2.1 k hk), g.2.2⟩
theorem FD_EQ {μ ν : Mem} {w : Nat} (h : FD μ ν w) : EQ (sh ν 38) (sh μ 38) :=
  ⟨h.2.1 0 (by decide), fun k i a b _ => congrFun (h.1 (38 + k) (by omega) (by omega)) i, fun i _ => congrFun (h.1 44 (by decide) (by decide)) i⟩
theorem up_r53 {μ : Mem} {w v : Nat} {σ : Nat → Nat} : up (rowM (up μ 38 18 w) 53 σ) 38 18 v = rowM (up μ 38 18 v) 53 σ := by
  funext q i
  by_cases h : q = 53
  · subst h; simp [up, rowM]
  · by_cases h2 : q = 38
    · subst h2
      by_cases h3 : i = 18
      · subst h3; rw [up_at, rowM_ne (by decide), up_at]
      · rw [up_off (Or.inr h3), rowM_ne (by decide), rowM_ne (by decide), up_off (Or.inr h3), up_off (Or.inr h3)]
    · simp [up, rowM, h, h2]
/-- m digits from a on: read, w behind them; or w is the first place that is none -/
def DG (L : Nat → Nat) (n a m : Nat) (v : Int32) (w : Nat) (D : Nat → Nat) : Prop := (v = nI 1 ∧ w = a + m ∧ w ≤ n ∧ ∀ j, j < m → (48 ≤ L (a + j) ∧ L (a + j) ≤ 57) ∧ D j = L (a + j) - 48) ∨ (v = nI 0 ∧ ∃ j, j < m ∧ w = a + j ∧ w ≤ n ∧ (∀ i, i < j → 48 ≤ L (a + i) ∧ L (a + i) ≤ 57) ∧ (w = n ∨ ¬ (48 ≤ L w ∧ L w ≤ 57)))
set_option maxRecDepth 100000 in
set_option maxHeartbeats 4000000 in
theorem ev_X5_isY {G : GX} {L : Nat → Nat} {n9 a9 s9 : Nat} {μ : Mem} (hL : μ 52 = L) (hn : μ 38 16 = n9) (ha : μ 38 18 = a9) (h96 : n9 ≤ 96) (h255 : ∀ j, j < 96 → L j ≤ 255) (hs : s9 < 256) (hle : a9 ≤ n9) (h1 : a9 < n9) (h2 : L a9 = s9) : Ev G mX5_is 0 [rf G 38, .int (nI s9)] μ (PIe (nI 1) (up μ 38 18 (a9 + 1))) := by
  refine Ev.of (own := RX5) (n := 0) (by decide) rfl rfl (catOK rfl) (fun X C E => ?_)
  show J G X 0 [some _, some _] [] _
  refine j_aload_n C dX5_is_0 rfl ?_
  refine g5_18 C dX5_is_1 lFX5_90 ?_
  refine J.top (y := nI a9) (by rw [ha]) ?_
  refine j_aload_n C dX5_is_4 rfl ?_
  refine g5_16 C dX5_is_5 lFX5_87 ?_
  refine J.top (y := nI n9) (by rw [hn]) ?_
  first | refine j_icmp_eqN (tgt := 24) C dX5_is_8 (by decide) (by omega) (by omega) (fun c_8 => ?_) (fun c_8 => ?_) | refine j_icmp_eq (tgt := 24) C dX5_is_8 (by decide) (fun c_8 => ?_) (fun c_8 => ?_)
  · exact absurd c_8 (by omega)
  · have hb9 := h255 a9 (by omega)
    refine j_aload_n C dX5_is_11 rfl ?_
    refine g5_17 C dX5_is_12 lFX5_49 ?_
    refine j_aload_n C dX5_is_15 rfl ?_
    refine g5_18 C dX5_is_16 lFX5_90 ?_
    refine J.top (y := nI a9) (by rw [ha]) ?_
    refine j_iald C dX5_is_19 iA_52 (by omega) ?_
    refine J.top (y := nI (L a9)) (by rw [hL]) ?_
    refine j_iload_n C dX5_is_20 rfl ?_
    first | refine j_icmp_eqN (tgt := 26) C dX5_is_21 (by decide) (by omega) (by omega) (fun c_21 => ?_) (fun c_21 => ?_) | refine j_icmp_eq (tgt := 26) C dX5_is_21 (by decide) (fun c_21 => ?_) (fun c_21 => ?_)
    · refine j_aload_n C dX5_is_26 rfl ?_
      refine j_dup C dX5_is_27 rfl ?_
      refine g5_18 C dX5_is_28 lFX5_90 ?_
      refine J.top (y := nI a9) (by rw [ha]) ?_
      refine j_iconst (v := nI 1) C dX5_is_31 (by decide) ?_
      first | refine j_iaddN C dX5_is_32 ?_ | refine j_iadd C dX5_is_32 ?_
      refine p5_18 C dX5_is_33 lFX5_90 ?_
      refine j_iconst (v := nI 1) C dX5_is_36 (by decide) ?_
      exact j_zret C E dX5_is_37 rfl ⟨rfl, rfl⟩
    · exact absurd h2 c_21
set_option maxRecDepth 100000 in
set_option maxHeartbeats 4000000 in
theorem ev_X5_isN {G : GX} {L : Nat → Nat} {n9 a9 s9 : Nat} {μ : Mem} (hL : μ 52 = L) (hn : μ 38 16 = n9) (ha : μ 38 18 = a9) (h96 : n9 ≤ 96) (h255 : ∀ j, j < 96 → L j ≤ 255) (hs : s9 < 256) (hle : a9 ≤ n9) (h1 : ¬ (a9 < n9 ∧ L a9 = s9)) : Ev G mX5_is 0 [rf G 38, .int (nI s9)] μ (PIe (nI 0) μ) := by
  refine Ev.of (own := RX5) (n := 0) (by decide) rfl rfl (catOK rfl) (fun X C E => ?_)
  show J G X 0 [some _, some _] [] _
  refine j_aload_n C dX5_is_0 rfl ?_
  refine g5_18 C dX5_is_1 lFX5_90 ?_
  refine J.top (y := nI a9) (by rw [ha]) ?_
  refine j_aload_n C dX5_is_4 rfl ?_
  refine g5_16 C dX5_is_5 lFX5_87 ?_
  refine J.top (y := nI n9) (by rw [hn]) ?_
  first | refine j_icmp_eqN (tgt := 24) C dX5_is_8 (by decide) (by omega) (by omega) (fun c_8 => ?_) (fun c_8 => ?_) | refine j_icmp_eq (tgt := 24) C dX5_is_8 (by decide) (fun c_8 => ?_) (fun c_8 => ?_)
  · refine j_iconst (v := nI 0) C dX5_is_24 (by decide) ?_
    exact j_zret C E dX5_is_25 rfl ⟨rfl, rfl⟩
  · have hb9 := h255 a9 (by omega)
    refine j_aload_n C dX5_is_11 rfl ?_
    refine g5_17 C dX5_is_12 lFX5_49 ?_
    refine j_aload_n C dX5_is_15 rfl ?_
    refine g5_18 C dX5_is_16 lFX5_90 ?_
    refine J.top (y := nI a9) (by rw [ha]) ?_
    refine j_iald C dX5_is_19 iA_52 (by omega) ?_
    refine J.top (y := nI (L a9)) (by rw [hL]) ?_
    refine j_iload_n C dX5_is_20 rfl ?_
    first | refine j_icmp_eqN (tgt := 26) C dX5_is_21 (by decide) (by omega) (by omega) (fun c_21 => ?_) (fun c_21 => ?_) | refine j_icmp_eq (tgt := 26) C dX5_is_21 (by decide) (fun c_21 => ?_) (fun c_21 => ?_)
    · exact absurd (And.intro (by omega) c_21) h1
    · refine j_iconst (v := nI 0) C dX5_is_24 (by decide) ?_
      exact j_zret C E dX5_is_25 rfl ⟨rfl, rfl⟩
set_option maxRecDepth 100000 in
set_option maxHeartbeats 4000000 in
theorem ev_X5_digits {G : GX} {L : Nat → Nat} {n9 a9 m9 : Nat} {μ : Mem} (hL : μ 52 = L) (hn : μ 38 16 = n9) (ha : μ 38 18 = a9) (h96 : n9 ≤ 96) (h255 : ∀ j, j < 96 → L j ≤ 255) (hm : m9 ≤ 6) (hle : a9 ≤ n9) : Ev G mX5_digits 0 [rf G 38, .int (nI 0), .int (nI m9)] μ (PI (fun v μ' => ∃ w, FD μ μ' w ∧ DG L n9 a9 m9 v w (μ' 53))) := by
  refine Ev.of (own := RX5) (n := 1) (by decide) rfl rfl (catOK rfl) (fun X C E => ?_)
  show J G X 0 [some _, some _, some _, none] [] _
  have loop : ∀ k i9 σ, i9 + k = m9 → a9 + i9 ≤ n9 → (∀ j, j < i9 → (48 ≤ L (a9 + j) ∧ L (a9 + j) ≤ 57) ∧ σ j = L (a9 + j) - 48) → J G X 2 [some (rf G 38), some (.int (nI 0)), some (.int (nI m9)), some (.int (nI i9))] [] (rowM (up μ 38 18 (a9 + i9)) 53 σ) := by
    intro k
    induction k with
    | zero =>
      intro i9 σ hi hai hd
      refine j_iload_n C dX5_digits_2 rfl ?_
      refine j_iload_n C dX5_digits_3 rfl ?_
      refine j_iload_n C dX5_digits_4 rfl ?_
      first | refine j_iaddN C dX5_digits_5 ?_ | refine j_iadd C dX5_digits_5 ?_
      first | refine j_icmp_geN (tgt := 81) C dX5_digits_6 (by decide) (by omega) (by omega) (fun c_6 => ?_) (fun c_6 => ?_) | refine j_icmp_ge (tgt := 81) C dX5_digits_6 (by decide) (fun c_6 => ?_) (fun c_6 => ?_)
      · refine j_iconst (v := nI 1) C dX5_digits_81 (by decide) ?_
        exact j_zret C E dX5_digits_82 rfl ⟨_, rfl, (a9 + i9), (⟨fun q x y => (rowM_ne y).trans (up_ne x), fun k hk => (congrFun (rowM_ne (by decide)) k).trans (up_off (Or.inr hk)), (congrFun (rowM_ne (by decide)) 18).trans up_at⟩ : FD μ _ _), Or.inl ⟨rfl, by omega, by omega, fun j hj => by rw [rowM_at]; exact hd j (by omega)⟩⟩
      · exact absurd c_6 (by omega)
    | succ k ih =>
      intro i9 σ hi hai hd
      refine j_iload_n C dX5_digits_2 rfl ?_
      refine j_iload_n C dX5_digits_3 rfl ?_
      refine j_iload_n C dX5_digits_4 rfl ?_
      first | refine j_iaddN C dX5_digits_5 ?_ | refine j_iadd C dX5_digits_5 ?_
      first | refine j_icmp_geN (tgt := 81) C dX5_digits_6 (by decide) (by omega) (by omega) (fun c_6 => ?_) (fun c_6 => ?_) | refine j_icmp_ge (tgt := 81) C dX5_digits_6 (by decide) (fun c_6 => ?_) (fun c_6 => ?_)
      · exact absurd c_6 (by omega)
      · refine j_aload_n C dX5_digits_9 rfl ?_
        refine g5_18 C dX5_digits_10 lFX5_90 ?_
        refine J.top (y := nI (a9 + i9)) (by rw [rowM_ne (by decide), up_at]) ?_
        refine j_aload_n C dX5_digits_13 rfl ?_
        refine g5_16 C dX5_digits_14 lFX5_87 ?_
        refine J.top (y := nI n9) (by rw [rowM_ne (by decide), up_off (Or.inr (by decide)), hn]) ?_
        first | refine j_icmp_eqN (tgt := 48) C dX5_digits_17 (by decide) (by omega) (by omega) (fun c_17 => ?_) (fun c_17 => ?_) | refine j_icmp_eq (tgt := 48) C dX5_digits_17 (by decide) (fun c_17 => ?_) (fun c_17 => ?_)
        · refine j_iconst (v := nI 0) C dX5_digits_48 (by decide) ?_
          exact j_zret C E dX5_digits_49 rfl (by
                first
                | exact ⟨_, rfl, (a9 + i9), (⟨fun q x y => (rowM_ne y).trans (up_ne x), fun k hk => (congrFun (rowM_ne (by decide)) k).trans (up_off (Or.inr hk)), (congrFun (rowM_ne (by decide)) 18).trans up_at⟩ : FD μ _ _), Or.inr ⟨rfl, i9, by omega, rfl, by omega, fun j hj => (hd j hj).1, Or.inl c_17⟩⟩
                | exact ⟨_, rfl, (a9 + i9), (⟨fun q x y => (rowM_ne y).trans (up_ne x), fun k hk => (congrFun (rowM_ne (by decide)) k).trans (up_off (Or.inr hk)), (congrFun (rowM_ne (by decide)) 18).trans up_at⟩ : FD μ _ _), Or.inr ⟨rfl, i9, by omega, rfl, by omega, fun j hj => (hd j hj).1, Or.inr (fun q => absurd q.1 (by omega))⟩⟩
                | exact ⟨_, rfl, (a9 + i9), (⟨fun q x y => (rowM_ne y).trans (up_ne x), fun k hk => (congrFun (rowM_ne (by decide)) k).trans (up_off (Or.inr hk)), (congrFun (rowM_ne (by decide)) 18).trans up_at⟩ : FD μ _ _), Or.inr ⟨rfl, i9, by omega, rfl, by omega, fun j hj => (hd j hj).1, Or.inr (fun q => absurd q.2 (by omega))⟩⟩)
        · have hb9 := h255 (a9 + i9) (by omega)
          refine j_aload_n C dX5_digits_20 rfl ?_
          refine g5_17 C dX5_digits_21 lFX5_49 ?_
          refine j_aload_n C dX5_digits_24 rfl ?_
          refine g5_18 C dX5_digits_25 lFX5_90 ?_
          refine J.top (y := nI (a9 + i9)) (by rw [rowM_ne (by decide), up_at]) ?_
          refine j_iald C dX5_digits_28 iA_52 (by omega) ?_
          refine J.top (y := nI (L (a9 + i9))) (by rw [rowM_ne (by decide), up_ne (by decide), hL]) ?_
          refine j_bipush (v := nI 48) C dX5_digits_29 (by decide) ?_
          first | refine j_icmp_ltN (tgt := 48) C dX5_digits_31 (by decide) (by omega) (by omega) (fun c_31 => ?_) (fun c_31 => ?_) | refine j_icmp_lt (tgt := 48) C dX5_digits_31 (by decide) (fun c_31 => ?_) (fun c_31 => ?_)
          · refine j_iconst (v := nI 0) C dX5_digits_48 (by decide) ?_
            exact j_zret C E dX5_digits_49 rfl (by
                  first
                  | exact ⟨_, rfl, (a9 + i9), (⟨fun q x y => (rowM_ne y).trans (up_ne x), fun k hk => (congrFun (rowM_ne (by decide)) k).trans (up_off (Or.inr hk)), (congrFun (rowM_ne (by decide)) 18).trans up_at⟩ : FD μ _ _), Or.inr ⟨rfl, i9, by omega, rfl, by omega, fun j hj => (hd j hj).1, Or.inl c_17⟩⟩
                  | exact ⟨_, rfl, (a9 + i9), (⟨fun q x y => (rowM_ne y).trans (up_ne x), fun k hk => (congrFun (rowM_ne (by decide)) k).trans (up_off (Or.inr hk)), (congrFun (rowM_ne (by decide)) 18).trans up_at⟩ : FD μ _ _), Or.inr ⟨rfl, i9, by omega, rfl, by omega, fun j hj => (hd j hj).1, Or.inr (fun q => absurd q.1 (by omega))⟩⟩
                  | exact ⟨_, rfl, (a9 + i9), (⟨fun q x y => (rowM_ne y).trans (up_ne x), fun k hk => (congrFun (rowM_ne (by decide)) k).trans (up_off (Or.inr hk)), (congrFun (rowM_ne (by decide)) 18).trans up_at⟩ : FD μ _ _), Or.inr ⟨rfl, i9, by omega, rfl, by omega, fun j hj => (hd j hj).1, Or.inr (fun q => absurd q.2 (by omega))⟩⟩)
          · refine j_aload_n C dX5_digits_34 rfl ?_
            refine g5_17 C dX5_digits_35 lFX5_49 ?_
            refine j_aload_n C dX5_digits_38 rfl ?_
            refine g5_18 C dX5_digits_39 lFX5_90 ?_
            refine J.top (y := nI (a9 + i9)) (by rw [rowM_ne (by decide), up_at]) ?_
            refine j_iald C dX5_digits_42 iA_52 (by omega) ?_
            refine J.top (y := nI (L (a9 + i9))) (by rw [rowM_ne (by decide), up_ne (by decide), hL]) ?_
            refine j_bipush (v := nI 57) C dX5_digits_43 (by decide) ?_
            first | refine j_icmp_leN (tgt := 50) C dX5_digits_45 (by decide) (by omega) (by omega) (fun c_45 => ?_) (fun c_45 => ?_) | refine j_icmp_le (tgt := 50) C dX5_digits_45 (by decide) (fun c_45 => ?_) (fun c_45 => ?_)
            · refine j_aload_n C dX5_digits_50 rfl ?_
              refine g5_19 C dX5_digits_51 lFX5_52 ?_
              refine j_iload_n C dX5_digits_54 rfl ?_
              refine j_aload_n C dX5_digits_55 rfl ?_
              refine g5_17 C dX5_digits_56 lFX5_49 ?_
              refine j_aload_n C dX5_digits_59 rfl ?_
              refine j_dup C dX5_digits_60 rfl ?_
              refine g5_18 C dX5_digits_61 lFX5_90 ?_
              refine J.top (y := nI (a9 + i9)) (by rw [rowM_ne (by decide), up_at]) ?_
              refine j_dup_x1 C dX5_digits_64 rfl rfl ?_
              refine j_iconst (v := nI 1) C dX5_digits_65 (by decide) ?_
              first | refine j_iaddN C dX5_digits_66 ?_ | refine j_iadd C dX5_digits_66 ?_
              refine p5_18 C dX5_digits_67 lFX5_90 ?_
              refine J.mem up_r53 ?_
              refine j_iald C dX5_digits_70 iA_52 (by omega) ?_
              refine J.top (y := nI (L (a9 + i9))) (by rw [rowM_ne (by decide), up_ne (by decide), hL]) ?_
              refine j_bipush (v := nI 48) C dX5_digits_71 (by decide) ?_
              refine j_isubN C dX5_digits_73 (by omega) ?_
              refine j_iast C dX5_digits_74 iA_53 (by omega) ?_
              refine J.mem up_row ?_
              first | refine in3 C dX5_digits_75 (nI_1 _) rfl ?_ | refine in3 C dX5_digits_75 rfl rfl ?_
              refine j_goto (tgt := 2) C dX5_digits_78 (by decide) ?_
              exact ih (i9 + 1) _ (by omega) (by omega) (fun j hj => by
                by_cases e : j = i9
                · rw [e, u1_at]; exact ⟨⟨by omega, by omega⟩, rfl⟩
                · rw [u1_ne e]; exact hd j (by omega))
            · refine j_iconst (v := nI 0) C dX5_digits_48 (by decide) ?_
              exact j_zret C E dX5_digits_49 rfl (by
                    first
                    | exact ⟨_, rfl, (a9 + i9), (⟨fun q x y => (rowM_ne y).trans (up_ne x), fun k hk => (congrFun (rowM_ne (by decide)) k).trans (up_off (Or.inr hk)), (congrFun (rowM_ne (by decide)) 18).trans up_at⟩ : FD μ _ _), Or.inr ⟨rfl, i9, by omega, rfl, by omega, fun j hj => (hd j hj).1, Or.inl c_17⟩⟩
                    | exact ⟨_, rfl, (a9 + i9), (⟨fun q x y => (rowM_ne y).trans (up_ne x), fun k hk => (congrFun (rowM_ne (by decide)) k).trans (up_off (Or.inr hk)), (congrFun (rowM_ne (by decide)) 18).trans up_at⟩ : FD μ _ _), Or.inr ⟨rfl, i9, by omega, rfl, by omega, fun j hj => (hd j hj).1, Or.inr (fun q => absurd q.1 (by omega))⟩⟩
                    | exact ⟨_, rfl, (a9 + i9), (⟨fun q x y => (rowM_ne y).trans (up_ne x), fun k hk => (congrFun (rowM_ne (by decide)) k).trans (up_off (Or.inr hk)), (congrFun (rowM_ne (by decide)) 18).trans up_at⟩ : FD μ _ _), Or.inr ⟨rfl, i9, by omega, rfl, by omega, fun j hj => (hd j hj).1, Or.inr (fun q => absurd q.2 (by omega))⟩⟩)
  refine j_iload_n C dX5_digits_0 rfl ?_
  refine sn3 C dX5_digits_1 rfl ?_
  have e0 : μ = rowM (up μ 38 18 (a9 + 0)) 53 (μ 53) := by
    funext q i
    by_cases h : q = 53
    · subst h; rw [rowM_at]
    · rw [rowM_ne h]
      by_cases h2 : q = 38
      · subst h2
        by_cases h3 : i = 18
        · subst h3; rw [up_at]; omega
        · rw [up_off (Or.inr h3)]
      · rw [up_ne h2]
  refine J.mem e0 ?_
  exact loop m9 0 _ (by omega) (by omega) (fun j hj => absurd hj (by omega))
set_option maxRecDepth 100000 in
set_option maxHeartbeats 4000000 in
theorem ev_X5_two {G : GX} {i9 : Nat} {μ : Mem} (hi : i9 + 1 < 6) : Ev G mX5_two 0 [rf G 38, .int (nI i9)] μ (PIe (nI (10 * μ 53 i9 + μ 53 (i9 + 1))) μ) := by
  refine Ev.of (own := RX5) (n := 0) (by decide) rfl rfl (catOK rfl) (fun X C E => ?_)
  show J G X 0 [some _, some _] [] _
  refine j_bipush (v := nI 10) C dX5_two_0 (by decide) ?_
  refine j_aload_n C dX5_two_2 rfl ?_
  refine g5_19 C dX5_two_3 lFX5_52 ?_
  refine j_iload_n C dX5_two_6 rfl ?_
  refine j_iald C dX5_two_7 iA_53 (by omega) ?_
  first | refine j_imulN C dX5_two_8 ?_ | refine j_imul C dX5_two_8 ?_
  refine j_aload_n C dX5_two_9 rfl ?_
  refine g5_19 C dX5_two_10 lFX5_52 ?_
  refine j_iload_n C dX5_two_13 rfl ?_
  refine j_iconst (v := nI 1) C dX5_two_14 (by decide) ?_
  first | refine j_iaddN C dX5_two_15 ?_ | refine j_iadd C dX5_two_15 ?_
  refine j_iald C dX5_two_16 iA_53 (by omega) ?_
  first | refine j_iaddN C dX5_two_17 ?_ | refine j_iadd C dX5_two_17 ?_
  exact j_iret C E dX5_two_18 ⟨rfl, rfl⟩
