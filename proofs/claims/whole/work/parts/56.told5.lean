-- THE REFERENCE READS: a statement, told
theorem DG_T {L : Nat → Nat} {n a o m w : Nat} {v : Int32} {D : Nat → Nat} (hW : WF L n a) (ho : 1 ≤ o) (ho1 : ¬ (o = 1 ∧ L a = 102)) (hz : slen (L a) = o + m + 1) (h : DG L n (a + o) m v w D) : v = nI 1 ∧ w + 1 = a + slen (L a) ∧ ∀ j, j < m → (48 ≤ L (a + o + j) ∧ L (a + o + j) ≤ 57) ∧ D j = dg L (a + o + j) := by
  rcases h with ⟨h1, h2, h3, h4⟩ | ⟨h1, j, h2, h3, h4, h5, h6⟩
  · exact ⟨h1, by omega, h4⟩
  · have hd := dg_of (i := o + j) hW (by omega) (by omega) (fun q => ho1 ⟨by omega, q.2⟩)
    have hn := hW.2.1
    rcases h6 with h6 | h6
    · omega
    · exact absurd (by rw [show w = a + (o + j) by omega]; exact hd) h6
theorem tw_le {L : Nat → Nat} {i : Nat} (h : L i ≤ 57) (h' : L (i + 1) ≤ 57) : tw2 L i ≤ 99 := by unfold tw2 dg; omega
theorem dg_le {L : Nat → Nat} {i : Nat} (h : L i ≤ 57) : dg L i ≤ 9 := by unfold dg; omega
theorem isFl_nI {n d : Nat} (hn : n < 2 ^ 31) (hd : d < 2 ^ 31) : isFl n (nI d) ↔ d < n := ⟨fun h => (nI_ltI hd hn).mp h.2, fun h => ⟨nI_0le hd, (nI_ltI hd hn).mpr h⟩⟩
/-- the statement's frame -/
def FT (μ ν : Mem) : Prop := (∀ q, q < 38 ∨ (44 < q ∧ q ≠ 53) → ν q = μ q) ∧ ∀ k, k ≠ 0 → k ≠ 18 → ν 38 k = μ 38 k
theorem FT_of {μ ν : Mem} {w : Nat} (h : FD μ ν w) : FT μ ν := ⟨fun q hq => h.1 q (by omega) (by omega), fun k _ hk => h.2.1 k hk⟩
theorem FT_up {μ ν : Mem} {a k v : Nat} (ha : 38 < a ∧ a < 45) (h : FT μ ν) : FT μ (up ν a k v) := ⟨fun q hq => (up_ne (by omega)).trans (h.1 q hq), fun j h0 h1 => (congrFun (up_ne (by omega)) j).trans (h.2 j h0 h1)⟩
theorem FT_up0 {μ ν : Mem} {v : Nat} (h : FT μ ν) : FT μ (up ν 38 0 v) := ⟨fun q hq => (up_ne (by omega)).trans (h.1 q hq), fun j h0 h1 => (up_off (Or.inr h0)).trans (h.2 j h0 h1)⟩
theorem FT_r43 {μ ν : Mem} {σ : Nat → Nat} (h : FT μ ν) : FT μ (rowM ν 43 σ) := ⟨fun q hq => (rowM_ne (by omega)).trans (h.1 q hq), fun j h0 h1 => (congrFun (rowM_ne (by decide)) j).trans (h.2 j h0 h1)⟩
theorem shu0 {ν : Mem} {k v : Nat} : sh (up ν 38 k v) 38 = up (sh ν 38) 0 k v := sh38_up (a := 0)
theorem shu1 {ν : Mem} {k v : Nat} : sh (up ν 39 k v) 38 = up (sh ν 38) 1 k v := sh38_up (a := 1)
theorem shu2 {ν : Mem} {k v : Nat} : sh (up ν 40 k v) 38 = up (sh ν 38) 2 k v := sh38_up (a := 2)
theorem shu3 {ν : Mem} {k v : Nat} : sh (up ν 41 k v) 38 = up (sh ν 38) 3 k v := sh38_up (a := 3)
theorem shu4 {ν : Mem} {k v : Nat} : sh (up ν 42 k v) 38 = up (sh ν 38) 4 k v := sh38_up (a := 4)
theorem shu5 {ν : Mem} {k v : Nat} : sh (up ν 43 k v) 38 = up (sh ν 38) 5 k v := sh38_up (a := 5)
theorem shu6 {ν : Mem} {k v : Nat} : sh (up ν 44 k v) 38 = up (sh ν 38) 6 k v := sh38_up (a := 6)
set_option maxRecDepth 100000 in
set_option maxHeartbeats 4000000 in
theorem ev_X5_stT {G : GX} {a9 : Nat} {μ : Mem} (ha : μ 38 18 = a9) (h96 : μ 38 16 ≤ 96) (h255 : ∀ j, j < 96 → μ 52 j ≤ 255) (hW : WF (μ 52) (μ 38 16) a9) (hE : EI (sh μ 38)) (hP : PI5 (sh μ 38)) : Ev G mX5_statement 4 [rf G 38, .int (nI 1)] μ (PI (fun v μ' => FT μ μ' ∧ μ' 38 18 + 1 = a9 + slen (μ 52 a9) ∧ ((okE (μ 52) a9 (sh μ 38) ∧ v = nI 1 ∧ EQ (sh μ' 38) (apE (μ 52) a9 (sh μ 38))) ∨ (¬ okE (μ 52) a9 (sh μ 38) ∧ v = nI 0)))) := by
  refine Ev.of (own := RX5) (n := 1) (by decide) rfl rfl (catOK rfl) (fun X C E => ?_)
  show J G X 0 [some _, some _, none] [] _
  have hsl := hW.1
  have hse := hW.2.1
  have hlt : a9 < μ 38 16 := by omega
  have hle : a9 ≤ μ 38 16 := by omega
  have h06 : μ 38 0 ≤ 6 := hE.1
  rcases slen_0.mp hsl with hc | hc | hc | hc | hc | hc | hc
  · have hz : slen (μ 52 a9) = 7 := by rw [hc]; rfl
    have hno : ∀ s9, s9 ∈ [] → (a9 < μ 38 16 ∧ μ 52 a9 = s9) → False := fun s9 h1 h2 => by rw [hc] at h2; rw [← h2.2] at h1; revert h1; decide
    have hk9 : isKd (μ 52 (a9 + 1)) := (mayS_kind (by omega) ⟨rfl, hc⟩).mp (hW.2.2 1 (by omega) (by omega))
    have hk0 : 0 < μ 52 (a9 + 1) := by unfold isKd at hk9; omega
    have hkb : kdN (μ 52 (a9 + 1)) ≤ 5 := by unfold kdN; (repeat' split) <;> omega
    refine j_aload_n C dX5_statement_0 rfl ?_
    refine j_bipush (v := nI 102) C dX5_statement_1 (by decide) ?_
    refine cVe1 C dX5_statement_3 lMX5_93 myX5_is (ev_X5_isY (L := μ 52) (n9 := μ 38 16) (a9 := a9) rfl rfl ha h96 h255 (by decide) hle hlt hc) (by omega) rc5 (Nat.le_of_ble_eq_true rfl) ?_
    refine j_if_eqN (tgt := 188) C dX5_statement_6 (by decide) (by decide) (fun q9 => absurd q9 (by decide)) (fun _ => ?_)
    · refine j_aload_n C dX5_statement_9 rfl ?_
      refine g5_18 C dX5_statement_10 lFX5_90 ?_
      refine J.top (y := nI (a9 + 1)) (by rw [up_at]) ?_
      refine j_aload_n C dX5_statement_13 rfl ?_
      refine g5_16 C dX5_statement_14 lFX5_87 ?_
      refine J.top (y := nI (μ 38 16)) (by rw [up_off (Or.inr (by decide))]) ?_
      first | refine j_icmp_geN (tgt := 49) C dX5_statement_17 (by decide) (by omega) (by omega) (fun c_17 => ?_) (fun c_17 => ?_) | refine j_icmp_ge (tgt := 49) C dX5_statement_17 (by decide) (fun c_17 => ?_) (fun c_17 => ?_)
      · exact absurd c_17 (by omega)
      · have hb9 := h255 (a9 + 1) (by omega)
        refine j_aload_n C dX5_statement_20 rfl ?_
        refine g5_17 C dX5_statement_21 lFX5_49 ?_
        refine j_aload_n C dX5_statement_24 rfl ?_
        refine g5_18 C dX5_statement_25 lFX5_90 ?_
        refine J.top (y := nI (a9 + 1)) (by rw [up_at]) ?_
        refine j_iald C dX5_statement_28 iA_52 (by omega) ?_
        refine J.top (y := nI (μ 52 (a9 + 1))) (by rw [up_ne (by decide)]) ?_
        refine j_if_leN (tgt := 49) C dX5_statement_29 (by decide) (by omega) (fun c_29 => ?_) (fun c_29 => ?_)
        · exact absurd c_29 (by omega)
        · refine j_ldcS C rfl dX5_statement_32 ?_
          refine j_aload_n C dX5_statement_34 rfl ?_
          refine g5_17 C dX5_statement_35 lFX5_49 ?_
          refine j_aload_n C dX5_statement_38 rfl ?_
          refine g5_18 C dX5_statement_39 lFX5_90 ?_
          refine J.top (y := nI (a9 + 1)) (by rw [up_at]) ?_
          refine j_iald C dX5_statement_42 iA_52 (by omega) ?_
          refine J.top (y := nI (μ 52 (a9 + 1))) (by rw [up_ne (by decide)]) ?_
          refine cTe1 C dX5_statement_43 lMX5_99 myJ0_indexOf_0f7a4 (ev_J0_indexOf hb9) (by omega) rfl (Nat.le_of_ble_eq_true rfl) ?_
          rw [kdI_of hk9]
          refine j_goto (tgt := 50) C dX5_statement_46 (by decide) ?_
          refine sn2 C dX5_statement_50 rfl ?_
          refine j_iload_n C dX5_statement_51 rfl ?_
          refine j_if_geN (tgt := 57) C dX5_statement_52 (by decide) (by omega) ?_
          refine j_aload_n C dX5_statement_57 rfl ?_
          refine j_dup C dX5_statement_58 rfl ?_
          refine g5_18 C dX5_statement_59 lFX5_90 ?_
          refine j_iconst (v := nI 1) C dX5_statement_62 (by decide) ?_
          first | refine j_iaddN C dX5_statement_63 ?_ | refine j_iadd C dX5_statement_63 ?_
          refine p5_18 C dX5_statement_64 lFX5_90 ?_
          refine J.mem up_up ?_
          refine j_aload_n C dX5_statement_67 rfl ?_
          refine j_iconst (v := nI 0) C dX5_statement_68 (by decide) ?_
          refine j_iconst (v := nI 4) C dX5_statement_69 (by decide) ?_
          refine cVi2 C dX5_statement_70 lMX5_104 myX5_digits (ev_X5_digits (L := μ 52) (n9 := μ 38 16) (a9 := a9 + 2) (m9 := 4) (by rw [up_ne (by decide)]) (by rw [up_off (Or.inr (by decide))]) up_at h96 h255 (by decide) (by omega)) (by omega) rc5 (Nat.le_of_ble_eq_true rfl) (fun v_d μ_d hv_d => ?_)
          obtain ⟨w9, hF8, hd9⟩ := hv_d
          obtain ⟨rfl, hw9, hr9⟩ := DG_T (o := 2) hW (by decide) (fun q9 => by have := q9.1; have := q9.2; omega) hz hd9
          have hF9 := FD_up hF8
          have hf0 : μ_d 38 0 = μ 38 0 := hF9.2.1 0 (by decide)
          have r2 : 48 ≤ μ 52 (a9 + 2) ∧ μ 52 (a9 + 2) ≤ 57 := (hr9 0 (by omega)).1
          have v2 : μ_d 53 0 = dg (μ 52) (a9 + 2) := (hr9 0 (by omega)).2
          have d2 : dg (μ 52) (a9 + 2) ≤ 9 := dg_le r2.2
          have r3 : 48 ≤ μ 52 (a9 + 3) ∧ μ 52 (a9 + 3) ≤ 57 := (hr9 1 (by omega)).1
          have v3 : μ_d 53 1 = dg (μ 52) (a9 + 3) := (hr9 1 (by omega)).2
          have d3 : dg (μ 52) (a9 + 3) ≤ 9 := dg_le r3.2
          have r4 : 48 ≤ μ 52 (a9 + 4) ∧ μ 52 (a9 + 4) ≤ 57 := (hr9 2 (by omega)).1
          have v4 : μ_d 53 2 = dg (μ 52) (a9 + 4) := (hr9 2 (by omega)).2
          have d4 : dg (μ 52) (a9 + 4) ≤ 9 := dg_le r4.2
          have r5 : 48 ≤ μ 52 (a9 + 5) ∧ μ 52 (a9 + 5) ≤ 57 := (hr9 3 (by omega)).1
          have v5 : μ_d 53 3 = dg (μ 52) (a9 + 5) := (hr9 3 (by omega)).2
          have d5 : dg (μ 52) (a9 + 5) ≤ 9 := dg_le r5.2
          have t2 : tw2 (μ 52) (a9 + 2) ≤ 99 := tw_le r2.2 r3.2
          have e2 : 10 * μ_d 53 0 + μ_d 53 1 = tw2 (μ 52) (a9 + 2) := by rw [v2, v3]; rfl
          have t3 : tw2 (μ 52) (a9 + 3) ≤ 99 := tw_le r3.2 r4.2
          have e3 : 10 * μ_d 53 1 + μ_d 53 2 = tw2 (μ 52) (a9 + 3) := by rw [v3, v4]; rfl
          have t4 : tw2 (μ 52) (a9 + 4) ≤ 99 := tw_le r4.2 r5.2
          have e4 : 10 * μ_d 53 2 + μ_d 53 3 = tw2 (μ 52) (a9 + 4) := by rw [v4, v5]; rfl
          refine j_if_neN (tgt := 78) C dX5_statement_73 (by decide) (by decide) (fun _ => ?_) (fun q9 => absurd q9 (by decide))
          · refine j_iload_n C dX5_statement_78 rfl ?_
            refine j_if_neN (tgt := 84) C dX5_statement_79 (by decide) (by decide) (fun _ => ?_) (fun q9 => absurd q9 (by decide))
            · refine j_aload_n C dX5_statement_84 rfl ?_
              refine j_iconst (v := nI 1) C dX5_statement_85 (by decide) ?_
              refine cVe1 C dX5_statement_86 lMX5_108 myX5_two (ev_X5_two (by decide)) (by omega) rc5 (Nat.le_of_ble_eq_true rfl) ?_
              refine J.top (y := nI (tw2 (μ 52) (a9 + 3))) (congrArg nI e3) ?_
              refine j_iconst (v := nI 1) C dX5_statement_89 (by decide) ?_
              refine j_bipush (v := nI 20) C dX5_statement_90 (by decide) ?_
              refine cSe3 C dX5_statement_92 lMX5_83 myX5_within (ev_X5_within) (by omega) (Nat.le_of_ble_eq_true rfl) ?_
              first | refine j_if_eqB (tgt := 107) C dX5_statement_95 (by decide) (fun c_95 => ?_) (fun c_95 => ?_) | refine j_if_eqN (tgt := 107) C dX5_statement_95 (by decide) (by omega) (fun c_95 => ?_) (fun c_95 => ?_) | refine j_if_eq (tgt := 107) C dX5_statement_95 (by decide) (fun c_95 => ?_) (fun c_95 => ?_)
              · refine j_iconst (v := nI 0) C dX5_statement_107 (by decide) ?_
                exact j_iret C E dX5_statement_108 (by
                      first
                      | exact ⟨_, rfl, FT_of hF9, (by show μ_d 38 18 + 1 = _; rw [hF9.2.2]; exact hw9), Or.inr ⟨fun q9 => c_95 (by have q8 := ((ap_f (E := (sh μ 38)) hc).1.mp q9).2; exact ⟨(nI_leI (by omega) (by omega)).mpr q8.1, (nI_leI (by omega) (by omega)).mpr q8.2⟩), rfl⟩⟩
                      | exact ⟨_, rfl, FT_of hF9, (by show μ_d 38 18 + 1 = _; rw [hF9.2.2]; exact hw9), Or.inr ⟨fun q9 => absurd ((ap_f (E := (sh μ 38)) hc).1.mp q9).1 (by show ¬ μ 38 0 < 6; omega), rfl⟩⟩)
              · refine j_aload_n C dX5_statement_98 rfl ?_
                refine g5_0 C dX5_statement_99 lFX5_79 ?_
                refine J.top (y := nI (μ 38 0)) (congrArg nI hf0) ?_
                refine j_bipush (v := nI 6) C dX5_statement_102 (by decide) ?_
                first | refine j_icmp_neN (tgt := 109) C dX5_statement_104 (by decide) (by omega) (by omega) (fun c_104 => ?_) (fun c_104 => ?_) | refine j_icmp_ne (tgt := 109) C dX5_statement_104 (by decide) (fun c_104 => ?_) (fun c_104 => ?_)
                · refine j_aload_n C dX5_statement_109 rfl ?_
                  refine g5_1 C dX5_statement_110 lFX5_7 ?_
                  refine j_aload_n C dX5_statement_113 rfl ?_
                  refine g5_0 C dX5_statement_114 lFX5_79 ?_
                  refine J.top (y := nI (μ 38 0)) (congrArg nI hf0) ?_
                  refine j_iload_n C dX5_statement_117 rfl ?_
                  refine j_iast C dX5_statement_118 iA_39 (by omega) ?_
                  refine j_aload_n C dX5_statement_119 rfl ?_
                  refine g5_2 C dX5_statement_120 lFX5_13 ?_
                  refine j_aload_n C dX5_statement_123 rfl ?_
                  refine g5_0 C dX5_statement_124 lFX5_79 ?_
                  refine J.top (y := nI (μ 38 0)) (congrArg nI hf0) ?_
                  refine j_aload_n C dX5_statement_127 rfl ?_
                  refine g5_19 C dX5_statement_128 lFX5_52 ?_
                  refine j_iconst (v := nI 0) C dX5_statement_131 (by decide) ?_
                  refine j_iald C dX5_statement_132 iA_53 (by omega) ?_
                  refine J.top (y := nI (dg (μ 52) (a9 + 2))) (congrArg nI v2) ?_
                  refine j_iast C dX5_statement_133 iA_40 (by omega) ?_
                  refine j_aload_n C dX5_statement_134 rfl ?_
                  refine g5_3 C dX5_statement_135 lFX5_16 ?_
                  refine j_aload_n C dX5_statement_138 rfl ?_
                  refine g5_0 C dX5_statement_139 lFX5_79 ?_
                  refine J.top (y := nI (μ 38 0)) (congrArg nI hf0) ?_
                  refine j_aload_n C dX5_statement_142 rfl ?_
                  refine j_iconst (v := nI 1) C dX5_statement_143 (by decide) ?_
                  refine cVe1 C dX5_statement_144 lMX5_108 myX5_two (ev_X5_two (by decide)) (by omega) rc5 (Nat.le_of_ble_eq_true rfl) ?_
                  refine J.top (y := nI (tw2 (μ 52) (a9 + 3))) (congrArg nI e3) ?_
                  refine j_iast C dX5_statement_147 iA_41 (by omega) ?_
                  refine j_aload_n C dX5_statement_148 rfl ?_
                  refine g5_4 C dX5_statement_149 lFX5_19 ?_
                  refine j_aload_n C dX5_statement_152 rfl ?_
                  refine g5_0 C dX5_statement_153 lFX5_79 ?_
                  refine J.top (y := nI (μ 38 0)) (congrArg nI hf0) ?_
                  refine j_aload_n C dX5_statement_156 rfl ?_
                  refine g5_19 C dX5_statement_157 lFX5_52 ?_
                  refine j_iconst (v := nI 3) C dX5_statement_160 (by decide) ?_
                  refine j_iald C dX5_statement_161 iA_53 (by omega) ?_
                  refine J.top (y := nI (dg (μ 52) (a9 + 5))) (congrArg nI v5) ?_
                  refine j_iast C dX5_statement_162 iA_42 (by omega) ?_
                  refine j_aload_n C dX5_statement_163 rfl ?_
                  refine g5_5 C dX5_statement_164 lFX5_22 ?_
                  refine j_aload_n C dX5_statement_167 rfl ?_
                  refine g5_0 C dX5_statement_168 lFX5_79 ?_
                  refine J.top (y := nI (μ 38 0)) (congrArg nI hf0) ?_
                  refine j_aload_n C dX5_statement_171 rfl ?_
                  refine g5_0 C dX5_statement_172 lFX5_79 ?_
                  refine J.top (y := nI (μ 38 0)) (congrArg nI hf0) ?_
                  refine j_iast C dX5_statement_175 iA_43 (by omega) ?_
                  refine j_aload_n C dX5_statement_176 rfl ?_
                  refine j_dup C dX5_statement_177 rfl ?_
                  refine g5_0 C dX5_statement_178 lFX5_79 ?_
                  refine J.top (y := nI (μ 38 0)) (congrArg nI hf0) ?_
                  refine j_iconst (v := nI 1) C dX5_statement_181 (by decide) ?_
                  first | refine j_iaddN C dX5_statement_182 ?_ | refine j_iadd C dX5_statement_182 ?_
                  refine p5_0 C dX5_statement_183 lFX5_79 ?_
                  refine j_iconst (v := nI 1) C dX5_statement_186 (by decide) ?_
                  exact j_iret C E dX5_statement_187 ⟨_, rfl, FT_up0 (FT_up (by decide) (FT_up (by decide) (FT_up (by decide) (FT_up (by decide) (FT_up (by decide) (FT_of hF9)))))), (by show μ_d 38 18 + 1 = _; rw [hF9.2.2]; exact hw9), Or.inl ⟨(ap_f (E := (sh μ 38)) hc).1.mpr ⟨by show μ 38 0 < 6; omega, (nI_leI (by omega) (by omega)).mp c_95.1, (nI_leI (by omega) (by omega)).mp c_95.2⟩, rfl, by rw [(ap_f (E := (sh μ 38)) hc).2, shu0, shu5, shu4, shu3, shu2, shu1]; unfold adE; exact EQ_up (EQ_up (EQ_up (EQ_up (EQ_up (EQ_up (FD_EQ hF9))))))⟩⟩
                · refine j_iconst (v := nI 0) C dX5_statement_107 (by decide) ?_
                  exact j_iret C E dX5_statement_108 (by
                        first
                        | exact ⟨_, rfl, FT_of hF9, (by show μ_d 38 18 + 1 = _; rw [hF9.2.2]; exact hw9), Or.inr ⟨fun q9 => c_95 (by have q8 := ((ap_f (E := (sh μ 38)) hc).1.mp q9).2; exact ⟨(nI_leI (by omega) (by omega)).mpr q8.1, (nI_leI (by omega) (by omega)).mpr q8.2⟩), rfl⟩⟩
                        | exact ⟨_, rfl, FT_of hF9, (by show μ_d 38 18 + 1 = _; rw [hF9.2.2]; exact hw9), Or.inr ⟨fun q9 => absurd ((ap_f (E := (sh μ 38)) hc).1.mp q9).1 (by show ¬ μ 38 0 < 6; omega), rfl⟩⟩)
  · have hz : slen (μ 52 a9) = 6 := by rw [hc]; rfl
    have hno : ∀ s9, s9 ∈ [102] → (a9 < μ 38 16 ∧ μ 52 a9 = s9) → False := fun s9 h1 h2 => by rw [hc] at h2; rw [← h2.2] at h1; revert h1; decide
    refine j_aload_n C dX5_statement_0 rfl ?_
    refine j_bipush (v := nI 102) C dX5_statement_1 (by decide) ?_
    refine cVe1 C dX5_statement_3 lMX5_93 myX5_is (ev_X5_isN (L := μ 52) (n9 := μ 38 16) (a9 := a9) rfl rfl ha h96 h255 (by decide) hle (fun q9 => hno 102 (by simp) q9)) (by omega) rc5 (Nat.le_of_ble_eq_true rfl) ?_
    refine j_if_eqN (tgt := 188) C dX5_statement_6 (by decide) (by decide) (fun _ => ?_) (fun q9 => absurd rfl q9)
    · refine j_aload_n C dX5_statement_188 rfl ?_
      refine j_bipush (v := nI 117) C dX5_statement_189 (by decide) ?_
      refine cVe1 C dX5_statement_191 lMX5_93 myX5_is (ev_X5_isY (L := μ 52) (n9 := μ 38 16) (a9 := a9) rfl rfl ha h96 h255 (by decide) hle hlt hc) (by omega) rc5 (Nat.le_of_ble_eq_true rfl) ?_
      refine j_if_eqN (tgt := 250) C dX5_statement_194 (by decide) (by decide) (fun q9 => absurd q9 (by decide)) (fun _ => ?_)
      · refine j_aload_n C dX5_statement_197 rfl ?_
        refine j_iconst (v := nI 0) C dX5_statement_198 (by decide) ?_
        refine j_iconst (v := nI 4) C dX5_statement_199 (by decide) ?_
        refine cVi2 C dX5_statement_200 lMX5_104 myX5_digits (ev_X5_digits (L := μ 52) (n9 := μ 38 16) (a9 := a9 + 1) (m9 := 4) (by rw [up_ne (by decide)]) (by rw [up_off (Or.inr (by decide))]) up_at h96 h255 (by decide) (by omega)) (by omega) rc5 (Nat.le_of_ble_eq_true rfl) (fun v_d μ_d hv_d => ?_)
        obtain ⟨w9, hF8, hd9⟩ := hv_d
        obtain ⟨rfl, hw9, hr9⟩ := DG_T (o := 1) hW (by decide) (fun q9 => by have := q9.1; have := q9.2; omega) hz hd9
        have hF9 := FD_up hF8
        have hf0 : μ_d 38 0 = μ 38 0 := hF9.2.1 0 (by decide)
        have r1 : 48 ≤ μ 52 (a9 + 1) ∧ μ 52 (a9 + 1) ≤ 57 := (hr9 0 (by omega)).1
        have v1 : μ_d 53 0 = dg (μ 52) (a9 + 1) := (hr9 0 (by omega)).2
        have d1 : dg (μ 52) (a9 + 1) ≤ 9 := dg_le r1.2
        have r2 : 48 ≤ μ 52 (a9 + 2) ∧ μ 52 (a9 + 2) ≤ 57 := (hr9 1 (by omega)).1
        have v2 : μ_d 53 1 = dg (μ 52) (a9 + 2) := (hr9 1 (by omega)).2
        have d2 : dg (μ 52) (a9 + 2) ≤ 9 := dg_le r2.2
        have r3 : 48 ≤ μ 52 (a9 + 3) ∧ μ 52 (a9 + 3) ≤ 57 := (hr9 2 (by omega)).1
        have v3 : μ_d 53 2 = dg (μ 52) (a9 + 3) := (hr9 2 (by omega)).2
        have d3 : dg (μ 52) (a9 + 3) ≤ 9 := dg_le r3.2
        have r4 : 48 ≤ μ 52 (a9 + 4) ∧ μ 52 (a9 + 4) ≤ 57 := (hr9 3 (by omega)).1
        have v4 : μ_d 53 3 = dg (μ 52) (a9 + 4) := (hr9 3 (by omega)).2
        have d4 : dg (μ 52) (a9 + 4) ≤ 9 := dg_le r4.2
        have t1 : tw2 (μ 52) (a9 + 1) ≤ 99 := tw_le r1.2 r2.2
        have e1 : 10 * μ_d 53 0 + μ_d 53 1 = tw2 (μ 52) (a9 + 1) := by rw [v1, v2]; rfl
        have t2 : tw2 (μ 52) (a9 + 2) ≤ 99 := tw_le r2.2 r3.2
        have e2 : 10 * μ_d 53 1 + μ_d 53 2 = tw2 (μ 52) (a9 + 2) := by rw [v2, v3]; rfl
        have t3 : tw2 (μ 52) (a9 + 3) ≤ 99 := tw_le r3.2 r4.2
        have e3 : 10 * μ_d 53 2 + μ_d 53 3 = tw2 (μ 52) (a9 + 3) := by rw [v3, v4]; rfl
        refine j_if_neN (tgt := 208) C dX5_statement_203 (by decide) (by decide) (fun _ => ?_) (fun q9 => absurd q9 (by decide))
        · refine j_iload_n C dX5_statement_208 rfl ?_
          refine j_if_neN (tgt := 214) C dX5_statement_209 (by decide) (by decide) (fun _ => ?_) (fun q9 => absurd q9 (by decide))
          · refine j_aload_n C dX5_statement_214 rfl ?_
            refine j_iconst (v := nI 0) C dX5_statement_215 (by decide) ?_
            refine cVe1 C dX5_statement_216 lMX5_108 myX5_two (ev_X5_two (by decide)) (by omega) rc5 (Nat.le_of_ble_eq_true rfl) ?_
            refine J.top (y := nI (tw2 (μ 52) (a9 + 1))) (congrArg nI e1) ?_
            refine j_bipush (v := nI 40) C dX5_statement_219 (by decide) ?_
            first | refine j_icmp_leN (tgt := 226) C dX5_statement_221 (by decide) (by omega) (by omega) (fun c_221 => ?_) (fun c_221 => ?_) | refine j_icmp_le (tgt := 226) C dX5_statement_221 (by decide) (fun c_221 => ?_) (fun c_221 => ?_)
            · refine j_aload_n C dX5_statement_226 rfl ?_
              refine g5_6 C dX5_statement_227 lFX5_25 ?_
              refine j_iconst (v := nI 0) C dX5_statement_230 (by decide) ?_
              refine j_aload_n C dX5_statement_231 rfl ?_
              refine j_iconst (v := nI 0) C dX5_statement_232 (by decide) ?_
              refine cVe1 C dX5_statement_233 lMX5_108 myX5_two (ev_X5_two (by decide)) (by omega) rc5 (Nat.le_of_ble_eq_true rfl) ?_
              refine J.top (y := nI (tw2 (μ 52) (a9 + 1))) (congrArg nI e1) ?_
              refine j_iast C dX5_statement_236 iA_44 (by omega) ?_
              refine j_aload_n C dX5_statement_237 rfl ?_
              refine g5_6 C dX5_statement_238 lFX5_25 ?_
              refine j_iconst (v := nI 1) C dX5_statement_241 (by decide) ?_
              refine j_aload_n C dX5_statement_242 rfl ?_
              refine j_iconst (v := nI 2) C dX5_statement_243 (by decide) ?_
              refine cVe1 C dX5_statement_244 lMX5_108 myX5_two (ev_X5_two (by decide)) (by omega) rc5 (Nat.le_of_ble_eq_true rfl) ?_
              refine J.top (y := nI (tw2 (μ 52) (a9 + 3))) (congrArg nI e3) ?_
              refine j_iast C dX5_statement_247 iA_44 (by omega) ?_
              refine j_iconst (v := nI 1) C dX5_statement_248 (by decide) ?_
              exact j_iret C E dX5_statement_249 ⟨_, rfl, FT_up (by decide) (FT_up (by decide) (FT_of hF9)), (by show μ_d 38 18 + 1 = _; rw [hF9.2.2]; exact hw9), Or.inl ⟨(ap_u (E := (sh μ 38)) hc).1.mpr ⟨c_221, t3⟩, rfl, by rw [(ap_u (E := (sh μ 38)) hc).2, shu6, shu6]; exact EQ_up (EQ_up (FD_EQ hF9))⟩⟩
            · refine j_iconst (v := nI 0) C dX5_statement_224 (by decide) ?_
              exact j_iret C E dX5_statement_225 ⟨_, rfl, FT_of hF9, (by show μ_d 38 18 + 1 = _; rw [hF9.2.2]; exact hw9), Or.inr ⟨fun q9 => by have := (ap_u (E := (sh μ 38)) hc).1.mp q9; omega, rfl⟩⟩
  · have hz : slen (μ 52 a9) = 8 := by rw [hc]; rfl
    have hno : ∀ s9, s9 ∈ [102, 117] → (a9 < μ 38 16 ∧ μ 52 a9 = s9) → False := fun s9 h1 h2 => by rw [hc] at h2; rw [← h2.2] at h1; revert h1; decide
    refine j_aload_n C dX5_statement_0 rfl ?_
    refine j_bipush (v := nI 102) C dX5_statement_1 (by decide) ?_
    refine cVe1 C dX5_statement_3 lMX5_93 myX5_is (ev_X5_isN (L := μ 52) (n9 := μ 38 16) (a9 := a9) rfl rfl ha h96 h255 (by decide) hle (fun q9 => hno 102 (by simp) q9)) (by omega) rc5 (Nat.le_of_ble_eq_true rfl) ?_
    refine j_if_eqN (tgt := 188) C dX5_statement_6 (by decide) (by decide) (fun _ => ?_) (fun q9 => absurd rfl q9)
    · refine j_aload_n C dX5_statement_188 rfl ?_
      refine j_bipush (v := nI 117) C dX5_statement_189 (by decide) ?_
      refine cVe1 C dX5_statement_191 lMX5_93 myX5_is (ev_X5_isN (L := μ 52) (n9 := μ 38 16) (a9 := a9) rfl rfl ha h96 h255 (by decide) hle (fun q9 => hno 117 (by simp) q9)) (by omega) rc5 (Nat.le_of_ble_eq_true rfl) ?_
      refine j_if_eqN (tgt := 250) C dX5_statement_194 (by decide) (by decide) (fun _ => ?_) (fun q9 => absurd rfl q9)
      · refine j_aload_n C dX5_statement_250 rfl ?_
        refine j_bipush (v := nI 98) C dX5_statement_251 (by decide) ?_
        refine cVe1 C dX5_statement_253 lMX5_93 myX5_is (ev_X5_isY (L := μ 52) (n9 := μ 38 16) (a9 := a9) rfl rfl ha h96 h255 (by decide) hle hlt hc) (by omega) rc5 (Nat.le_of_ble_eq_true rfl) ?_
        refine j_if_eqN (tgt := 339) C dX5_statement_256 (by decide) (by decide) (fun q9 => absurd q9 (by decide)) (fun _ => ?_)
        · refine j_aload_n C dX5_statement_259 rfl ?_
          refine j_iconst (v := nI 0) C dX5_statement_260 (by decide) ?_
          refine j_bipush (v := nI 6) C dX5_statement_261 (by decide) ?_
          refine cVi2 C dX5_statement_263 lMX5_104 myX5_digits (ev_X5_digits (L := μ 52) (n9 := μ 38 16) (a9 := a9 + 1) (m9 := 6) (by rw [up_ne (by decide)]) (by rw [up_off (Or.inr (by decide))]) up_at h96 h255 (by decide) (by omega)) (by omega) rc5 (Nat.le_of_ble_eq_true rfl) (fun v_d μ_d hv_d => ?_)
          obtain ⟨w9, hF8, hd9⟩ := hv_d
          obtain ⟨rfl, hw9, hr9⟩ := DG_T (o := 1) hW (by decide) (fun q9 => by have := q9.1; have := q9.2; omega) hz hd9
          have hF9 := FD_up hF8
          have hf0 : μ_d 38 0 = μ 38 0 := hF9.2.1 0 (by decide)
          have r1 : 48 ≤ μ 52 (a9 + 1) ∧ μ 52 (a9 + 1) ≤ 57 := (hr9 0 (by omega)).1
          have v1 : μ_d 53 0 = dg (μ 52) (a9 + 1) := (hr9 0 (by omega)).2
          have d1 : dg (μ 52) (a9 + 1) ≤ 9 := dg_le r1.2
          have r2 : 48 ≤ μ 52 (a9 + 2) ∧ μ 52 (a9 + 2) ≤ 57 := (hr9 1 (by omega)).1
          have v2 : μ_d 53 1 = dg (μ 52) (a9 + 2) := (hr9 1 (by omega)).2
          have d2 : dg (μ 52) (a9 + 2) ≤ 9 := dg_le r2.2
          have r3 : 48 ≤ μ 52 (a9 + 3) ∧ μ 52 (a9 + 3) ≤ 57 := (hr9 2 (by omega)).1
          have v3 : μ_d 53 2 = dg (μ 52) (a9 + 3) := (hr9 2 (by omega)).2
          have d3 : dg (μ 52) (a9 + 3) ≤ 9 := dg_le r3.2
          have r4 : 48 ≤ μ 52 (a9 + 4) ∧ μ 52 (a9 + 4) ≤ 57 := (hr9 3 (by omega)).1
          have v4 : μ_d 53 3 = dg (μ 52) (a9 + 4) := (hr9 3 (by omega)).2
          have d4 : dg (μ 52) (a9 + 4) ≤ 9 := dg_le r4.2
          have r5 : 48 ≤ μ 52 (a9 + 5) ∧ μ 52 (a9 + 5) ≤ 57 := (hr9 4 (by omega)).1
          have v5 : μ_d 53 4 = dg (μ 52) (a9 + 5) := (hr9 4 (by omega)).2
          have d5 : dg (μ 52) (a9 + 5) ≤ 9 := dg_le r5.2
          have r6 : 48 ≤ μ 52 (a9 + 6) ∧ μ 52 (a9 + 6) ≤ 57 := (hr9 5 (by omega)).1
          have v6 : μ_d 53 5 = dg (μ 52) (a9 + 6) := (hr9 5 (by omega)).2
          have d6 : dg (μ 52) (a9 + 6) ≤ 9 := dg_le r6.2
          have t1 : tw2 (μ 52) (a9 + 1) ≤ 99 := tw_le r1.2 r2.2
          have e1 : 10 * μ_d 53 0 + μ_d 53 1 = tw2 (μ 52) (a9 + 1) := by rw [v1, v2]; rfl
          have t2 : tw2 (μ 52) (a9 + 2) ≤ 99 := tw_le r2.2 r3.2
          have e2 : 10 * μ_d 53 1 + μ_d 53 2 = tw2 (μ 52) (a9 + 2) := by rw [v2, v3]; rfl
          have t3 : tw2 (μ 52) (a9 + 3) ≤ 99 := tw_le r3.2 r4.2
          have e3 : 10 * μ_d 53 2 + μ_d 53 3 = tw2 (μ 52) (a9 + 3) := by rw [v3, v4]; rfl
          have t4 : tw2 (μ 52) (a9 + 4) ≤ 99 := tw_le r4.2 r5.2
          have e4 : 10 * μ_d 53 3 + μ_d 53 4 = tw2 (μ 52) (a9 + 4) := by rw [v4, v5]; rfl
          have t5 : tw2 (μ 52) (a9 + 5) ≤ 99 := tw_le r5.2 r6.2
          have e5 : 10 * μ_d 53 4 + μ_d 53 5 = tw2 (μ 52) (a9 + 5) := by rw [v5, v6]; rfl
          refine j_if_neN (tgt := 271) C dX5_statement_266 (by decide) (by decide) (fun _ => ?_) (fun q9 => absurd q9 (by decide))
          · refine j_iload_n C dX5_statement_271 rfl ?_
            refine j_if_neN (tgt := 277) C dX5_statement_272 (by decide) (by decide) (fun _ => ?_) (fun q9 => absurd q9 (by decide))
            · refine j_aload_n C dX5_statement_277 rfl ?_
              refine j_iconst (v := nI 0) C dX5_statement_278 (by decide) ?_
              refine cVe1 C dX5_statement_279 lMX5_108 myX5_two (ev_X5_two (by decide)) (by omega) rc5 (Nat.le_of_ble_eq_true rfl) ?_
              refine J.top (y := nI (tw2 (μ 52) (a9 + 1))) (congrArg nI e1) ?_
              refine j_bipush (v := nI 60) C dX5_statement_282 (by decide) ?_
              first | refine j_icmp_gtN (tgt := 307) C dX5_statement_284 (by decide) (by omega) (by omega) (fun c_284 => ?_) (fun c_284 => ?_) | refine j_icmp_gt (tgt := 307) C dX5_statement_284 (by decide) (fun c_284 => ?_) (fun c_284 => ?_)
              · refine j_iconst (v := nI 0) C dX5_statement_307 (by decide) ?_
                exact j_iret C E dX5_statement_308 ⟨_, rfl, FT_of hF9, (by show μ_d 38 18 + 1 = _; rw [hF9.2.2]; exact hw9), Or.inr ⟨fun q9 => by have := (ap_b (E := (sh μ 38)) hc).1.mp q9; omega, rfl⟩⟩
              · refine j_aload_n C dX5_statement_287 rfl ?_
                refine j_iconst (v := nI 2) C dX5_statement_288 (by decide) ?_
                refine cVe1 C dX5_statement_289 lMX5_108 myX5_two (ev_X5_two (by decide)) (by omega) rc5 (Nat.le_of_ble_eq_true rfl) ?_
                refine J.top (y := nI (tw2 (μ 52) (a9 + 3))) (congrArg nI e3) ?_
                refine j_bipush (v := nI 60) C dX5_statement_292 (by decide) ?_
                first | refine j_icmp_gtN (tgt := 307) C dX5_statement_294 (by decide) (by omega) (by omega) (fun c_294 => ?_) (fun c_294 => ?_) | refine j_icmp_gt (tgt := 307) C dX5_statement_294 (by decide) (fun c_294 => ?_) (fun c_294 => ?_)
                · refine j_iconst (v := nI 0) C dX5_statement_307 (by decide) ?_
                  exact j_iret C E dX5_statement_308 ⟨_, rfl, FT_of hF9, (by show μ_d 38 18 + 1 = _; rw [hF9.2.2]; exact hw9), Or.inr ⟨fun q9 => by have := (ap_b (E := (sh μ 38)) hc).1.mp q9; omega, rfl⟩⟩
                · refine j_aload_n C dX5_statement_297 rfl ?_
                  refine j_iconst (v := nI 4) C dX5_statement_298 (by decide) ?_
                  refine cVe1 C dX5_statement_299 lMX5_108 myX5_two (ev_X5_two (by decide)) (by omega) rc5 (Nat.le_of_ble_eq_true rfl) ?_
                  refine J.top (y := nI (tw2 (μ 52) (a9 + 5))) (congrArg nI e5) ?_
                  refine j_bipush (v := nI 60) C dX5_statement_302 (by decide) ?_
                  first | refine j_icmp_leN (tgt := 309) C dX5_statement_304 (by decide) (by omega) (by omega) (fun c_304 => ?_) (fun c_304 => ?_) | refine j_icmp_le (tgt := 309) C dX5_statement_304 (by decide) (fun c_304 => ?_) (fun c_304 => ?_)
                  · refine j_iconst (v := nI 0) C dX5_statement_309 (by decide) ?_
                    refine sn2 C dX5_statement_310 rfl ?_
                    refine j_iload_n C dX5_statement_311 rfl ?_
                    refine j_iconst (v := nI 3) C dX5_statement_312 (by decide) ?_
                    refine j_icmp_geN (tgt := 337) C dX5_statement_313 (by decide) (by decide) (by decide) (fun q9 => absurd q9 (by decide)) (fun _ => ?_)
                    · refine j_aload_n C dX5_statement_316 rfl ?_
                      refine g5_6 C dX5_statement_317 lFX5_25 ?_
                      refine j_iconst (v := nI 2) C dX5_statement_320 (by decide) ?_
                      refine j_iload_n C dX5_statement_321 rfl ?_
                      first | refine j_iaddN C dX5_statement_322 ?_ | refine j_iadd C dX5_statement_322 ?_
                      refine J.top (y := nI 2) rfl ?_
                      refine j_aload_n C dX5_statement_323 rfl ?_
                      refine j_iconst (v := nI 2) C dX5_statement_324 (by decide) ?_
                      refine j_iload_n C dX5_statement_325 rfl ?_
                      first | refine j_imulN C dX5_statement_326 ?_ | refine j_imul C dX5_statement_326 ?_
                      refine J.top (y := nI 0) rfl ?_
                      refine cVe1 C dX5_statement_327 lMX5_108 myX5_two (ev_X5_two (by decide)) (by omega) rc5 (Nat.le_of_ble_eq_true rfl) ?_
                      refine J.top (y := nI (tw2 (μ 52) (a9 + 1))) (congrArg nI e1) ?_
                      refine j_iast C dX5_statement_330 iA_44 (by omega) ?_
                      refine in2 C dX5_statement_331 (v := nI 1) (by decide) rfl ?_
                      refine j_goto (tgt := 311) C dX5_statement_334 (by decide) ?_
                      refine j_iload_n C dX5_statement_311 rfl ?_
                      refine j_iconst (v := nI 3) C dX5_statement_312 (by decide) ?_
                      refine j_icmp_geN (tgt := 337) C dX5_statement_313 (by decide) (by decide) (by decide) (fun q9 => absurd q9 (by decide)) (fun _ => ?_)
                      · refine j_aload_n C dX5_statement_316 rfl ?_
                        refine g5_6 C dX5_statement_317 lFX5_25 ?_
                        refine j_iconst (v := nI 2) C dX5_statement_320 (by decide) ?_
                        refine j_iload_n C dX5_statement_321 rfl ?_
                        first | refine j_iaddN C dX5_statement_322 ?_ | refine j_iadd C dX5_statement_322 ?_
                        refine J.top (y := nI 3) rfl ?_
                        refine j_aload_n C dX5_statement_323 rfl ?_
                        refine j_iconst (v := nI 2) C dX5_statement_324 (by decide) ?_
                        refine j_iload_n C dX5_statement_325 rfl ?_
                        first | refine j_imulN C dX5_statement_326 ?_ | refine j_imul C dX5_statement_326 ?_
                        refine J.top (y := nI 2) rfl ?_
                        refine cVe1 C dX5_statement_327 lMX5_108 myX5_two (ev_X5_two (by decide)) (by omega) rc5 (Nat.le_of_ble_eq_true rfl) ?_
                        refine J.top (y := nI (tw2 (μ 52) (a9 + 3))) (congrArg nI e3) ?_
                        refine j_iast C dX5_statement_330 iA_44 (by omega) ?_
                        refine in2 C dX5_statement_331 (v := nI 2) (by decide) rfl ?_
                        refine j_goto (tgt := 311) C dX5_statement_334 (by decide) ?_
                        refine j_iload_n C dX5_statement_311 rfl ?_
                        refine j_iconst (v := nI 3) C dX5_statement_312 (by decide) ?_
                        refine j_icmp_geN (tgt := 337) C dX5_statement_313 (by decide) (by decide) (by decide) (fun q9 => absurd q9 (by decide)) (fun _ => ?_)
                        · refine j_aload_n C dX5_statement_316 rfl ?_
                          refine g5_6 C dX5_statement_317 lFX5_25 ?_
                          refine j_iconst (v := nI 2) C dX5_statement_320 (by decide) ?_
                          refine j_iload_n C dX5_statement_321 rfl ?_
                          first | refine j_iaddN C dX5_statement_322 ?_ | refine j_iadd C dX5_statement_322 ?_
                          refine J.top (y := nI 4) rfl ?_
                          refine j_aload_n C dX5_statement_323 rfl ?_
                          refine j_iconst (v := nI 2) C dX5_statement_324 (by decide) ?_
                          refine j_iload_n C dX5_statement_325 rfl ?_
                          first | refine j_imulN C dX5_statement_326 ?_ | refine j_imul C dX5_statement_326 ?_
                          refine J.top (y := nI 4) rfl ?_
                          refine cVe1 C dX5_statement_327 lMX5_108 myX5_two (ev_X5_two (by decide)) (by omega) rc5 (Nat.le_of_ble_eq_true rfl) ?_
                          refine J.top (y := nI (tw2 (μ 52) (a9 + 5))) (congrArg nI e5) ?_
                          refine j_iast C dX5_statement_330 iA_44 (by omega) ?_
                          refine in2 C dX5_statement_331 (v := nI 3) (by decide) rfl ?_
                          refine j_goto (tgt := 311) C dX5_statement_334 (by decide) ?_
                          refine j_iload_n C dX5_statement_311 rfl ?_
                          refine j_iconst (v := nI 3) C dX5_statement_312 (by decide) ?_
                          refine j_icmp_geN (tgt := 337) C dX5_statement_313 (by decide) (by decide) (by decide) (fun _ => ?_) (fun q9 => absurd q9 (by decide))
                          · refine j_iconst (v := nI 1) C dX5_statement_337 (by decide) ?_
                            exact j_iret C E dX5_statement_338 ⟨_, rfl, FT_up (by decide) (FT_up (by decide) (FT_up (by decide) (FT_of hF9))), (by show μ_d 38 18 + 1 = _; rw [hF9.2.2]; exact hw9), Or.inl ⟨(ap_b (E := (sh μ 38)) hc).1.mpr ⟨by omega, by omega, by omega⟩, rfl, by rw [(ap_b (E := (sh μ 38)) hc).2, shu6, shu6, shu6]; exact EQ_up (EQ_up (EQ_up (FD_EQ hF9)))⟩⟩
                  · refine j_iconst (v := nI 0) C dX5_statement_307 (by decide) ?_
                    exact j_iret C E dX5_statement_308 ⟨_, rfl, FT_of hF9, (by show μ_d 38 18 + 1 = _; rw [hF9.2.2]; exact hw9), Or.inr ⟨fun q9 => by have := (ap_b (E := (sh μ 38)) hc).1.mp q9; omega, rfl⟩⟩
  · have hz : slen (μ 52 a9) = 3 := by rw [hc]; rfl
    have hno : ∀ s9, s9 ∈ [102, 117, 98] → (a9 < μ 38 16 ∧ μ 52 a9 = s9) → False := fun s9 h1 h2 => by rw [hc] at h2; rw [← h2.2] at h1; revert h1; decide
    refine j_aload_n C dX5_statement_0 rfl ?_
    refine j_bipush (v := nI 102) C dX5_statement_1 (by decide) ?_
    refine cVe1 C dX5_statement_3 lMX5_93 myX5_is (ev_X5_isN (L := μ 52) (n9 := μ 38 16) (a9 := a9) rfl rfl ha h96 h255 (by decide) hle (fun q9 => hno 102 (by simp) q9)) (by omega) rc5 (Nat.le_of_ble_eq_true rfl) ?_
    refine j_if_eqN (tgt := 188) C dX5_statement_6 (by decide) (by decide) (fun _ => ?_) (fun q9 => absurd rfl q9)
    · refine j_aload_n C dX5_statement_188 rfl ?_
      refine j_bipush (v := nI 117) C dX5_statement_189 (by decide) ?_
      refine cVe1 C dX5_statement_191 lMX5_93 myX5_is (ev_X5_isN (L := μ 52) (n9 := μ 38 16) (a9 := a9) rfl rfl ha h96 h255 (by decide) hle (fun q9 => hno 117 (by simp) q9)) (by omega) rc5 (Nat.le_of_ble_eq_true rfl) ?_
      refine j_if_eqN (tgt := 250) C dX5_statement_194 (by decide) (by decide) (fun _ => ?_) (fun q9 => absurd rfl q9)
      · refine j_aload_n C dX5_statement_250 rfl ?_
        refine j_bipush (v := nI 98) C dX5_statement_251 (by decide) ?_
        refine cVe1 C dX5_statement_253 lMX5_93 myX5_is (ev_X5_isN (L := μ 52) (n9 := μ 38 16) (a9 := a9) rfl rfl ha h96 h255 (by decide) hle (fun q9 => hno 98 (by simp) q9)) (by omega) rc5 (Nat.le_of_ble_eq_true rfl) ?_
        refine j_if_eqN (tgt := 339) C dX5_statement_256 (by decide) (by decide) (fun _ => ?_) (fun q9 => absurd rfl q9)
        · refine j_aload_n C dX5_statement_339 rfl ?_
          refine j_bipush (v := nI 115) C dX5_statement_340 (by decide) ?_
          refine cVe1 C dX5_statement_342 lMX5_93 myX5_is (ev_X5_isY (L := μ 52) (n9 := μ 38 16) (a9 := a9) rfl rfl ha h96 h255 (by decide) hle hlt hc) (by omega) rc5 (Nat.le_of_ble_eq_true rfl) ?_
          refine j_if_eqN (tgt := 377) C dX5_statement_345 (by decide) (by decide) (fun q9 => absurd q9 (by decide)) (fun _ => ?_)
          · refine j_aload_n C dX5_statement_348 rfl ?_
            refine j_iconst (v := nI 0) C dX5_statement_349 (by decide) ?_
            refine j_iconst (v := nI 1) C dX5_statement_350 (by decide) ?_
            refine cVi2 C dX5_statement_351 lMX5_104 myX5_digits (ev_X5_digits (L := μ 52) (n9 := μ 38 16) (a9 := a9 + 1) (m9 := 1) (by rw [up_ne (by decide)]) (by rw [up_off (Or.inr (by decide))]) up_at h96 h255 (by decide) (by omega)) (by omega) rc5 (Nat.le_of_ble_eq_true rfl) (fun v_d μ_d hv_d => ?_)
            obtain ⟨w9, hF8, hd9⟩ := hv_d
            obtain ⟨rfl, hw9, hr9⟩ := DG_T (o := 1) hW (by decide) (fun q9 => by have := q9.1; have := q9.2; omega) hz hd9
            have hF9 := FD_up hF8
            have hf0 : μ_d 38 0 = μ 38 0 := hF9.2.1 0 (by decide)
            have r1 : 48 ≤ μ 52 (a9 + 1) ∧ μ 52 (a9 + 1) ≤ 57 := (hr9 0 (by omega)).1
            have v1 : μ_d 53 0 = dg (μ 52) (a9 + 1) := (hr9 0 (by omega)).2
            have d1 : dg (μ 52) (a9 + 1) ≤ 9 := dg_le r1.2
            refine j_if_neN (tgt := 359) C dX5_statement_354 (by decide) (by decide) (fun _ => ?_) (fun q9 => absurd q9 (by decide))
            · refine j_iload_n C dX5_statement_359 rfl ?_
              refine j_if_eqN (tgt := 375) C dX5_statement_360 (by decide) (by decide) (fun q9 => absurd q9 (by decide)) (fun _ => ?_)
              · refine j_aload_n C dX5_statement_363 rfl ?_
                refine g5_6 C dX5_statement_364 lFX5_25 ?_
                refine j_iconst (v := nI 5) C dX5_statement_367 (by decide) ?_
                refine j_aload_n C dX5_statement_368 rfl ?_
                refine g5_19 C dX5_statement_369 lFX5_52 ?_
                refine j_iconst (v := nI 0) C dX5_statement_372 (by decide) ?_
                refine j_iald C dX5_statement_373 iA_53 (by omega) ?_
                refine J.top (y := nI (dg (μ 52) (a9 + 1))) (congrArg nI v1) ?_
                refine j_iast C dX5_statement_374 iA_44 (by omega) ?_
                refine j_iconst (v := nI 1) C dX5_statement_375 (by decide) ?_
                exact j_iret C E dX5_statement_376 ⟨_, rfl, FT_up (by decide) (FT_of hF9), (by show μ_d 38 18 + 1 = _; rw [hF9.2.2]; exact hw9), Or.inl ⟨(ap_s (E := (sh μ 38)) hc).1.mpr d1, rfl, by rw [(ap_s (E := (sh μ 38)) hc).2, shu6]; exact EQ_up (FD_EQ hF9)⟩⟩
  · have hz : slen (μ 52 a9) = 4 := by rw [hc]; rfl
    have hno : ∀ s9, s9 ∈ [102, 117, 98, 115] → (a9 < μ 38 16 ∧ μ 52 a9 = s9) → False := fun s9 h1 h2 => by rw [hc] at h2; rw [← h2.2] at h1; revert h1; decide
    refine j_aload_n C dX5_statement_0 rfl ?_
    refine j_bipush (v := nI 102) C dX5_statement_1 (by decide) ?_
    refine cVe1 C dX5_statement_3 lMX5_93 myX5_is (ev_X5_isN (L := μ 52) (n9 := μ 38 16) (a9 := a9) rfl rfl ha h96 h255 (by decide) hle (fun q9 => hno 102 (by simp) q9)) (by omega) rc5 (Nat.le_of_ble_eq_true rfl) ?_
    refine j_if_eqN (tgt := 188) C dX5_statement_6 (by decide) (by decide) (fun _ => ?_) (fun q9 => absurd rfl q9)
    · refine j_aload_n C dX5_statement_188 rfl ?_
      refine j_bipush (v := nI 117) C dX5_statement_189 (by decide) ?_
      refine cVe1 C dX5_statement_191 lMX5_93 myX5_is (ev_X5_isN (L := μ 52) (n9 := μ 38 16) (a9 := a9) rfl rfl ha h96 h255 (by decide) hle (fun q9 => hno 117 (by simp) q9)) (by omega) rc5 (Nat.le_of_ble_eq_true rfl) ?_
      refine j_if_eqN (tgt := 250) C dX5_statement_194 (by decide) (by decide) (fun _ => ?_) (fun q9 => absurd rfl q9)
      · refine j_aload_n C dX5_statement_250 rfl ?_
        refine j_bipush (v := nI 98) C dX5_statement_251 (by decide) ?_
        refine cVe1 C dX5_statement_253 lMX5_93 myX5_is (ev_X5_isN (L := μ 52) (n9 := μ 38 16) (a9 := a9) rfl rfl ha h96 h255 (by decide) hle (fun q9 => hno 98 (by simp) q9)) (by omega) rc5 (Nat.le_of_ble_eq_true rfl) ?_
        refine j_if_eqN (tgt := 339) C dX5_statement_256 (by decide) (by decide) (fun _ => ?_) (fun q9 => absurd rfl q9)
        · refine j_aload_n C dX5_statement_339 rfl ?_
          refine j_bipush (v := nI 115) C dX5_statement_340 (by decide) ?_
          refine cVe1 C dX5_statement_342 lMX5_93 myX5_is (ev_X5_isN (L := μ 52) (n9 := μ 38 16) (a9 := a9) rfl rfl ha h96 h255 (by decide) hle (fun q9 => hno 115 (by simp) q9)) (by omega) rc5 (Nat.le_of_ble_eq_true rfl) ?_
          refine j_if_eqN (tgt := 377) C dX5_statement_345 (by decide) (by decide) (fun _ => ?_) (fun q9 => absurd rfl q9)
          · refine j_aload_n C dX5_statement_377 rfl ?_
            refine j_bipush (v := nI 103) C dX5_statement_378 (by decide) ?_
            refine cVe1 C dX5_statement_380 lMX5_93 myX5_is (ev_X5_isY (L := μ 52) (n9 := μ 38 16) (a9 := a9) rfl rfl ha h96 h255 (by decide) hle hlt hc) (by omega) rc5 (Nat.le_of_ble_eq_true rfl) ?_
            refine j_if_eqN (tgt := 443) C dX5_statement_383 (by decide) (by decide) (fun q9 => absurd q9 (by decide)) (fun _ => ?_)
            · refine j_aload_n C dX5_statement_386 rfl ?_
              refine j_iconst (v := nI 0) C dX5_statement_387 (by decide) ?_
              refine j_iconst (v := nI 2) C dX5_statement_388 (by decide) ?_
              refine cVi2 C dX5_statement_389 lMX5_104 myX5_digits (ev_X5_digits (L := μ 52) (n9 := μ 38 16) (a9 := a9 + 1) (m9 := 2) (by rw [up_ne (by decide)]) (by rw [up_off (Or.inr (by decide))]) up_at h96 h255 (by decide) (by omega)) (by omega) rc5 (Nat.le_of_ble_eq_true rfl) (fun v_d μ_d hv_d => ?_)
              obtain ⟨w9, hF8, hd9⟩ := hv_d
              obtain ⟨rfl, hw9, hr9⟩ := DG_T (o := 1) hW (by decide) (fun q9 => by have := q9.1; have := q9.2; omega) hz hd9
              have hF9 := FD_up hF8
              have hf0 : μ_d 38 0 = μ 38 0 := hF9.2.1 0 (by decide)
              have r1 : 48 ≤ μ 52 (a9 + 1) ∧ μ 52 (a9 + 1) ≤ 57 := (hr9 0 (by omega)).1
              have v1 : μ_d 53 0 = dg (μ 52) (a9 + 1) := (hr9 0 (by omega)).2
              have d1 : dg (μ 52) (a9 + 1) ≤ 9 := dg_le r1.2
              have r2 : 48 ≤ μ 52 (a9 + 2) ∧ μ 52 (a9 + 2) ≤ 57 := (hr9 1 (by omega)).1
              have v2 : μ_d 53 1 = dg (μ 52) (a9 + 2) := (hr9 1 (by omega)).2
              have d2 : dg (μ 52) (a9 + 2) ≤ 9 := dg_le r2.2
              have t1 : tw2 (μ 52) (a9 + 1) ≤ 99 := tw_le r1.2 r2.2
              have e1 : 10 * μ_d 53 0 + μ_d 53 1 = tw2 (μ 52) (a9 + 1) := by rw [v1, v2]; rfl
              refine j_if_neN (tgt := 397) C dX5_statement_392 (by decide) (by decide) (fun _ => ?_) (fun q9 => absurd q9 (by decide))
              · refine j_iload_n C dX5_statement_397 rfl ?_
                refine j_if_neN (tgt := 403) C dX5_statement_398 (by decide) (by decide) (fun _ => ?_) (fun q9 => absurd q9 (by decide))
                · refine j_aload_n C dX5_statement_403 rfl ?_
                  refine g5_19 C dX5_statement_404 lFX5_52 ?_
                  refine j_iconst (v := nI 0) C dX5_statement_407 (by decide) ?_
                  refine j_iald C dX5_statement_408 iA_53 (by omega) ?_
                  refine J.top (y := nI (dg (μ 52) (a9 + 1))) (congrArg nI v1) ?_
                  refine j_iconst (v := nI 1) C dX5_statement_409 (by decide) ?_
                  first | refine j_icmp_leN (tgt := 415) C dX5_statement_410 (by decide) (by omega) (by omega) (fun c_410 => ?_) (fun c_410 => ?_) | refine j_icmp_le (tgt := 415) C dX5_statement_410 (by decide) (fun c_410 => ?_) (fun c_410 => ?_)
                  · refine j_aload_n C dX5_statement_415 rfl ?_
                    refine g5_6 C dX5_statement_416 lFX5_25 ?_
                    refine j_bipush (v := nI 6) C dX5_statement_419 (by decide) ?_
                    refine j_aload_n C dX5_statement_421 rfl ?_
                    refine g5_19 C dX5_statement_422 lFX5_52 ?_
                    refine j_iconst (v := nI 0) C dX5_statement_425 (by decide) ?_
                    refine j_iald C dX5_statement_426 iA_53 (by omega) ?_
                    refine J.top (y := nI (dg (μ 52) (a9 + 1))) (congrArg nI v1) ?_
                    refine j_iast C dX5_statement_427 iA_44 (by omega) ?_
                    refine j_aload_n C dX5_statement_428 rfl ?_
                    refine g5_6 C dX5_statement_429 lFX5_25 ?_
                    refine j_bipush (v := nI 7) C dX5_statement_432 (by decide) ?_
                    refine j_aload_n C dX5_statement_434 rfl ?_
                    refine g5_19 C dX5_statement_435 lFX5_52 ?_
                    refine j_iconst (v := nI 1) C dX5_statement_438 (by decide) ?_
                    refine j_iald C dX5_statement_439 iA_53 (by omega) ?_
                    refine J.top (y := nI (dg (μ 52) (a9 + 2))) (congrArg nI v2) ?_
                    refine j_iast C dX5_statement_440 iA_44 (by omega) ?_
                    refine j_iconst (v := nI 1) C dX5_statement_441 (by decide) ?_
                    exact j_iret C E dX5_statement_442 ⟨_, rfl, FT_up (by decide) (FT_up (by decide) (FT_of hF9)), (by show μ_d 38 18 + 1 = _; rw [hF9.2.2]; exact hw9), Or.inl ⟨(ap_g (E := (sh μ 38)) hc).1.mpr ⟨c_410, d2⟩, rfl, by rw [(ap_g (E := (sh μ 38)) hc).2, shu6, shu6]; exact EQ_up (EQ_up (FD_EQ hF9))⟩⟩
                  · refine j_iconst (v := nI 0) C dX5_statement_413 (by decide) ?_
                    exact j_iret C E dX5_statement_414 ⟨_, rfl, FT_of hF9, (by show μ_d 38 18 + 1 = _; rw [hF9.2.2]; exact hw9), Or.inr ⟨fun q9 => by have := (ap_g (E := (sh μ 38)) hc).1.mp q9; omega, rfl⟩⟩
  · have hz : slen (μ 52 a9) = 5 := by rw [hc]; rfl
    have hno : ∀ s9, s9 ∈ [102, 117, 98, 115, 103] → (a9 < μ 38 16 ∧ μ 52 a9 = s9) → False := fun s9 h1 h2 => by rw [hc] at h2; rw [← h2.2] at h1; revert h1; decide
    refine j_aload_n C dX5_statement_0 rfl ?_
    refine j_bipush (v := nI 102) C dX5_statement_1 (by decide) ?_
    refine cVe1 C dX5_statement_3 lMX5_93 myX5_is (ev_X5_isN (L := μ 52) (n9 := μ 38 16) (a9 := a9) rfl rfl ha h96 h255 (by decide) hle (fun q9 => hno 102 (by simp) q9)) (by omega) rc5 (Nat.le_of_ble_eq_true rfl) ?_
    refine j_if_eqN (tgt := 188) C dX5_statement_6 (by decide) (by decide) (fun _ => ?_) (fun q9 => absurd rfl q9)
    · refine j_aload_n C dX5_statement_188 rfl ?_
      refine j_bipush (v := nI 117) C dX5_statement_189 (by decide) ?_
      refine cVe1 C dX5_statement_191 lMX5_93 myX5_is (ev_X5_isN (L := μ 52) (n9 := μ 38 16) (a9 := a9) rfl rfl ha h96 h255 (by decide) hle (fun q9 => hno 117 (by simp) q9)) (by omega) rc5 (Nat.le_of_ble_eq_true rfl) ?_
      refine j_if_eqN (tgt := 250) C dX5_statement_194 (by decide) (by decide) (fun _ => ?_) (fun q9 => absurd rfl q9)
      · refine j_aload_n C dX5_statement_250 rfl ?_
        refine j_bipush (v := nI 98) C dX5_statement_251 (by decide) ?_
        refine cVe1 C dX5_statement_253 lMX5_93 myX5_is (ev_X5_isN (L := μ 52) (n9 := μ 38 16) (a9 := a9) rfl rfl ha h96 h255 (by decide) hle (fun q9 => hno 98 (by simp) q9)) (by omega) rc5 (Nat.le_of_ble_eq_true rfl) ?_
        refine j_if_eqN (tgt := 339) C dX5_statement_256 (by decide) (by decide) (fun _ => ?_) (fun q9 => absurd rfl q9)
        · refine j_aload_n C dX5_statement_339 rfl ?_
          refine j_bipush (v := nI 115) C dX5_statement_340 (by decide) ?_
          refine cVe1 C dX5_statement_342 lMX5_93 myX5_is (ev_X5_isN (L := μ 52) (n9 := μ 38 16) (a9 := a9) rfl rfl ha h96 h255 (by decide) hle (fun q9 => hno 115 (by simp) q9)) (by omega) rc5 (Nat.le_of_ble_eq_true rfl) ?_
          refine j_if_eqN (tgt := 377) C dX5_statement_345 (by decide) (by decide) (fun _ => ?_) (fun q9 => absurd rfl q9)
          · refine j_aload_n C dX5_statement_377 rfl ?_
            refine j_bipush (v := nI 103) C dX5_statement_378 (by decide) ?_
            refine cVe1 C dX5_statement_380 lMX5_93 myX5_is (ev_X5_isN (L := μ 52) (n9 := μ 38 16) (a9 := a9) rfl rfl ha h96 h255 (by decide) hle (fun q9 => hno 103 (by simp) q9)) (by omega) rc5 (Nat.le_of_ble_eq_true rfl) ?_
            refine j_if_eqN (tgt := 443) C dX5_statement_383 (by decide) (by decide) (fun _ => ?_) (fun q9 => absurd rfl q9)
            · refine j_aload_n C dX5_statement_443 rfl ?_
              refine j_bipush (v := nI 114) C dX5_statement_444 (by decide) ?_
              refine cVe1 C dX5_statement_446 lMX5_93 myX5_is (ev_X5_isY (L := μ 52) (n9 := μ 38 16) (a9 := a9) rfl rfl ha h96 h255 (by decide) hle hlt hc) (by omega) rc5 (Nat.le_of_ble_eq_true rfl) ?_
              refine j_if_eqN (tgt := 518) C dX5_statement_449 (by decide) (by decide) (fun q9 => absurd q9 (by decide)) (fun _ => ?_)
              · refine j_aload_n C dX5_statement_452 rfl ?_
                refine j_iconst (v := nI 0) C dX5_statement_453 (by decide) ?_
                refine j_iconst (v := nI 3) C dX5_statement_454 (by decide) ?_
                refine cVi2 C dX5_statement_455 lMX5_104 myX5_digits (ev_X5_digits (L := μ 52) (n9 := μ 38 16) (a9 := a9 + 1) (m9 := 3) (by rw [up_ne (by decide)]) (by rw [up_off (Or.inr (by decide))]) up_at h96 h255 (by decide) (by omega)) (by omega) rc5 (Nat.le_of_ble_eq_true rfl) (fun v_d μ_d hv_d => ?_)
                obtain ⟨w9, hF8, hd9⟩ := hv_d
                obtain ⟨rfl, hw9, hr9⟩ := DG_T (o := 1) hW (by decide) (fun q9 => by have := q9.1; have := q9.2; omega) hz hd9
                have hF9 := FD_up hF8
                have hf0 : μ_d 38 0 = μ 38 0 := hF9.2.1 0 (by decide)
                have r1 : 48 ≤ μ 52 (a9 + 1) ∧ μ 52 (a9 + 1) ≤ 57 := (hr9 0 (by omega)).1
                have v1 : μ_d 53 0 = dg (μ 52) (a9 + 1) := (hr9 0 (by omega)).2
                have d1 : dg (μ 52) (a9 + 1) ≤ 9 := dg_le r1.2
                have r2 : 48 ≤ μ 52 (a9 + 2) ∧ μ 52 (a9 + 2) ≤ 57 := (hr9 1 (by omega)).1
                have v2 : μ_d 53 1 = dg (μ 52) (a9 + 2) := (hr9 1 (by omega)).2
                have d2 : dg (μ 52) (a9 + 2) ≤ 9 := dg_le r2.2
                have r3 : 48 ≤ μ 52 (a9 + 3) ∧ μ 52 (a9 + 3) ≤ 57 := (hr9 2 (by omega)).1
                have v3 : μ_d 53 2 = dg (μ 52) (a9 + 3) := (hr9 2 (by omega)).2
                have d3 : dg (μ 52) (a9 + 3) ≤ 9 := dg_le r3.2
                have t1 : tw2 (μ 52) (a9 + 1) ≤ 99 := tw_le r1.2 r2.2
                have e1 : 10 * μ_d 53 0 + μ_d 53 1 = tw2 (μ 52) (a9 + 1) := by rw [v1, v2]; rfl
                have t2 : tw2 (μ 52) (a9 + 2) ≤ 99 := tw_le r2.2 r3.2
                have e2 : 10 * μ_d 53 1 + μ_d 53 2 = tw2 (μ 52) (a9 + 2) := by rw [v2, v3]; rfl
                refine j_if_neN (tgt := 463) C dX5_statement_458 (by decide) (by decide) (fun _ => ?_) (fun q9 => absurd q9 (by decide))
                · refine j_iload_n C dX5_statement_463 rfl ?_
                  refine j_if_neN (tgt := 469) C dX5_statement_464 (by decide) (by decide) (fun _ => ?_) (fun q9 => absurd q9 (by decide))
                  · refine j_aload_n C dX5_statement_469 rfl ?_
                    refine g5_19 C dX5_statement_470 lFX5_52 ?_
                    refine j_iconst (v := nI 0) C dX5_statement_473 (by decide) ?_
                    refine j_iald C dX5_statement_474 iA_53 (by omega) ?_
                    refine J.top (y := nI (dg (μ 52) (a9 + 1))) (congrArg nI v1) ?_
                    refine j_iconst (v := nI 2) C dX5_statement_475 (by decide) ?_
                    first | refine j_icmp_gtN (tgt := 489) C dX5_statement_476 (by decide) (by omega) (by omega) (fun c_476 => ?_) (fun c_476 => ?_) | refine j_icmp_gt (tgt := 489) C dX5_statement_476 (by decide) (fun c_476 => ?_) (fun c_476 => ?_)
                    · refine j_iconst (v := nI 0) C dX5_statement_489 (by decide) ?_
                      exact j_iret C E dX5_statement_490 ⟨_, rfl, FT_of hF9, (by show μ_d 38 18 + 1 = _; rw [hF9.2.2]; exact hw9), Or.inr ⟨fun q9 => by have := (ap_r (E := (sh μ 38)) hc).1.mp q9; omega, rfl⟩⟩
                    · refine j_aload_n C dX5_statement_479 rfl ?_
                      refine j_iconst (v := nI 1) C dX5_statement_480 (by decide) ?_
                      refine cVe1 C dX5_statement_481 lMX5_108 myX5_two (ev_X5_two (by decide)) (by omega) rc5 (Nat.le_of_ble_eq_true rfl) ?_
                      refine J.top (y := nI (tw2 (μ 52) (a9 + 2))) (congrArg nI e2) ?_
                      refine j_bipush (v := nI 20) C dX5_statement_484 (by decide) ?_
                      first | refine j_icmp_leN (tgt := 491) C dX5_statement_486 (by decide) (by omega) (by omega) (fun c_486 => ?_) (fun c_486 => ?_) | refine j_icmp_le (tgt := 491) C dX5_statement_486 (by decide) (fun c_486 => ?_) (fun c_486 => ?_)
                      · refine j_aload_n C dX5_statement_491 rfl ?_
                        refine g5_6 C dX5_statement_492 lFX5_25 ?_
                        refine j_bipush (v := nI 8) C dX5_statement_495 (by decide) ?_
                        refine j_aload_n C dX5_statement_497 rfl ?_
                        refine g5_19 C dX5_statement_498 lFX5_52 ?_
                        refine j_iconst (v := nI 0) C dX5_statement_501 (by decide) ?_
                        refine j_iald C dX5_statement_502 iA_53 (by omega) ?_
                        refine J.top (y := nI (dg (μ 52) (a9 + 1))) (congrArg nI v1) ?_
                        refine j_iast C dX5_statement_503 iA_44 (by omega) ?_
                        refine j_aload_n C dX5_statement_504 rfl ?_
                        refine g5_6 C dX5_statement_505 lFX5_25 ?_
                        refine j_bipush (v := nI 9) C dX5_statement_508 (by decide) ?_
                        refine j_aload_n C dX5_statement_510 rfl ?_
                        refine j_iconst (v := nI 1) C dX5_statement_511 (by decide) ?_
                        refine cVe1 C dX5_statement_512 lMX5_108 myX5_two (ev_X5_two (by decide)) (by omega) rc5 (Nat.le_of_ble_eq_true rfl) ?_
                        refine J.top (y := nI (tw2 (μ 52) (a9 + 2))) (congrArg nI e2) ?_
                        refine j_iast C dX5_statement_515 iA_44 (by omega) ?_
                        refine j_iconst (v := nI 1) C dX5_statement_516 (by decide) ?_
                        exact j_iret C E dX5_statement_517 ⟨_, rfl, FT_up (by decide) (FT_up (by decide) (FT_of hF9)), (by show μ_d 38 18 + 1 = _; rw [hF9.2.2]; exact hw9), Or.inl ⟨(ap_r (E := (sh μ 38)) hc).1.mpr ⟨by omega, c_486⟩, rfl, by rw [(ap_r (E := (sh μ 38)) hc).2, shu6, shu6]; exact EQ_up (EQ_up (FD_EQ hF9))⟩⟩
                      · refine j_iconst (v := nI 0) C dX5_statement_489 (by decide) ?_
                        exact j_iret C E dX5_statement_490 ⟨_, rfl, FT_of hF9, (by show μ_d 38 18 + 1 = _; rw [hF9.2.2]; exact hw9), Or.inr ⟨fun q9 => by have := (ap_r (E := (sh μ 38)) hc).1.mp q9; omega, rfl⟩⟩
  · have hz : slen (μ 52 a9) = 4 := by rw [hc]; rfl
    have hno : ∀ s9, s9 ∈ [102, 117, 98, 115, 103, 114] → (a9 < μ 38 16 ∧ μ 52 a9 = s9) → False := fun s9 h1 h2 => by rw [hc] at h2; rw [← h2.2] at h1; revert h1; decide
    refine j_aload_n C dX5_statement_0 rfl ?_
    refine j_bipush (v := nI 102) C dX5_statement_1 (by decide) ?_
    refine cVe1 C dX5_statement_3 lMX5_93 myX5_is (ev_X5_isN (L := μ 52) (n9 := μ 38 16) (a9 := a9) rfl rfl ha h96 h255 (by decide) hle (fun q9 => hno 102 (by simp) q9)) (by omega) rc5 (Nat.le_of_ble_eq_true rfl) ?_
    refine j_if_eqN (tgt := 188) C dX5_statement_6 (by decide) (by decide) (fun _ => ?_) (fun q9 => absurd rfl q9)
    · refine j_aload_n C dX5_statement_188 rfl ?_
      refine j_bipush (v := nI 117) C dX5_statement_189 (by decide) ?_
      refine cVe1 C dX5_statement_191 lMX5_93 myX5_is (ev_X5_isN (L := μ 52) (n9 := μ 38 16) (a9 := a9) rfl rfl ha h96 h255 (by decide) hle (fun q9 => hno 117 (by simp) q9)) (by omega) rc5 (Nat.le_of_ble_eq_true rfl) ?_
      refine j_if_eqN (tgt := 250) C dX5_statement_194 (by decide) (by decide) (fun _ => ?_) (fun q9 => absurd rfl q9)
      · refine j_aload_n C dX5_statement_250 rfl ?_
        refine j_bipush (v := nI 98) C dX5_statement_251 (by decide) ?_
        refine cVe1 C dX5_statement_253 lMX5_93 myX5_is (ev_X5_isN (L := μ 52) (n9 := μ 38 16) (a9 := a9) rfl rfl ha h96 h255 (by decide) hle (fun q9 => hno 98 (by simp) q9)) (by omega) rc5 (Nat.le_of_ble_eq_true rfl) ?_
        refine j_if_eqN (tgt := 339) C dX5_statement_256 (by decide) (by decide) (fun _ => ?_) (fun q9 => absurd rfl q9)
        · refine j_aload_n C dX5_statement_339 rfl ?_
          refine j_bipush (v := nI 115) C dX5_statement_340 (by decide) ?_
          refine cVe1 C dX5_statement_342 lMX5_93 myX5_is (ev_X5_isN (L := μ 52) (n9 := μ 38 16) (a9 := a9) rfl rfl ha h96 h255 (by decide) hle (fun q9 => hno 115 (by simp) q9)) (by omega) rc5 (Nat.le_of_ble_eq_true rfl) ?_
          refine j_if_eqN (tgt := 377) C dX5_statement_345 (by decide) (by decide) (fun _ => ?_) (fun q9 => absurd rfl q9)
          · refine j_aload_n C dX5_statement_377 rfl ?_
            refine j_bipush (v := nI 103) C dX5_statement_378 (by decide) ?_
            refine cVe1 C dX5_statement_380 lMX5_93 myX5_is (ev_X5_isN (L := μ 52) (n9 := μ 38 16) (a9 := a9) rfl rfl ha h96 h255 (by decide) hle (fun q9 => hno 103 (by simp) q9)) (by omega) rc5 (Nat.le_of_ble_eq_true rfl) ?_
            refine j_if_eqN (tgt := 443) C dX5_statement_383 (by decide) (by decide) (fun _ => ?_) (fun q9 => absurd rfl q9)
            · refine j_aload_n C dX5_statement_443 rfl ?_
              refine j_bipush (v := nI 114) C dX5_statement_444 (by decide) ?_
              refine cVe1 C dX5_statement_446 lMX5_93 myX5_is (ev_X5_isN (L := μ 52) (n9 := μ 38 16) (a9 := a9) rfl rfl ha h96 h255 (by decide) hle (fun q9 => hno 114 (by simp) q9)) (by omega) rc5 (Nat.le_of_ble_eq_true rfl) ?_
              refine j_if_eqN (tgt := 518) C dX5_statement_449 (by decide) (by decide) (fun _ => ?_) (fun q9 => absurd rfl q9)
              · refine j_aload_n C dX5_statement_518 rfl ?_
                refine j_bipush (v := nI 120) C dX5_statement_519 (by decide) ?_
                refine cVe1 C dX5_statement_521 lMX5_93 myX5_is (ev_X5_isY (L := μ 52) (n9 := μ 38 16) (a9 := a9) rfl rfl ha h96 h255 (by decide) hle hlt hc) (by omega) rc5 (Nat.le_of_ble_eq_true rfl) ?_
                refine j_if_eqN (tgt := 536) C dX5_statement_524 (by decide) (by decide) (fun q9 => absurd q9 (by decide)) (fun _ => ?_)
                · refine j_aload_n C dX5_statement_527 rfl ?_
                  refine j_iconst (v := nI 0) C dX5_statement_528 (by decide) ?_
                  refine j_iconst (v := nI 2) C dX5_statement_529 (by decide) ?_
                  refine cVi2 C dX5_statement_530 lMX5_104 myX5_digits (ev_X5_digits (L := μ 52) (n9 := μ 38 16) (a9 := a9 + 1) (m9 := 2) (by rw [up_ne (by decide)]) (by rw [up_off (Or.inr (by decide))]) up_at h96 h255 (by decide) (by omega)) (by omega) rc5 (Nat.le_of_ble_eq_true rfl) (fun v_d μ_d hv_d => ?_)
                  obtain ⟨w9, hF8, hd9⟩ := hv_d
                  obtain ⟨rfl, hw9, hr9⟩ := DG_T (o := 1) hW (by decide) (fun q9 => by have := q9.1; have := q9.2; omega) hz hd9
                  have hF9 := FD_up hF8
                  have hf0 : μ_d 38 0 = μ 38 0 := hF9.2.1 0 (by decide)
                  have r1 : 48 ≤ μ 52 (a9 + 1) ∧ μ 52 (a9 + 1) ≤ 57 := (hr9 0 (by omega)).1
                  have v1 : μ_d 53 0 = dg (μ 52) (a9 + 1) := (hr9 0 (by omega)).2
                  have d1 : dg (μ 52) (a9 + 1) ≤ 9 := dg_le r1.2
                  have r2 : 48 ≤ μ 52 (a9 + 2) ∧ μ 52 (a9 + 2) ≤ 57 := (hr9 1 (by omega)).1
                  have v2 : μ_d 53 1 = dg (μ 52) (a9 + 2) := (hr9 1 (by omega)).2
                  have d2 : dg (μ 52) (a9 + 2) ≤ 9 := dg_le r2.2
                  have t1 : tw2 (μ 52) (a9 + 1) ≤ 99 := tw_le r1.2 r2.2
                  have e1 : 10 * μ_d 53 0 + μ_d 53 1 = tw2 (μ 52) (a9 + 1) := by rw [v1, v2]; rfl
                  refine j_if_neN (tgt := 538) C dX5_statement_533 (by decide) (by decide) (fun _ => ?_) (fun q9 => absurd q9 (by decide))
                  · refine j_iload_n C dX5_statement_538 rfl ?_
                    refine j_if_neN (tgt := 544) C dX5_statement_539 (by decide) (by decide) (fun _ => ?_) (fun q9 => absurd q9 (by decide))
                    · refine j_aload_n C dX5_statement_544 rfl ?_
                      refine j_aload_n C dX5_statement_545 rfl ?_
                      refine g5_19 C dX5_statement_546 lFX5_52 ?_
                      refine j_iconst (v := nI 0) C dX5_statement_549 (by decide) ?_
                      refine j_iald C dX5_statement_550 iA_53 (by omega) ?_
                      refine J.top (y := nI (dg (μ 52) (a9 + 1))) (congrArg nI v1) ?_
                      refine cVe1 C dX5_statement_551 lMX5_111 myX5_isFloor (ev_X5_isFloor (by rw [hf0]; exact h06)) (by omega) rc5 (Nat.le_of_ble_eq_true rfl) ?_
                      first | refine j_if_eqB (tgt := 585) C dX5_statement_554 (by decide) (fun c_554 => ?_) (fun c_554 => ?_) | refine j_if_eqN (tgt := 585) C dX5_statement_554 (by decide) (by omega) (fun c_554 => ?_) (fun c_554 => ?_) | refine j_if_eq (tgt := 585) C dX5_statement_554 (by decide) (fun c_554 => ?_) (fun c_554 => ?_)
                      · have hb9 : ¬ dg (μ 52) (a9 + 1) < μ 38 0 := fun q9 => c_554 ((isFl_nI (by omega) (by omega)).mpr (by rw [hf0]; exact q9))
                        refine j_iconst (v := nI 0) C dX5_statement_585 (by decide) ?_
                        exact j_iret C E dX5_statement_586 (by
                              first
                              | exact ⟨_, rfl, FT_of hF9, (by show μ_d 38 18 + 1 = _; rw [hF9.2.2]; exact hw9), Or.inr ⟨fun q9 => hb9 ((ap_x (E := (sh μ 38)) hc).1.mp q9).1, rfl⟩⟩
                              | exact ⟨_, rfl, FT_of hF9, (by show μ_d 38 18 + 1 = _; rw [hF9.2.2]; exact hw9), Or.inr ⟨fun q9 => hb8 ((ap_x (E := (sh μ 38)) hc).1.mp q9).2.1, rfl⟩⟩
                              | exact ⟨_, rfl, FT_of hF9, (by show μ_d 38 18 + 1 = _; rw [hF9.2.2]; exact hw9), Or.inr ⟨fun q9 => ((ap_x (E := (sh μ 38)) hc).1.mp q9).2.2 c_582, rfl⟩⟩)
                      · have hb9 : dg (μ 52) (a9 + 1) < μ 38 0 := by rw [← hf0]; exact (isFl_nI (by omega) (by omega)).mp c_554
                        refine j_aload_n C dX5_statement_557 rfl ?_
                        refine j_aload_n C dX5_statement_558 rfl ?_
                        refine g5_19 C dX5_statement_559 lFX5_52 ?_
                        refine j_iconst (v := nI 1) C dX5_statement_562 (by decide) ?_
                        refine j_iald C dX5_statement_563 iA_53 (by omega) ?_
                        refine J.top (y := nI (dg (μ 52) (a9 + 2))) (congrArg nI v2) ?_
                        refine cVe1 C dX5_statement_564 lMX5_111 myX5_isFloor (ev_X5_isFloor (by rw [hf0]; exact h06)) (by omega) rc5 (Nat.le_of_ble_eq_true rfl) ?_
                        first | refine j_if_eqB (tgt := 585) C dX5_statement_567 (by decide) (fun c_567 => ?_) (fun c_567 => ?_) | refine j_if_eqN (tgt := 585) C dX5_statement_567 (by decide) (by omega) (fun c_567 => ?_) (fun c_567 => ?_) | refine j_if_eq (tgt := 585) C dX5_statement_567 (by decide) (fun c_567 => ?_) (fun c_567 => ?_)
                        · have hb8 : ¬ dg (μ 52) (a9 + 2) < μ 38 0 := fun q9 => c_567 ((isFl_nI (by omega) (by omega)).mpr (by rw [hf0]; exact q9))
                          refine j_iconst (v := nI 0) C dX5_statement_585 (by decide) ?_
                          exact j_iret C E dX5_statement_586 (by
                                first
                                | exact ⟨_, rfl, FT_of hF9, (by show μ_d 38 18 + 1 = _; rw [hF9.2.2]; exact hw9), Or.inr ⟨fun q9 => hb9 ((ap_x (E := (sh μ 38)) hc).1.mp q9).1, rfl⟩⟩
                                | exact ⟨_, rfl, FT_of hF9, (by show μ_d 38 18 + 1 = _; rw [hF9.2.2]; exact hw9), Or.inr ⟨fun q9 => hb8 ((ap_x (E := (sh μ 38)) hc).1.mp q9).2.1, rfl⟩⟩
                                | exact ⟨_, rfl, FT_of hF9, (by show μ_d 38 18 + 1 = _; rw [hF9.2.2]; exact hw9), Or.inr ⟨fun q9 => ((ap_x (E := (sh μ 38)) hc).1.mp q9).2.2 c_582, rfl⟩⟩)
                        · have hb8 : dg (μ 52) (a9 + 2) < μ 38 0 := by rw [← hf0]; exact (isFl_nI (by omega) (by omega)).mp c_567
                          refine j_aload_n C dX5_statement_570 rfl ?_
                          refine g5_19 C dX5_statement_571 lFX5_52 ?_
                          refine j_iconst (v := nI 0) C dX5_statement_574 (by decide) ?_
                          refine j_iald C dX5_statement_575 iA_53 (by omega) ?_
                          refine J.top (y := nI (dg (μ 52) (a9 + 1))) (congrArg nI v1) ?_
                          refine j_aload_n C dX5_statement_576 rfl ?_
                          refine g5_19 C dX5_statement_577 lFX5_52 ?_
                          refine j_iconst (v := nI 1) C dX5_statement_580 (by decide) ?_
                          refine j_iald C dX5_statement_581 iA_53 (by omega) ?_
                          refine J.top (y := nI (dg (μ 52) (a9 + 2))) (congrArg nI v2) ?_
                          first | refine j_icmp_neN (tgt := 587) C dX5_statement_582 (by decide) (by omega) (by omega) (fun c_582 => ?_) (fun c_582 => ?_) | refine j_icmp_ne (tgt := 587) C dX5_statement_582 (by decide) (fun c_582 => ?_) (fun c_582 => ?_)
                          · refine j_aload_n C dX5_statement_587 rfl ?_
                            refine j_aload_n C dX5_statement_588 rfl ?_
                            refine g5_19 C dX5_statement_589 lFX5_52 ?_
                            refine j_iconst (v := nI 0) C dX5_statement_592 (by decide) ?_
                            refine j_iald C dX5_statement_593 iA_53 (by omega) ?_
                            refine J.top (y := nI (dg (μ 52) (a9 + 1))) (congrArg nI v1) ?_
                            refine j_aload_n C dX5_statement_594 rfl ?_
                            refine g5_19 C dX5_statement_595 lFX5_52 ?_
                            refine j_iconst (v := nI 1) C dX5_statement_598 (by decide) ?_
                            refine j_iald C dX5_statement_599 iA_53 (by omega) ?_
                            refine J.top (y := nI (dg (μ 52) (a9 + 2))) (congrArg nI v2) ?_
                            refine cVe2 C dX5_statement_600 lMX5_114 myX5_swap (ev_X5_swap (EI.eq (FD_EQ hF9).symm hE) (PI5.eq (FD_EQ hF9).symm hE hP) (by rw [hf0]; exact hb9) (by rw [hf0]; exact hb8) c_582) (by omega) rc5 (Nat.le_of_ble_eq_true rfl) ?_
                            refine j_pop C dX5_statement_603 rfl ?_
                            refine j_iconst (v := nI 1) C dX5_statement_604 (by decide) ?_
                            exact j_iret C E dX5_statement_605 ⟨_, rfl, FT_r43 (FT_of hF9), (by show μ_d 38 18 + 1 = _; rw [hF9.2.2]; exact hw9), Or.inl ⟨(ap_x (E := (sh μ 38)) hc).1.mpr ⟨hb9, hb8, c_582⟩, rfl, by rw [(ap_x (E := (sh μ 38)) hc).2, sh_row43, hF9.1 43 (by decide) (by decide), hf0]; exact EQ_row5 (FD_EQ hF9)⟩⟩
                          · refine j_iconst (v := nI 0) C dX5_statement_585 (by decide) ?_
                            exact j_iret C E dX5_statement_586 (by
                                  first
                                  | exact ⟨_, rfl, FT_of hF9, (by show μ_d 38 18 + 1 = _; rw [hF9.2.2]; exact hw9), Or.inr ⟨fun q9 => hb9 ((ap_x (E := (sh μ 38)) hc).1.mp q9).1, rfl⟩⟩
                                  | exact ⟨_, rfl, FT_of hF9, (by show μ_d 38 18 + 1 = _; rw [hF9.2.2]; exact hw9), Or.inr ⟨fun q9 => hb8 ((ap_x (E := (sh μ 38)) hc).1.mp q9).2.1, rfl⟩⟩
                                  | exact ⟨_, rfl, FT_of hF9, (by show μ_d 38 18 + 1 = _; rw [hF9.2.2]; exact hw9), Or.inr ⟨fun q9 => ((ap_x (E := (sh μ 38)) hc).1.mp q9).2.2 c_582, rfl⟩⟩)
