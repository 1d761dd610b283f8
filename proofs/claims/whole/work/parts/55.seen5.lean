-- THE REFERENCE READS: a statement, seen only
/-- what a statement that is seen only tells: it stands, but for its end, w being there; or w is the first wrong place -/
def SF (L : Nat → Nat) (n a : Nat) (v : Int32) (w : Nat) : Prop :=
  (v = nI 1 ∧ a < n ∧ 0 < slen (L a) ∧ w + 1 = a + slen (L a) ∧ w ≤ n ∧ ∀ i, 1 ≤ i → i + 1 < slen (L a) → mayS L a i (slen (L a))) ∨
  (v = -1 ∧ ((¬ (a < n ∧ 0 < slen (L a)) ∧ w = a) ∨ (a < n ∧ 0 < slen (L a) ∧ ∃ i, 1 ≤ i ∧ i + 1 < slen (L a) ∧ w = a + i ∧ w ≤ n ∧ (∀ j, 1 ≤ j → j < i → mayS L a j (slen (L a))) ∧ (w = n ∨ ¬ mayS L a i (slen (L a))))))
theorem SF_dig {L : Nat → Nat} {n a o m w : Nat} {v : Int32} {D : Nat → Nat} (ho : (o = 1 ∧ L a ≠ 102) ∨ (o = 2 ∧ L a = 102 ∧ isKd (L (a + 1)))) (hz : slen (L a) = o + m + 1) (ha : a < n) (h : DG L n (a + o) m v w D) : (v = nI 1 ∧ SF L n a (nI 1) w) ∨ (v = nI 0 ∧ SF L n a (-1) w) := by
  have hm : ∀ i, 1 ≤ i → i < o → mayS L a i (slen (L a)) := fun i h1 h2 => by
    rcases ho with ⟨e, _⟩ | ⟨e, q1, q2⟩
    · omega
    · have : i = 1 := by omega
      subst this
      exact (mayS_kind (by omega) ⟨rfl, q1⟩).mpr q2
  have hd : ∀ i, o ≤ i → i < o + m → (mayS L a i (slen (L a)) ↔ (48 ≤ L (a + i) ∧ L (a + i) ≤ 57)) := fun i h1 h2 => mayS_dig (by omega) (fun q => by
    rcases ho with ⟨e, q3⟩ | ⟨e, q1, q2⟩
    · exact q3 q.2
    · omega)
  have ho1 : 1 ≤ o ∧ o ≤ 2 := by omega
  rcases h with ⟨h1, h2, h3, h4⟩ | ⟨h1, j, h2, h3, h4, h5, h6⟩
  · refine Or.inl ⟨h1, Or.inl ⟨rfl, ha, by omega, by omega, h3, fun i i1 i2 => ?_⟩⟩
    by_cases q : i < o
    · exact hm i i1 q
    · have := (h4 (i - o) (by omega)).1
      rw [show a + o + (i - o) = a + i by omega] at this
      exact (hd i (by omega) (by omega)).mpr this
  · refine Or.inr ⟨h1, Or.inr ⟨rfl, Or.inr ⟨ha, by omega, o + j, by omega, by omega, by omega, h4, fun i i1 i2 => ?_, ?_⟩⟩⟩
    · by_cases q : i < o
      · exact hm i i1 q
      · have := h5 (i - o) (by omega)
        rw [show a + o + (i - o) = a + i by omega] at this
        exact (hd i (by omega) (by omega)).mpr this
    · rcases h6 with h6 | h6
      · exact Or.inl h6
      · refine Or.inr (fun q => h6 ?_)
        have := (hd (o + j) (by omega) (by omega)).mp q
        rw [show w = a + (o + j) by omega]
        exact this
set_option maxRecDepth 100000 in
set_option maxHeartbeats 4000000 in
theorem ev_X5_stF {G : GX} {a9 : Nat} {μ : Mem} (ha : μ 38 18 = a9) (h96 : μ 38 16 ≤ 96) (h255 : ∀ j, j < 96 → μ 52 j ≤ 255) (hle : a9 ≤ μ 38 16) : Ev G mX5_statement 4 [rf G 38, .int (nI 0)] μ (PI (fun v μ' => ∃ w, FD μ μ' w ∧ SF (μ 52) (μ 38 16) a9 v w)) := by
  refine Ev.of (own := RX5) (n := 1) (by decide) rfl rfl (catOK rfl) (fun X C E => ?_)
  show J G X 0 [some _, some _, none] [] _
  by_cases hin : a9 < μ 38 16 ∧ 0 < slen (μ 52 a9)
  · obtain ⟨hlt, hsl⟩ := hin
    rcases slen_0.mp hsl with hc | hc | hc | hc | hc | hc | hc
    · have hz : slen (μ 52 a9) = 7 := by rw [hc]; rfl
      have hno : ∀ s9, s9 ∈ [] → (a9 < μ 38 16 ∧ μ 52 a9 = s9) → False := fun s9 h1 h2 => by rw [hc] at h2; rw [← h2.2] at h1; revert h1; decide
      refine j_aload_n C dX5_statement_0 rfl ?_
      refine j_bipush (v := nI 102) C dX5_statement_1 (by decide) ?_
      refine cVe1 C dX5_statement_3 lMX5_93 myX5_is (ev_X5_isY (L := μ 52) (n9 := μ 38 16) (a9 := a9) rfl rfl ha h96 h255 (by decide) hle hlt hc) (by omega) rc5 (Nat.le_of_ble_eq_true rfl) ?_
      refine j_if_eqN (tgt := 188) C dX5_statement_6 (by decide) (by decide) (fun q9 => absurd q9 (by decide)) (fun _ => ?_)
      · refine j_aload_n C dX5_statement_9 rfl ?_
        refine g5_18 C dX5_statement_10 lFX5_90 ?_
        refine J.top (y := nI (a9 + 1)) (by rw [up_at]) ?_
        refine j_aload_n C dX5_statement_13 rfl ?_
        refine g5_16 C dX5_statement_14 lFX5_87 ?_
        refine J.top (y := nI (μ 38 16)) (by rw [up_off (Or.inr (by decide))]) ?_
        first | refine j_icmp_geN (tgt := 49) C dX5_statement_17 (by decide) (by omega) (by omega) (fun c_17 => ?_) (fun c_17 => ?_) | refine j_icmp_ge (tgt := 49) C dX5_statement_17 (by decide) (fun c_17 => ?_) (fun c_17 => ?_)
        · have hk9 : μ 38 16 ≤ a9 + 1 := by omega
          refine j_iconst (v := (-1)) C dX5_statement_49 (by decide) ?_
          refine J.top (y := -1) rfl ?_
          refine sn2 C dX5_statement_50 rfl ?_
          refine j_iload_n C dX5_statement_51 rfl ?_
          refine j_if_ge (tgt := 57) C dX5_statement_52 (by decide) (fun q9 => absurd q9 (by decide)) (fun _ => ?_)
          · refine j_iconst (v := (-1)) C dX5_statement_55 (by decide) ?_
            exact j_iret C E dX5_statement_56 (by
                    first
                    | exact ⟨_, rfl, a9 + 1, FD_at, Or.inr ⟨rfl, Or.inr ⟨hlt, hsl, 1, by omega, by omega, rfl, by omega, fun j h1 h2 => absurd h1 (by omega), Or.inl (by omega)⟩⟩⟩
                    | exact ⟨_, rfl, a9 + 1, FD_at, Or.inr ⟨rfl, Or.inr ⟨hlt, hsl, 1, by omega, by omega, rfl, by omega, fun j h1 h2 => absurd h1 (by omega), Or.inr (fun q9 => hk9 ((mayS_kind (by omega) ⟨rfl, hc⟩).mp q9))⟩⟩⟩)
        · have hb9 := h255 (a9 + 1) (by omega)
          refine j_aload_n C dX5_statement_20 rfl ?_
          refine g5_17 C dX5_statement_21 lFX5_49 ?_
          refine j_aload_n C dX5_statement_24 rfl ?_
          refine g5_18 C dX5_statement_25 lFX5_90 ?_
          refine J.top (y := nI (a9 + 1)) (by rw [up_at]) ?_
          refine j_iald C dX5_statement_28 iA_52 (by omega) ?_
          refine J.top (y := nI (μ 52 (a9 + 1))) (by rw [up_ne (by decide)]) ?_
          refine j_if_leN (tgt := 49) C dX5_statement_29 (by decide) (by omega) (fun c_29 => ?_) (fun c_29 => ?_)
          · have hk9 : ¬ isKd (μ 52 (a9 + 1)) := fun q9 => by unfold isKd at q9; omega
            refine j_iconst (v := (-1)) C dX5_statement_49 (by decide) ?_
            refine J.top (y := -1) rfl ?_
            refine sn2 C dX5_statement_50 rfl ?_
            refine j_iload_n C dX5_statement_51 rfl ?_
            refine j_if_ge (tgt := 57) C dX5_statement_52 (by decide) (fun q9 => absurd q9 (by decide)) (fun _ => ?_)
            · refine j_iconst (v := (-1)) C dX5_statement_55 (by decide) ?_
              exact j_iret C E dX5_statement_56 (by
                      first
                      | exact ⟨_, rfl, a9 + 1, FD_at, Or.inr ⟨rfl, Or.inr ⟨hlt, hsl, 1, by omega, by omega, rfl, by omega, fun j h1 h2 => absurd h1 (by omega), Or.inl (by omega)⟩⟩⟩
                      | exact ⟨_, rfl, a9 + 1, FD_at, Or.inr ⟨rfl, Or.inr ⟨hlt, hsl, 1, by omega, by omega, rfl, by omega, fun j h1 h2 => absurd h1 (by omega), Or.inr (fun q9 => hk9 ((mayS_kind (by omega) ⟨rfl, hc⟩).mp q9))⟩⟩⟩)
          · refine j_ldcS C rfl dX5_statement_32 ?_
            refine j_aload_n C dX5_statement_34 rfl ?_
            refine g5_17 C dX5_statement_35 lFX5_49 ?_
            refine j_aload_n C dX5_statement_38 rfl ?_
            refine g5_18 C dX5_statement_39 lFX5_90 ?_
            refine J.top (y := nI (a9 + 1)) (by rw [up_at]) ?_
            refine j_iald C dX5_statement_42 iA_52 (by omega) ?_
            refine J.top (y := nI (μ 52 (a9 + 1))) (by rw [up_ne (by decide)]) ?_
            refine cTe1 C dX5_statement_43 lMX5_99 myJ0_indexOf_0f7a4 (ev_J0_indexOf hb9) (by omega) rfl (Nat.le_of_ble_eq_true rfl) ?_
            by_cases hk9 : isKd (μ 52 (a9 + 1))
            · have hkb : kdN (μ 52 (a9 + 1)) ≤ 5 := by unfold kdN; (repeat' split) <;> omega
              rw [kdI_of hk9]
              refine j_goto (tgt := 50) C dX5_statement_46 (by decide) ?_
              refine sn2 C dX5_statement_50 rfl ?_
              refine j_iload_n C dX5_statement_51 rfl ?_
              refine j_if_geN (tgt := 57) C dX5_statement_52 (by decide) (by omega) ?_
              refine j_aload_n C dX5_statement_57 rfl ?_
              refine j_dup C dX5_statement_58 rfl ?_
              refine g5_18 C dX5_statement_59 lFX5_90 ?_
              refine j_iconst (v := nI 1) C dX5_statement_62 (by decide) ?_
              first | refine j_iaddN C dX5_statement_63 ?_ | refine j_iadd C dX5_statement_63 ?_
              refine p5_18 C dX5_statement_64 lFX5_90 ?_
              refine J.mem up_up ?_
              refine j_aload_n C dX5_statement_67 rfl ?_
              refine j_iconst (v := nI 0) C dX5_statement_68 (by decide) ?_
              refine j_iconst (v := nI 4) C dX5_statement_69 (by decide) ?_
              refine cVi2 C dX5_statement_70 lMX5_104 myX5_digits (ev_X5_digits (L := μ 52) (n9 := μ 38 16) (a9 := a9 + 2) (m9 := 4) (by rw [up_ne (by decide)]) (by rw [up_off (Or.inr (by decide))]) up_at h96 h255 (by decide) (by omega)) (by omega) rc5 (Nat.le_of_ble_eq_true rfl) (fun v_d μ_d hv_d => ?_)
              obtain ⟨w9, hF8, hd9⟩ := hv_d
              have hF9 := FD_up hF8
              rcases SF_dig (o := 2) (Or.inr ⟨rfl, hc, hk9⟩) hz hlt hd9 with ⟨rfl, hs9⟩ | ⟨rfl, hs9⟩
              · refine j_if_neN (tgt := 78) C dX5_statement_73 (by decide) (by decide) (fun _ => ?_) (fun q9 => absurd q9 (by decide))
                · refine j_iload_n C dX5_statement_78 rfl ?_
                  refine j_if_neN (tgt := 84) C dX5_statement_79 (by decide) (by decide) (fun q9 => absurd rfl q9) (fun _ => ?_)
                  · refine j_iconst (v := nI 1) C dX5_statement_82 (by decide) ?_
                    exact j_iret C E dX5_statement_83 ⟨_, rfl, w9, hF9, hs9⟩
              · refine j_if_neN (tgt := 78) C dX5_statement_73 (by decide) (by decide) (fun q9 => absurd rfl q9) (fun _ => ?_)
                · refine j_iconst (v := (-1)) C dX5_statement_76 (by decide) ?_
                  exact j_iret C E dX5_statement_77 ⟨_, rfl, w9, hF9, hs9⟩
            · rw [kdI_no hk9]
              refine j_goto (tgt := 50) C dX5_statement_46 (by decide) ?_
              refine sn2 C dX5_statement_50 rfl ?_
              refine j_iload_n C dX5_statement_51 rfl ?_
              refine j_if_ge (tgt := 57) C dX5_statement_52 (by decide) (fun q9 => absurd q9 (by decide)) (fun _ => ?_)
              · refine j_iconst (v := (-1)) C dX5_statement_55 (by decide) ?_
                exact j_iret C E dX5_statement_56 (by
                        first
                        | exact ⟨_, rfl, a9 + 1, FD_at, Or.inr ⟨rfl, Or.inr ⟨hlt, hsl, 1, by omega, by omega, rfl, by omega, fun j h1 h2 => absurd h1 (by omega), Or.inl (by omega)⟩⟩⟩
                        | exact ⟨_, rfl, a9 + 1, FD_at, Or.inr ⟨rfl, Or.inr ⟨hlt, hsl, 1, by omega, by omega, rfl, by omega, fun j h1 h2 => absurd h1 (by omega), Or.inr (fun q9 => hk9 ((mayS_kind (by omega) ⟨rfl, hc⟩).mp q9))⟩⟩⟩)
    · have hz : slen (μ 52 a9) = 6 := by rw [hc]; rfl
      have hno : ∀ s9, s9 ∈ [102] → (a9 < μ 38 16 ∧ μ 52 a9 = s9) → False := fun s9 h1 h2 => by rw [hc] at h2; rw [← h2.2] at h1; revert h1; decide
      refine j_aload_n C dX5_statement_0 rfl ?_
      refine j_bipush (v := nI 102) C dX5_statement_1 (by decide) ?_
      refine cVe1 C dX5_statement_3 lMX5_93 myX5_is (ev_X5_isN (L := μ 52) (n9 := μ 38 16) (a9 := a9) rfl rfl ha h96 h255 (by decide) hle (fun q9 => hno 102 (by simp) q9)) (by omega) rc5 (Nat.le_of_ble_eq_true rfl) ?_
      refine j_if_eqN (tgt := 188) C dX5_statement_6 (by decide) (by decide) (fun _ => ?_) (fun q9 => absurd rfl q9)
      · refine j_aload_n C dX5_statement_188 rfl ?_
        refine j_bipush (v := nI 117) C dX5_statement_189 (by decide) ?_
        refine cVe1 C dX5_statement_191 lMX5_93 myX5_is (ev_X5_isY (L := μ 52) (n9 := μ 38 16) (a9 := a9) rfl rfl ha h96 h255 (by decide) hle hlt hc) (by omega) rc5 (Nat.le_of_ble_eq_true rfl) ?_
        refine j_if_eqN (tgt := 250) C dX5_statement_194 (by decide) (by decide) (fun q9 => absurd q9 (by decide)) (fun _ => ?_)
        · refine j_aload_n C dX5_statement_197 rfl ?_
          refine j_iconst (v := nI 0) C dX5_statement_198 (by decide) ?_
          refine j_iconst (v := nI 4) C dX5_statement_199 (by decide) ?_
          refine cVi2 C dX5_statement_200 lMX5_104 myX5_digits (ev_X5_digits (L := μ 52) (n9 := μ 38 16) (a9 := a9 + 1) (m9 := 4) (by rw [up_ne (by decide)]) (by rw [up_off (Or.inr (by decide))]) up_at h96 h255 (by decide) (by omega)) (by omega) rc5 (Nat.le_of_ble_eq_true rfl) (fun v_d μ_d hv_d => ?_)
          obtain ⟨w9, hF8, hd9⟩ := hv_d
          have hF9 := FD_up hF8
          rcases SF_dig (o := 1) (Or.inl ⟨rfl, by rw [hc]; decide⟩) hz hlt hd9 with ⟨rfl, hs9⟩ | ⟨rfl, hs9⟩
          · refine j_if_neN (tgt := 208) C dX5_statement_203 (by decide) (by decide) (fun _ => ?_) (fun q9 => absurd q9 (by decide))
            · refine j_iload_n C dX5_statement_208 rfl ?_
              refine j_if_neN (tgt := 214) C dX5_statement_209 (by decide) (by decide) (fun q9 => absurd rfl q9) (fun _ => ?_)
              · refine j_iconst (v := nI 1) C dX5_statement_212 (by decide) ?_
                exact j_iret C E dX5_statement_213 ⟨_, rfl, w9, hF9, hs9⟩
          · refine j_if_neN (tgt := 208) C dX5_statement_203 (by decide) (by decide) (fun q9 => absurd rfl q9) (fun _ => ?_)
            · refine j_iconst (v := (-1)) C dX5_statement_206 (by decide) ?_
              exact j_iret C E dX5_statement_207 ⟨_, rfl, w9, hF9, hs9⟩
    · have hz : slen (μ 52 a9) = 8 := by rw [hc]; rfl
      have hno : ∀ s9, s9 ∈ [102, 117] → (a9 < μ 38 16 ∧ μ 52 a9 = s9) → False := fun s9 h1 h2 => by rw [hc] at h2; rw [← h2.2] at h1; revert h1; decide
      refine j_aload_n C dX5_statement_0 rfl ?_
      refine j_bipush (v := nI 102) C dX5_statement_1 (by decide) ?_
      refine cVe1 C dX5_statement_3 lMX5_93 myX5_is (ev_X5_isN (L := μ 52) (n9 := μ 38 16) (a9 := a9) rfl rfl ha h96 h255 (by decide) hle (fun q9 => hno 102 (by simp) q9)) (by omega) rc5 (Nat.le_of_ble_eq_true rfl) ?_
      refine j_if_eqN (tgt := 188) C dX5_statement_6 (by decide) (by decide) (fun _ => ?_) (fun q9 => absurd rfl q9)
      · refine j_aload_n C dX5_statement_188 rfl ?_
        refine j_bipush (v := nI 117) C dX5_statement_189 (by decide) ?_
        refine cVe1 C dX5_statement_191 lMX5_93 myX5_is (ev_X5_isN (L := μ 52) (n9 := μ 38 16) (a9 := a9) rfl rfl ha h96 h255 (by decide) hle (fun q9 => hno 117 (by simp) q9)) (by omega) rc5 (Nat.le_of_ble_eq_true rfl) ?_
        refine j_if_eqN (tgt := 250) C dX5_statement_194 (by decide) (by decide) (fun _ => ?_) (fun q9 => absurd rfl q9)
        · refine j_aload_n C dX5_statement_250 rfl ?_
          refine j_bipush (v := nI 98) C dX5_statement_251 (by decide) ?_
          refine cVe1 C dX5_statement_253 lMX5_93 myX5_is (ev_X5_isY (L := μ 52) (n9 := μ 38 16) (a9 := a9) rfl rfl ha h96 h255 (by decide) hle hlt hc) (by omega) rc5 (Nat.le_of_ble_eq_true rfl) ?_
          refine j_if_eqN (tgt := 339) C dX5_statement_256 (by decide) (by decide) (fun q9 => absurd q9 (by decide)) (fun _ => ?_)
          · refine j_aload_n C dX5_statement_259 rfl ?_
            refine j_iconst (v := nI 0) C dX5_statement_260 (by decide) ?_
            refine j_bipush (v := nI 6) C dX5_statement_261 (by decide) ?_
            refine cVi2 C dX5_statement_263 lMX5_104 myX5_digits (ev_X5_digits (L := μ 52) (n9 := μ 38 16) (a9 := a9 + 1) (m9 := 6) (by rw [up_ne (by decide)]) (by rw [up_off (Or.inr (by decide))]) up_at h96 h255 (by decide) (by omega)) (by omega) rc5 (Nat.le_of_ble_eq_true rfl) (fun v_d μ_d hv_d => ?_)
            obtain ⟨w9, hF8, hd9⟩ := hv_d
            have hF9 := FD_up hF8
            rcases SF_dig (o := 1) (Or.inl ⟨rfl, by rw [hc]; decide⟩) hz hlt hd9 with ⟨rfl, hs9⟩ | ⟨rfl, hs9⟩
            · refine j_if_neN (tgt := 271) C dX5_statement_266 (by decide) (by decide) (fun _ => ?_) (fun q9 => absurd q9 (by decide))
              · refine j_iload_n C dX5_statement_271 rfl ?_
                refine j_if_neN (tgt := 277) C dX5_statement_272 (by decide) (by decide) (fun q9 => absurd rfl q9) (fun _ => ?_)
                · refine j_iconst (v := nI 1) C dX5_statement_275 (by decide) ?_
                  exact j_iret C E dX5_statement_276 ⟨_, rfl, w9, hF9, hs9⟩
            · refine j_if_neN (tgt := 271) C dX5_statement_266 (by decide) (by decide) (fun q9 => absurd rfl q9) (fun _ => ?_)
              · refine j_iconst (v := (-1)) C dX5_statement_269 (by decide) ?_
                exact j_iret C E dX5_statement_270 ⟨_, rfl, w9, hF9, hs9⟩
    · have hz : slen (μ 52 a9) = 3 := by rw [hc]; rfl
      have hno : ∀ s9, s9 ∈ [102, 117, 98] → (a9 < μ 38 16 ∧ μ 52 a9 = s9) → False := fun s9 h1 h2 => by rw [hc] at h2; rw [← h2.2] at h1; revert h1; decide
      refine j_aload_n C dX5_statement_0 rfl ?_
      refine j_bipush (v := nI 102) C dX5_statement_1 (by decide) ?_
      refine cVe1 C dX5_statement_3 lMX5_93 myX5_is (ev_X5_isN (L := μ 52) (n9 := μ 38 16) (a9 := a9) rfl rfl ha h96 h255 (by decide) hle (fun q9 => hno 102 (by simp) q9)) (by omega) rc5 (Nat.le_of_ble_eq_true rfl) ?_
      refine j_if_eqN (tgt := 188) C dX5_statement_6 (by decide) (by decide) (fun _ => ?_) (fun q9 => absurd rfl q9)
      · refine j_aload_n C dX5_statement_188 rfl ?_
        refine j_bipush (v := nI 117) C dX5_statement_189 (by decide) ?_
        refine cVe1 C dX5_statement_191 lMX5_93 myX5_is (ev_X5_isN (L := μ 52) (n9 := μ 38 16) (a9 := a9) rfl rfl ha h96 h255 (by decide) hle (fun q9 => hno 117 (by simp) q9)) (by omega) rc5 (Nat.le_of_ble_eq_true rfl) ?_
        refine j_if_eqN (tgt := 250) C dX5_statement_194 (by decide) (by decide) (fun _ => ?_) (fun q9 => absurd rfl q9)
        · refine j_aload_n C dX5_statement_250 rfl ?_
          refine j_bipush (v := nI 98) C dX5_statement_251 (by decide) ?_
          refine cVe1 C dX5_statement_253 lMX5_93 myX5_is (ev_X5_isN (L := μ 52) (n9 := μ 38 16) (a9 := a9) rfl rfl ha h96 h255 (by decide) hle (fun q9 => hno 98 (by simp) q9)) (by omega) rc5 (Nat.le_of_ble_eq_true rfl) ?_
          refine j_if_eqN (tgt := 339) C dX5_statement_256 (by decide) (by decide) (fun _ => ?_) (fun q9 => absurd rfl q9)
          · refine j_aload_n C dX5_statement_339 rfl ?_
            refine j_bipush (v := nI 115) C dX5_statement_340 (by decide) ?_
            refine cVe1 C dX5_statement_342 lMX5_93 myX5_is (ev_X5_isY (L := μ 52) (n9 := μ 38 16) (a9 := a9) rfl rfl ha h96 h255 (by decide) hle hlt hc) (by omega) rc5 (Nat.le_of_ble_eq_true rfl) ?_
            refine j_if_eqN (tgt := 377) C dX5_statement_345 (by decide) (by decide) (fun q9 => absurd q9 (by decide)) (fun _ => ?_)
            · refine j_aload_n C dX5_statement_348 rfl ?_
              refine j_iconst (v := nI 0) C dX5_statement_349 (by decide) ?_
              refine j_iconst (v := nI 1) C dX5_statement_350 (by decide) ?_
              refine cVi2 C dX5_statement_351 lMX5_104 myX5_digits (ev_X5_digits (L := μ 52) (n9 := μ 38 16) (a9 := a9 + 1) (m9 := 1) (by rw [up_ne (by decide)]) (by rw [up_off (Or.inr (by decide))]) up_at h96 h255 (by decide) (by omega)) (by omega) rc5 (Nat.le_of_ble_eq_true rfl) (fun v_d μ_d hv_d => ?_)
              obtain ⟨w9, hF8, hd9⟩ := hv_d
              have hF9 := FD_up hF8
              rcases SF_dig (o := 1) (Or.inl ⟨rfl, by rw [hc]; decide⟩) hz hlt hd9 with ⟨rfl, hs9⟩ | ⟨rfl, hs9⟩
              · refine j_if_neN (tgt := 359) C dX5_statement_354 (by decide) (by decide) (fun _ => ?_) (fun q9 => absurd q9 (by decide))
                · refine j_iload_n C dX5_statement_359 rfl ?_
                  refine j_if_eqN (tgt := 375) C dX5_statement_360 (by decide) (by decide) (fun _ => ?_) (fun q9 => absurd rfl q9)
                  · refine j_iconst (v := nI 1) C dX5_statement_375 (by decide) ?_
                    exact j_iret C E dX5_statement_376 ⟨_, rfl, w9, hF9, hs9⟩
              · refine j_if_neN (tgt := 359) C dX5_statement_354 (by decide) (by decide) (fun q9 => absurd rfl q9) (fun _ => ?_)
                · refine j_iconst (v := (-1)) C dX5_statement_357 (by decide) ?_
                  exact j_iret C E dX5_statement_358 ⟨_, rfl, w9, hF9, hs9⟩
    · have hz : slen (μ 52 a9) = 4 := by rw [hc]; rfl
      have hno : ∀ s9, s9 ∈ [102, 117, 98, 115] → (a9 < μ 38 16 ∧ μ 52 a9 = s9) → False := fun s9 h1 h2 => by rw [hc] at h2; rw [← h2.2] at h1; revert h1; decide
      refine j_aload_n C dX5_statement_0 rfl ?_
      refine j_bipush (v := nI 102) C dX5_statement_1 (by decide) ?_
      refine cVe1 C dX5_statement_3 lMX5_93 myX5_is (ev_X5_isN (L := μ 52) (n9 := μ 38 16) (a9 := a9) rfl rfl ha h96 h255 (by decide) hle (fun q9 => hno 102 (by simp) q9)) (by omega) rc5 (Nat.le_of_ble_eq_true rfl) ?_
      refine j_if_eqN (tgt := 188) C dX5_statement_6 (by decide) (by decide) (fun _ => ?_) (fun q9 => absurd rfl q9)
      · refine j_aload_n C dX5_statement_188 rfl ?_
        refine j_bipush (v := nI 117) C dX5_statement_189 (by decide) ?_
        refine cVe1 C dX5_statement_191 lMX5_93 myX5_is (ev_X5_isN (L := μ 52) (n9 := μ 38 16) (a9 := a9) rfl rfl ha h96 h255 (by decide) hle (fun q9 => hno 117 (by simp) q9)) (by omega) rc5 (Nat.le_of_ble_eq_true rfl) ?_
        refine j_if_eqN (tgt := 250) C dX5_statement_194 (by decide) (by decide) (fun _ => ?_) (fun q9 => absurd rfl q9)
        · refine j_aload_n C dX5_statement_250 rfl ?_
          refine j_bipush (v := nI 98) C dX5_statement_251 (by decide) ?_
          refine cVe1 C dX5_statement_253 lMX5_93 myX5_is (ev_X5_isN (L := μ 52) (n9 := μ 38 16) (a9 := a9) rfl rfl ha h96 h255 (by decide) hle (fun q9 => hno 98 (by simp) q9)) (by omega) rc5 (Nat.le_of_ble_eq_true rfl) ?_
          refine j_if_eqN (tgt := 339) C dX5_statement_256 (by decide) (by decide) (fun _ => ?_) (fun q9 => absurd rfl q9)
          · refine j_aload_n C dX5_statement_339 rfl ?_
            refine j_bipush (v := nI 115) C dX5_statement_340 (by decide) ?_
            refine cVe1 C dX5_statement_342 lMX5_93 myX5_is (ev_X5_isN (L := μ 52) (n9 := μ 38 16) (a9 := a9) rfl rfl ha h96 h255 (by decide) hle (fun q9 => hno 115 (by simp) q9)) (by omega) rc5 (Nat.le_of_ble_eq_true rfl) ?_
            refine j_if_eqN (tgt := 377) C dX5_statement_345 (by decide) (by decide) (fun _ => ?_) (fun q9 => absurd rfl q9)
            · refine j_aload_n C dX5_statement_377 rfl ?_
              refine j_bipush (v := nI 103) C dX5_statement_378 (by decide) ?_
              refine cVe1 C dX5_statement_380 lMX5_93 myX5_is (ev_X5_isY (L := μ 52) (n9 := μ 38 16) (a9 := a9) rfl rfl ha h96 h255 (by decide) hle hlt hc) (by omega) rc5 (Nat.le_of_ble_eq_true rfl) ?_
              refine j_if_eqN (tgt := 443) C dX5_statement_383 (by decide) (by decide) (fun q9 => absurd q9 (by decide)) (fun _ => ?_)
              · refine j_aload_n C dX5_statement_386 rfl ?_
                refine j_iconst (v := nI 0) C dX5_statement_387 (by decide) ?_
                refine j_iconst (v := nI 2) C dX5_statement_388 (by decide) ?_
                refine cVi2 C dX5_statement_389 lMX5_104 myX5_digits (ev_X5_digits (L := μ 52) (n9 := μ 38 16) (a9 := a9 + 1) (m9 := 2) (by rw [up_ne (by decide)]) (by rw [up_off (Or.inr (by decide))]) up_at h96 h255 (by decide) (by omega)) (by omega) rc5 (Nat.le_of_ble_eq_true rfl) (fun v_d μ_d hv_d => ?_)
                obtain ⟨w9, hF8, hd9⟩ := hv_d
                have hF9 := FD_up hF8
                rcases SF_dig (o := 1) (Or.inl ⟨rfl, by rw [hc]; decide⟩) hz hlt hd9 with ⟨rfl, hs9⟩ | ⟨rfl, hs9⟩
                · refine j_if_neN (tgt := 397) C dX5_statement_392 (by decide) (by decide) (fun _ => ?_) (fun q9 => absurd q9 (by decide))
                  · refine j_iload_n C dX5_statement_397 rfl ?_
                    refine j_if_neN (tgt := 403) C dX5_statement_398 (by decide) (by decide) (fun q9 => absurd rfl q9) (fun _ => ?_)
                    · refine j_iconst (v := nI 1) C dX5_statement_401 (by decide) ?_
                      exact j_iret C E dX5_statement_402 ⟨_, rfl, w9, hF9, hs9⟩
                · refine j_if_neN (tgt := 397) C dX5_statement_392 (by decide) (by decide) (fun q9 => absurd rfl q9) (fun _ => ?_)
                  · refine j_iconst (v := (-1)) C dX5_statement_395 (by decide) ?_
                    exact j_iret C E dX5_statement_396 ⟨_, rfl, w9, hF9, hs9⟩
    · have hz : slen (μ 52 a9) = 5 := by rw [hc]; rfl
      have hno : ∀ s9, s9 ∈ [102, 117, 98, 115, 103] → (a9 < μ 38 16 ∧ μ 52 a9 = s9) → False := fun s9 h1 h2 => by rw [hc] at h2; rw [← h2.2] at h1; revert h1; decide
      refine j_aload_n C dX5_statement_0 rfl ?_
      refine j_bipush (v := nI 102) C dX5_statement_1 (by decide) ?_
      refine cVe1 C dX5_statement_3 lMX5_93 myX5_is (ev_X5_isN (L := μ 52) (n9 := μ 38 16) (a9 := a9) rfl rfl ha h96 h255 (by decide) hle (fun q9 => hno 102 (by simp) q9)) (by omega) rc5 (Nat.le_of_ble_eq_true rfl) ?_
      refine j_if_eqN (tgt := 188) C dX5_statement_6 (by decide) (by decide) (fun _ => ?_) (fun q9 => absurd rfl q9)
      · refine j_aload_n C dX5_statement_188 rfl ?_
        refine j_bipush (v := nI 117) C dX5_statement_189 (by decide) ?_
        refine cVe1 C dX5_statement_191 lMX5_93 myX5_is (ev_X5_isN (L := μ 52) (n9 := μ 38 16) (a9 := a9) rfl rfl ha h96 h255 (by decide) hle (fun q9 => hno 117 (by simp) q9)) (by omega) rc5 (Nat.le_of_ble_eq_true rfl) ?_
        refine j_if_eqN (tgt := 250) C dX5_statement_194 (by decide) (by decide) (fun _ => ?_) (fun q9 => absurd rfl q9)
        · refine j_aload_n C dX5_statement_250 rfl ?_
          refine j_bipush (v := nI 98) C dX5_statement_251 (by decide) ?_
          refine cVe1 C dX5_statement_253 lMX5_93 myX5_is (ev_X5_isN (L := μ 52) (n9 := μ 38 16) (a9 := a9) rfl rfl ha h96 h255 (by decide) hle (fun q9 => hno 98 (by simp) q9)) (by omega) rc5 (Nat.le_of_ble_eq_true rfl) ?_
          refine j_if_eqN (tgt := 339) C dX5_statement_256 (by decide) (by decide) (fun _ => ?_) (fun q9 => absurd rfl q9)
          · refine j_aload_n C dX5_statement_339 rfl ?_
            refine j_bipush (v := nI 115) C dX5_statement_340 (by decide) ?_
            refine cVe1 C dX5_statement_342 lMX5_93 myX5_is (ev_X5_isN (L := μ 52) (n9 := μ 38 16) (a9 := a9) rfl rfl ha h96 h255 (by decide) hle (fun q9 => hno 115 (by simp) q9)) (by omega) rc5 (Nat.le_of_ble_eq_true rfl) ?_
            refine j_if_eqN (tgt := 377) C dX5_statement_345 (by decide) (by decide) (fun _ => ?_) (fun q9 => absurd rfl q9)
            · refine j_aload_n C dX5_statement_377 rfl ?_
              refine j_bipush (v := nI 103) C dX5_statement_378 (by decide) ?_
              refine cVe1 C dX5_statement_380 lMX5_93 myX5_is (ev_X5_isN (L := μ 52) (n9 := μ 38 16) (a9 := a9) rfl rfl ha h96 h255 (by decide) hle (fun q9 => hno 103 (by simp) q9)) (by omega) rc5 (Nat.le_of_ble_eq_true rfl) ?_
              refine j_if_eqN (tgt := 443) C dX5_statement_383 (by decide) (by decide) (fun _ => ?_) (fun q9 => absurd rfl q9)
              · refine j_aload_n C dX5_statement_443 rfl ?_
                refine j_bipush (v := nI 114) C dX5_statement_444 (by decide) ?_
                refine cVe1 C dX5_statement_446 lMX5_93 myX5_is (ev_X5_isY (L := μ 52) (n9 := μ 38 16) (a9 := a9) rfl rfl ha h96 h255 (by decide) hle hlt hc) (by omega) rc5 (Nat.le_of_ble_eq_true rfl) ?_
                refine j_if_eqN (tgt := 518) C dX5_statement_449 (by decide) (by decide) (fun q9 => absurd q9 (by decide)) (fun _ => ?_)
                · refine j_aload_n C dX5_statement_452 rfl ?_
                  refine j_iconst (v := nI 0) C dX5_statement_453 (by decide) ?_
                  refine j_iconst (v := nI 3) C dX5_statement_454 (by decide) ?_
                  refine cVi2 C dX5_statement_455 lMX5_104 myX5_digits (ev_X5_digits (L := μ 52) (n9 := μ 38 16) (a9 := a9 + 1) (m9 := 3) (by rw [up_ne (by decide)]) (by rw [up_off (Or.inr (by decide))]) up_at h96 h255 (by decide) (by omega)) (by omega) rc5 (Nat.le_of_ble_eq_true rfl) (fun v_d μ_d hv_d => ?_)
                  obtain ⟨w9, hF8, hd9⟩ := hv_d
                  have hF9 := FD_up hF8
                  rcases SF_dig (o := 1) (Or.inl ⟨rfl, by rw [hc]; decide⟩) hz hlt hd9 with ⟨rfl, hs9⟩ | ⟨rfl, hs9⟩
                  · refine j_if_neN (tgt := 463) C dX5_statement_458 (by decide) (by decide) (fun _ => ?_) (fun q9 => absurd q9 (by decide))
                    · refine j_iload_n C dX5_statement_463 rfl ?_
                      refine j_if_neN (tgt := 469) C dX5_statement_464 (by decide) (by decide) (fun q9 => absurd rfl q9) (fun _ => ?_)
                      · refine j_iconst (v := nI 1) C dX5_statement_467 (by decide) ?_
                        exact j_iret C E dX5_statement_468 ⟨_, rfl, w9, hF9, hs9⟩
                  · refine j_if_neN (tgt := 463) C dX5_statement_458 (by decide) (by decide) (fun q9 => absurd rfl q9) (fun _ => ?_)
                    · refine j_iconst (v := (-1)) C dX5_statement_461 (by decide) ?_
                      exact j_iret C E dX5_statement_462 ⟨_, rfl, w9, hF9, hs9⟩
    · have hz : slen (μ 52 a9) = 4 := by rw [hc]; rfl
      have hno : ∀ s9, s9 ∈ [102, 117, 98, 115, 103, 114] → (a9 < μ 38 16 ∧ μ 52 a9 = s9) → False := fun s9 h1 h2 => by rw [hc] at h2; rw [← h2.2] at h1; revert h1; decide
      refine j_aload_n C dX5_statement_0 rfl ?_
      refine j_bipush (v := nI 102) C dX5_statement_1 (by decide) ?_
      refine cVe1 C dX5_statement_3 lMX5_93 myX5_is (ev_X5_isN (L := μ 52) (n9 := μ 38 16) (a9 := a9) rfl rfl ha h96 h255 (by decide) hle (fun q9 => hno 102 (by simp) q9)) (by omega) rc5 (Nat.le_of_ble_eq_true rfl) ?_
      refine j_if_eqN (tgt := 188) C dX5_statement_6 (by decide) (by decide) (fun _ => ?_) (fun q9 => absurd rfl q9)
      · refine j_aload_n C dX5_statement_188 rfl ?_
        refine j_bipush (v := nI 117) C dX5_statement_189 (by decide) ?_
        refine cVe1 C dX5_statement_191 lMX5_93 myX5_is (ev_X5_isN (L := μ 52) (n9 := μ 38 16) (a9 := a9) rfl rfl ha h96 h255 (by decide) hle (fun q9 => hno 117 (by simp) q9)) (by omega) rc5 (Nat.le_of_ble_eq_true rfl) ?_
        refine j_if_eqN (tgt := 250) C dX5_statement_194 (by decide) (by decide) (fun _ => ?_) (fun q9 => absurd rfl q9)
        · refine j_aload_n C dX5_statement_250 rfl ?_
          refine j_bipush (v := nI 98) C dX5_statement_251 (by decide) ?_
          refine cVe1 C dX5_statement_253 lMX5_93 myX5_is (ev_X5_isN (L := μ 52) (n9 := μ 38 16) (a9 := a9) rfl rfl ha h96 h255 (by decide) hle (fun q9 => hno 98 (by simp) q9)) (by omega) rc5 (Nat.le_of_ble_eq_true rfl) ?_
          refine j_if_eqN (tgt := 339) C dX5_statement_256 (by decide) (by decide) (fun _ => ?_) (fun q9 => absurd rfl q9)
          · refine j_aload_n C dX5_statement_339 rfl ?_
            refine j_bipush (v := nI 115) C dX5_statement_340 (by decide) ?_
            refine cVe1 C dX5_statement_342 lMX5_93 myX5_is (ev_X5_isN (L := μ 52) (n9 := μ 38 16) (a9 := a9) rfl rfl ha h96 h255 (by decide) hle (fun q9 => hno 115 (by simp) q9)) (by omega) rc5 (Nat.le_of_ble_eq_true rfl) ?_
            refine j_if_eqN (tgt := 377) C dX5_statement_345 (by decide) (by decide) (fun _ => ?_) (fun q9 => absurd rfl q9)
            · refine j_aload_n C dX5_statement_377 rfl ?_
              refine j_bipush (v := nI 103) C dX5_statement_378 (by decide) ?_
              refine cVe1 C dX5_statement_380 lMX5_93 myX5_is (ev_X5_isN (L := μ 52) (n9 := μ 38 16) (a9 := a9) rfl rfl ha h96 h255 (by decide) hle (fun q9 => hno 103 (by simp) q9)) (by omega) rc5 (Nat.le_of_ble_eq_true rfl) ?_
              refine j_if_eqN (tgt := 443) C dX5_statement_383 (by decide) (by decide) (fun _ => ?_) (fun q9 => absurd rfl q9)
              · refine j_aload_n C dX5_statement_443 rfl ?_
                refine j_bipush (v := nI 114) C dX5_statement_444 (by decide) ?_
                refine cVe1 C dX5_statement_446 lMX5_93 myX5_is (ev_X5_isN (L := μ 52) (n9 := μ 38 16) (a9 := a9) rfl rfl ha h96 h255 (by decide) hle (fun q9 => hno 114 (by simp) q9)) (by omega) rc5 (Nat.le_of_ble_eq_true rfl) ?_
                refine j_if_eqN (tgt := 518) C dX5_statement_449 (by decide) (by decide) (fun _ => ?_) (fun q9 => absurd rfl q9)
                · refine j_aload_n C dX5_statement_518 rfl ?_
                  refine j_bipush (v := nI 120) C dX5_statement_519 (by decide) ?_
                  refine cVe1 C dX5_statement_521 lMX5_93 myX5_is (ev_X5_isY (L := μ 52) (n9 := μ 38 16) (a9 := a9) rfl rfl ha h96 h255 (by decide) hle hlt hc) (by omega) rc5 (Nat.le_of_ble_eq_true rfl) ?_
                  refine j_if_eqN (tgt := 536) C dX5_statement_524 (by decide) (by decide) (fun q9 => absurd q9 (by decide)) (fun _ => ?_)
                  · refine j_aload_n C dX5_statement_527 rfl ?_
                    refine j_iconst (v := nI 0) C dX5_statement_528 (by decide) ?_
                    refine j_iconst (v := nI 2) C dX5_statement_529 (by decide) ?_
                    refine cVi2 C dX5_statement_530 lMX5_104 myX5_digits (ev_X5_digits (L := μ 52) (n9 := μ 38 16) (a9 := a9 + 1) (m9 := 2) (by rw [up_ne (by decide)]) (by rw [up_off (Or.inr (by decide))]) up_at h96 h255 (by decide) (by omega)) (by omega) rc5 (Nat.le_of_ble_eq_true rfl) (fun v_d μ_d hv_d => ?_)
                    obtain ⟨w9, hF8, hd9⟩ := hv_d
                    have hF9 := FD_up hF8
                    rcases SF_dig (o := 1) (Or.inl ⟨rfl, by rw [hc]; decide⟩) hz hlt hd9 with ⟨rfl, hs9⟩ | ⟨rfl, hs9⟩
                    · refine j_if_neN (tgt := 538) C dX5_statement_533 (by decide) (by decide) (fun _ => ?_) (fun q9 => absurd q9 (by decide))
                      · refine j_iload_n C dX5_statement_538 rfl ?_
                        refine j_if_neN (tgt := 544) C dX5_statement_539 (by decide) (by decide) (fun q9 => absurd rfl q9) (fun _ => ?_)
                        · refine j_iconst (v := nI 1) C dX5_statement_542 (by decide) ?_
                          exact j_iret C E dX5_statement_543 ⟨_, rfl, w9, hF9, hs9⟩
                    · refine j_if_neN (tgt := 538) C dX5_statement_533 (by decide) (by decide) (fun q9 => absurd rfl q9) (fun _ => ?_)
                      · refine j_iconst (v := (-1)) C dX5_statement_536 (by decide) ?_
                        exact j_iret C E dX5_statement_537 ⟨_, rfl, w9, hF9, hs9⟩
  · have hno : ∀ s9, s9 ∈ [102, 117, 98, 115, 103, 114, 120] → (a9 < μ 38 16 ∧ μ 52 a9 = s9) → False := fun s9 h1 h2 => hin ⟨h2.1, by rw [h2.2]; rcases (show s9 = 102 ∨ s9 = 117 ∨ s9 = 98 ∨ s9 = 115 ∨ s9 = 103 ∨ s9 = 114 ∨ s9 = 120 by simpa using h1) with rfl | rfl | rfl | rfl | rfl | rfl | rfl <;> decide⟩
    refine j_aload_n C dX5_statement_0 rfl ?_
    refine j_bipush (v := nI 102) C dX5_statement_1 (by decide) ?_
    refine cVe1 C dX5_statement_3 lMX5_93 myX5_is (ev_X5_isN (L := μ 52) (n9 := μ 38 16) (a9 := a9) rfl rfl ha h96 h255 (by decide) hle (fun q9 => hno 102 (by simp) q9)) (by omega) rc5 (Nat.le_of_ble_eq_true rfl) ?_
    refine j_if_eqN (tgt := 188) C dX5_statement_6 (by decide) (by decide) (fun _ => ?_) (fun q9 => absurd rfl q9)
    · refine j_aload_n C dX5_statement_188 rfl ?_
      refine j_bipush (v := nI 117) C dX5_statement_189 (by decide) ?_
      refine cVe1 C dX5_statement_191 lMX5_93 myX5_is (ev_X5_isN (L := μ 52) (n9 := μ 38 16) (a9 := a9) rfl rfl ha h96 h255 (by decide) hle (fun q9 => hno 117 (by simp) q9)) (by omega) rc5 (Nat.le_of_ble_eq_true rfl) ?_
      refine j_if_eqN (tgt := 250) C dX5_statement_194 (by decide) (by decide) (fun _ => ?_) (fun q9 => absurd rfl q9)
      · refine j_aload_n C dX5_statement_250 rfl ?_
        refine j_bipush (v := nI 98) C dX5_statement_251 (by decide) ?_
        refine cVe1 C dX5_statement_253 lMX5_93 myX5_is (ev_X5_isN (L := μ 52) (n9 := μ 38 16) (a9 := a9) rfl rfl ha h96 h255 (by decide) hle (fun q9 => hno 98 (by simp) q9)) (by omega) rc5 (Nat.le_of_ble_eq_true rfl) ?_
        refine j_if_eqN (tgt := 339) C dX5_statement_256 (by decide) (by decide) (fun _ => ?_) (fun q9 => absurd rfl q9)
        · refine j_aload_n C dX5_statement_339 rfl ?_
          refine j_bipush (v := nI 115) C dX5_statement_340 (by decide) ?_
          refine cVe1 C dX5_statement_342 lMX5_93 myX5_is (ev_X5_isN (L := μ 52) (n9 := μ 38 16) (a9 := a9) rfl rfl ha h96 h255 (by decide) hle (fun q9 => hno 115 (by simp) q9)) (by omega) rc5 (Nat.le_of_ble_eq_true rfl) ?_
          refine j_if_eqN (tgt := 377) C dX5_statement_345 (by decide) (by decide) (fun _ => ?_) (fun q9 => absurd rfl q9)
          · refine j_aload_n C dX5_statement_377 rfl ?_
            refine j_bipush (v := nI 103) C dX5_statement_378 (by decide) ?_
            refine cVe1 C dX5_statement_380 lMX5_93 myX5_is (ev_X5_isN (L := μ 52) (n9 := μ 38 16) (a9 := a9) rfl rfl ha h96 h255 (by decide) hle (fun q9 => hno 103 (by simp) q9)) (by omega) rc5 (Nat.le_of_ble_eq_true rfl) ?_
            refine j_if_eqN (tgt := 443) C dX5_statement_383 (by decide) (by decide) (fun _ => ?_) (fun q9 => absurd rfl q9)
            · refine j_aload_n C dX5_statement_443 rfl ?_
              refine j_bipush (v := nI 114) C dX5_statement_444 (by decide) ?_
              refine cVe1 C dX5_statement_446 lMX5_93 myX5_is (ev_X5_isN (L := μ 52) (n9 := μ 38 16) (a9 := a9) rfl rfl ha h96 h255 (by decide) hle (fun q9 => hno 114 (by simp) q9)) (by omega) rc5 (Nat.le_of_ble_eq_true rfl) ?_
              refine j_if_eqN (tgt := 518) C dX5_statement_449 (by decide) (by decide) (fun _ => ?_) (fun q9 => absurd rfl q9)
              · refine j_aload_n C dX5_statement_518 rfl ?_
                refine j_bipush (v := nI 120) C dX5_statement_519 (by decide) ?_
                refine cVe1 C dX5_statement_521 lMX5_93 myX5_is (ev_X5_isN (L := μ 52) (n9 := μ 38 16) (a9 := a9) rfl rfl ha h96 h255 (by decide) hle (fun q9 => hno 120 (by simp) q9)) (by omega) rc5 (Nat.le_of_ble_eq_true rfl) ?_
                refine j_if_eqN (tgt := 536) C dX5_statement_524 (by decide) (by decide) (fun _ => ?_) (fun q9 => absurd rfl q9)
                · refine j_iconst (v := (-1)) C dX5_statement_536 (by decide) ?_
                  exact j_iret C E dX5_statement_537 ⟨_, rfl, a9, FD_self ha, Or.inr ⟨rfl, Or.inl ⟨hin, rfl⟩⟩⟩
