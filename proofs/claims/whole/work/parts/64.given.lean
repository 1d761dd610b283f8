-- WHAT THE START GIVES: two tables of numbers, the text of six letters
theorem lt1 {w : Cond} (i : Nat) (h : tables_1_1[i]? = some w) : w ∈ lw_tbl := List.mem_append_right _ (List.mem_append_left _ (List.mem_of_getElem? h))
theorem lt2 {w : Cond} (i : Nat) (h : tables_1_2[i]? = some w) : w ∈ lw_tbl := List.mem_append_right _ (List.mem_append_right _ (List.mem_append_left _ (List.mem_of_getElem? h)))
theorem lt3 {w : Cond} (i : Nat) (h : tables_1_3[i]? = some w) : w ∈ lw_tbl := List.mem_append_right _ (List.mem_append_right _ (List.mem_append_right _ (List.mem_append_left _ (List.mem_of_getElem? h))))
abbrev tmS : Term := .static "TrolleyAtEleven" "SETTINGS_AT_FIRST" "[I"
abbrev tmM : Term := .static "TrolleyAtEleven" "MOST_OF_SETTINGS" "[I"
abbrev tmT : Term := .string "TrolleyAtElevenModel" 97
abbrev tmV : Term := .field tmT "java/lang/String" "value" "[B"
section START
variable {s : State} {b : Nat}
abbrev flG : List Cond := flatC (Jvm.Cond.and given_1 narrow_1)

theorem gS_0 (hf : ∀ w ∈ flG, w.before #[Value.ref b] s = true) : (Term.elem tmS (.int 0)).eval #[Value.ref b] s none [] s = some (.int 40) := va_eqt (hf (.eq (.elem tmS (.int 0)) (.int 40)) (by decide +kernel))
theorem gS_1 (hf : ∀ w ∈ flG, w.before #[Value.ref b] s = true) : (Term.elem tmS (.int 1)).eval #[Value.ref b] s none [] s = some (.int 90) := va_eqt (hf (.eq (.elem tmS (.int 1)) (.int 90)) (by decide +kernel))
theorem gS_2 (hf : ∀ w ∈ flG, w.before #[Value.ref b] s = true) : (Term.elem tmS (.int 2)).eval #[Value.ref b] s none [] s = some (.int 10) := va_eqt (hf (.eq (.elem tmS (.int 2)) (.int 10)) (by decide +kernel))
theorem gS_3 (hf : ∀ w ∈ flG, w.before #[Value.ref b] s = true) : (Term.elem tmS (.int 3)).eval #[Value.ref b] s none [] s = some (.int 10) := va_eqt (hf (.eq (.elem tmS (.int 3)) (.int 10)) (by decide +kernel))
theorem gS_4 (hf : ∀ w ∈ flG, w.before #[Value.ref b] s = true) : (Term.elem tmS (.int 4)).eval #[Value.ref b] s none [] s = some (.int 10) := va_eqt (hf (.eq (.elem tmS (.int 4)) (.int 10)) (by decide +kernel))
theorem gS_5 (hf : ∀ w ∈ flG, w.before #[Value.ref b] s = true) : (Term.elem tmS (.int 5)).eval #[Value.ref b] s none [] s = some (.int 4) := va_eqt (hf (.eq (.elem tmS (.int 5)) (.int 4)) (by decide +kernel))
theorem gS_6 (hf : ∀ w ∈ flG, w.before #[Value.ref b] s = true) : (Term.elem tmS (.int 6)).eval #[Value.ref b] s none [] s = some (.int 0) := va_eqt (hf (.eq (.elem tmS (.int 6)) (.int 0)) (by decide +kernel))
theorem gS_7 (hf : ∀ w ∈ flG, w.before #[Value.ref b] s = true) : (Term.elem tmS (.int 7)).eval #[Value.ref b] s none [] s = some (.int 1) := va_eqt (hf (.eq (.elem tmS (.int 7)) (.int 1)) (by decide +kernel))
theorem gS_8 (hf : ∀ w ∈ flG, w.before #[Value.ref b] s = true) : (Term.elem tmS (.int 8)).eval #[Value.ref b] s none [] s = some (.int 1) := va_eqt (hf (.eq (.elem tmS (.int 8)) (.int 1)) (by decide +kernel))
theorem gS_9 (hf : ∀ w ∈ flG, w.before #[Value.ref b] s = true) : (Term.elem tmS (.int 9)).eval #[Value.ref b] s none [] s = some (.int 0) := va_eqt (hf (.eq (.elem tmS (.int 9)) (.int 0)) (by decide +kernel))
theorem gM_0 (hf : ∀ w ∈ flG, w.before #[Value.ref b] s = true) : (Term.elem tmM (.int 0)).eval #[Value.ref b] s none [] s = some (.int 40) := va_eqt (hf (.eq (.elem tmM (.int 0)) (.int 40)) (by decide +kernel))
theorem gM_1 (hf : ∀ w ∈ flG, w.before #[Value.ref b] s = true) : (Term.elem tmM (.int 1)).eval #[Value.ref b] s none [] s = some (.int 99) := va_eqt (hf (.eq (.elem tmM (.int 1)) (.int 99)) (by decide +kernel))
theorem gM_2 (hf : ∀ w ∈ flG, w.before #[Value.ref b] s = true) : (Term.elem tmM (.int 2)).eval #[Value.ref b] s none [] s = some (.int 60) := va_eqt (hf (.eq (.elem tmM (.int 2)) (.int 60)) (by decide +kernel))
theorem gM_3 (hf : ∀ w ∈ flG, w.before #[Value.ref b] s = true) : (Term.elem tmM (.int 3)).eval #[Value.ref b] s none [] s = some (.int 60) := va_eqt (hf (.eq (.elem tmM (.int 3)) (.int 60)) (by decide +kernel))
theorem gM_4 (hf : ∀ w ∈ flG, w.before #[Value.ref b] s = true) : (Term.elem tmM (.int 4)).eval #[Value.ref b] s none [] s = some (.int 60) := va_eqt (hf (.eq (.elem tmM (.int 4)) (.int 60)) (by decide +kernel))
theorem gM_5 (hf : ∀ w ∈ flG, w.before #[Value.ref b] s = true) : (Term.elem tmM (.int 5)).eval #[Value.ref b] s none [] s = some (.int 9) := va_eqt (hf (.eq (.elem tmM (.int 5)) (.int 9)) (by decide +kernel))
theorem gM_6 (hf : ∀ w ∈ flG, w.before #[Value.ref b] s = true) : (Term.elem tmM (.int 6)).eval #[Value.ref b] s none [] s = some (.int 1) := va_eqt (hf (.eq (.elem tmM (.int 6)) (.int 1)) (by decide +kernel))
theorem gM_7 (hf : ∀ w ∈ flG, w.before #[Value.ref b] s = true) : (Term.elem tmM (.int 7)).eval #[Value.ref b] s none [] s = some (.int 9) := va_eqt (hf (.eq (.elem tmM (.int 7)) (.int 9)) (by decide +kernel))
theorem gM_8 (hf : ∀ w ∈ flG, w.before #[Value.ref b] s = true) : (Term.elem tmM (.int 8)).eval #[Value.ref b] s none [] s = some (.int 2) := va_eqt (hf (.eq (.elem tmM (.int 8)) (.int 2)) (by decide +kernel))
theorem gM_9 (hf : ∀ w ∈ flG, w.before #[Value.ref b] s = true) : (Term.elem tmM (.int 9)).eval #[Value.ref b] s none [] s = some (.int 20) := va_eqt (hf (.eq (.elem tmM (.int 9)) (.int 20)) (by decide +kernel))
theorem gT_0 (hf : ∀ w ∈ flG, w.before #[Value.ref b] s = true) : (Cond.eq (.elem tmV (.int 0)) (.int 111)).before #[Value.ref b] s = true := hf (.eq (.elem tmV (.int 0)) (.int 111)) (by decide +kernel)
theorem gT_1 (hf : ∀ w ∈ flG, w.before #[Value.ref b] s = true) : (Cond.eq (.elem tmV (.int 1)) (.int 109)).before #[Value.ref b] s = true := hf (.eq (.elem tmV (.int 1)) (.int 109)) (by decide +kernel)
theorem gT_2 (hf : ∀ w ∈ flG, w.before #[Value.ref b] s = true) : (Cond.eq (.elem tmV (.int 2)) (.int 116)).before #[Value.ref b] s = true := hf (.eq (.elem tmV (.int 2)) (.int 116)) (by decide +kernel)
theorem gT_3 (hf : ∀ w ∈ flG, w.before #[Value.ref b] s = true) : (Cond.eq (.elem tmV (.int 3)) (.int 100)).before #[Value.ref b] s = true := hf (.eq (.elem tmV (.int 3)) (.int 100)) (by decide +kernel)
theorem gT_4 (hf : ∀ w ∈ flG, w.before #[Value.ref b] s = true) : (Cond.eq (.elem tmV (.int 4)) (.int 103)).before #[Value.ref b] s = true := hf (.eq (.elem tmV (.int 4)) (.int 103)) (by decide +kernel)
theorem gT_5 (hf : ∀ w ∈ flG, w.before #[Value.ref b] s = true) : (Cond.eq (.elem tmV (.int 5)) (.int 113)).before #[Value.ref b] s = true := hf (.eq (.elem tmV (.int 5)) (.int 113)) (by decide +kernel)
theorem given_St (hts : ∀ w ∈ lw_tbl, w.before #[Value.ref b] s = true) (hf : ∀ w ∈ flG, w.before #[Value.ref b] s = true) (dC : Nat → ClassId) (dI : Nat → Nat → Nat) (cY : ClassId) {A : Nat → Prop} (hA : ∀ a : Nat, a < s.heap.size → ¬ A a) : ∃ t0 : Nat, StN (dC, dI, cY, t0) A s s.heap := by
  obtain ⟨t0, h1, h2⟩ := va_Tof (args := #[Value.ref b]) (s := s) (tm := tmS) (ty := .int) (N := 10) (f := fun j => .int (nI (setN j))) (A := A) (by decide) (hf (.arrayOf tmS .int) (by decide +kernel)) (va_eqt (hf (.eq (.length tmS) (.int 10)) (by decide +kernel))) (fun j hj => by
    rcases (show j = 0 ∨ j = 1 ∨ j = 2 ∨ j = 3 ∨ j = 4 ∨ j = 5 ∨ j = 6 ∨ j = 7 ∨ j = 8 ∨ j = 9 by omega) with rfl | rfl | rfl | rfl | rfl | rfl | rfl | rfl | rfl | rfl

    · exact gS_0 hf
    · exact gS_1 hf
    · exact gS_2 hf
    · exact gS_3 hf
    · exact gS_4 hf
    · exact gS_5 hf
    · exact gS_6 hf
    · exact gS_7 hf
    · exact gS_8 hf
    · exact gS_9 hf
    ) hA
  exact ⟨t0, va_Zref (hts _ (lt1 29 rfl)) (hts _ (WS_in nX4)) h1 hA, h2, va_Nw.of rfl (hts _ (lt1 28 rfl)), va_Nw.of rfl (hts _ (lt1 70 rfl)), va_Nw.of rfl (hts _ (lt1 126 rfl)), va_Nw.of rfl (hts _ (lt1 140 rfl))⟩
theorem given_Sd (hts : ∀ w ∈ lw_tbl, w.before #[Value.ref b] s = true) (hf : ∀ w ∈ flG, w.before #[Value.ref b] s = true) {A : Nat → Prop} (hA : ∀ a : Nat, a < s.heap.size → ¬ A a) : ∃ t1 t2 t3 : Nat, ∀ G : GX, gA G 60 = t1 → gA G 61 = t2 → gA G 62 = t3 → Sd G A s s.heap := by
  obtain ⟨t1, h1, h2⟩ := va_Tof (args := #[Value.ref b]) (s := s) (tm := tmM) (ty := .int) (N := 10) (f := fun j => .int (nI (mostN j))) (A := A) (by decide) (hf (.arrayOf tmM .int) (by decide +kernel)) (va_eqt (hf (.eq (.length tmM) (.int 10)) (by decide +kernel))) (fun j hj => by
    rcases (show j = 0 ∨ j = 1 ∨ j = 2 ∨ j = 3 ∨ j = 4 ∨ j = 5 ∨ j = 6 ∨ j = 7 ∨ j = 8 ∨ j = 9 by omega) with rfl | rfl | rfl | rfl | rfl | rfl | rfl | rfl | rfl | rfl

    · exact gM_0 hf
    · exact gM_1 hf
    · exact gM_2 hf
    · exact gM_3 hf
    · exact gM_4 hf
    · exact gM_5 hf
    · exact gM_6 hf
    · exact gM_7 hf
    · exact gM_8 hf
    · exact gM_9 hf
    ) hA
  obtain ⟨a, c, cA, kA, q1, q2, q3, q4, q5, q6, -⟩ := Cond.exactly_spec (args := #[Value.ref b]) (first := s) (o := none) (s := s) (idx := []) (t := tmT) (cls := "java/lang/String") (hf (.exactly tmT "java/lang/String") (by decide +kernel))
  obtain ⟨t3, h3, h4⟩ := va_Tof (args := #[Value.ref b]) (s := s) (tm := tmV) (ty := .byte) (N := 6) (f := fun j => .int (nI (letN j))) (A := A) (by decide) (hf (.arrayOf tmV .byte) (by decide +kernel)) (va_eqt (hf (.eq (.length tmV) (.int 6)) (by decide +kernel))) (fun j hj => by
    rcases (show j = 0 ∨ j = 1 ∨ j = 2 ∨ j = 3 ∨ j = 4 ∨ j = 5 by omega) with rfl | rfl | rfl | rfl | rfl | rfl

    · exact va_eqt (gT_0 hf)
    · exact va_eqt (gT_1 hf)
    · exact va_eqt (gT_2 hf)
    · exact va_eqt (gT_3 hf)
    · exact va_eqt (gT_4 hf)
    · exact va_eqt (gT_5 hf)
    ) hA
  refine ⟨t1, a, t3, fun G e1 e2 e3 => ?_⟩
  unfold Sd
  rw [e1, e2, e3]
  refine ⟨va_Zref (hts _ (lt2 14 rfl)) (hts _ (WS_in nX4)) h1 hA, h2, va_Zof (hts _ (lt3 188 rfl)) (hts _ (WS_in nJ0)) (va_eqt (hf (.eq (.static "java/lang/String" "COMPACT_STRINGS" "Z") (.int 1)) (by decide +kernel))) hA, vk_R.of (hts _ (lt3 174 rfl)) q1, ⟨cA, q3, q5, by rw [q6]; exact q2, hA a (Array.getElem?_eq_some_iff.mp q3).1⟩, vk_OFof q1 (va_eqt (hf (.eq (.field tmT "java/lang/String" "coder" "B") (.int 0)) (by decide +kernel))) hA, vk_OFof q1 h3 hA, h4, va_Nw.of rfl (hts _ (lt2 13 rfl))⟩
end START
