-- THE READER: letters by themselves
theorem b2i_mo {p q : Prop} [Decidable p] [Decidable q] (h : p ↔ q) : b2i p = b2i q := by unfold b2i; by_cases c : p; (rw [if_pos c, if_pos (h.mp c)]); rw [if_neg c, if_neg (fun z => c (h.mpr z))]
def kdI (c : Nat) : Int32 := if c = 111 then nI 0 else if c = 109 then nI 1 else if c = 116 then nI 2 else if c = 100 then nI 3 else if c = 103 then nI 4 else if c = 113 then nI 5 else -1
theorem kdI_of {c : Nat} (h : isKd c) : kdI c = nI (kdN c) := by rcases h with rfl | rfl | rfl | rfl | rfl | rfl <;> rfl
theorem kdI_no {c : Nat} (h : ¬ isKd c) : kdI c = -1 := by
  unfold isKd at h
  unfold kdI
  rw [if_neg (by omega), if_neg (by omega), if_neg (by omega), if_neg (by omega), if_neg (by omega), if_neg (by omega)]
theorem mayS_last {L : Nat → Nat} {a i z : Nat} (h : i = z - 1) : mayS L a i z ↔ L (a + i) = 59 := by unfold mayS; rw [if_pos h]
theorem mayS_kind {L : Nat → Nat} {a i z : Nat} (h : ¬ i = z - 1) (h2 : i = 1 ∧ L a = 102) : mayS L a i z ↔ isKd (L (a + i)) := by unfold mayS; rw [if_neg h, if_pos h2]
theorem mayS_dig {L : Nat → Nat} {a i z : Nat} (h : ¬ i = z - 1) (h2 : ¬ (i = 1 ∧ L a = 102)) : mayS L a i z ↔ (48 ≤ L (a + i) ∧ L (a + i) ≤ 57) := by unfold mayS; rw [if_neg h, if_neg h2]
set_option maxRecDepth 100000 in
set_option maxHeartbeats 4000000 in
theorem ev_X2_len {G : GX} {c9 : Nat} {μ : Mem} (hc : c9 ≤ 255) : Ev G mX2_lengthOfStatement 0 [.int (nI c9)] μ (PIe (nI (slen c9)) μ) := by
  refine Ev.of (own := RX2) (n := 0) (by decide) rfl rfl (catOK rfl) (fun X C E => ?_)
  show J G X 0 [some _] [] _
  refine j_iload_n C dX2_lengthOfStatement_0 rfl ?_
  have hsw9 : c9 = 98 ∨ c9 = 99 ∨ c9 = 100 ∨ c9 = 101 ∨ c9 = 102 ∨ c9 = 103 ∨ c9 = 104 ∨ c9 = 105 ∨ c9 = 106 ∨ c9 = 107 ∨ c9 = 108 ∨ c9 = 109 ∨ c9 = 110 ∨ c9 = 111 ∨ c9 = 112 ∨ c9 = 113 ∨ c9 = 114 ∨ c9 = 115 ∨ c9 = 116 ∨ c9 = 117 ∨ c9 = 118 ∨ c9 = 119 ∨ c9 = 120 ∨ (c9 < 98 ∨ 120 < c9) := by omega
  rcases hsw9 with rfl | rfl | rfl | rfl | rfl | rfl | rfl | rfl | rfl | rfl | rfl | rfl | rfl | rfl | rfl | rfl | rfl | rfl | rfl | rfl | rfl | rfl | rfl | hsw9
  · refine j_tabIn (tgt := 114) C dX2_lengthOfStatement_1 (by decide) (by decide) (off := 113) (by decide) (by decide) ?_
    refine j_bipush (v := nI 8) C dX2_lengthOfStatement_114 (by decide) ?_
    exact j_iret C E dX2_lengthOfStatement_116 (by first | exact ret_e (by decide) | exact ret_e (by unfold slen; rw [if_neg (by omega), if_neg (by omega), if_neg (by omega), if_neg (by omega), if_neg (by omega), if_neg (by omega), if_neg (by omega)]))
  · refine j_tabIn (tgt := 125) C dX2_lengthOfStatement_1 (by decide) (by decide) (off := 124) (by decide) (by decide) ?_
    refine j_iconst (v := nI 0) C dX2_lengthOfStatement_125 (by decide) ?_
    exact j_iret C E dX2_lengthOfStatement_126 (by first | exact ret_e (by decide) | exact ret_e (by unfold slen; rw [if_neg (by omega), if_neg (by omega), if_neg (by omega), if_neg (by omega), if_neg (by omega), if_neg (by omega), if_neg (by omega)]))
  · refine j_tabIn (tgt := 125) C dX2_lengthOfStatement_1 (by decide) (by decide) (off := 124) (by decide) (by decide) ?_
    refine j_iconst (v := nI 0) C dX2_lengthOfStatement_125 (by decide) ?_
    exact j_iret C E dX2_lengthOfStatement_126 (by first | exact ret_e (by decide) | exact ret_e (by unfold slen; rw [if_neg (by omega), if_neg (by omega), if_neg (by omega), if_neg (by omega), if_neg (by omega), if_neg (by omega), if_neg (by omega)]))
  · refine j_tabIn (tgt := 125) C dX2_lengthOfStatement_1 (by decide) (by decide) (off := 124) (by decide) (by decide) ?_
    refine j_iconst (v := nI 0) C dX2_lengthOfStatement_125 (by decide) ?_
    exact j_iret C E dX2_lengthOfStatement_126 (by first | exact ret_e (by decide) | exact ret_e (by unfold slen; rw [if_neg (by omega), if_neg (by omega), if_neg (by omega), if_neg (by omega), if_neg (by omega), if_neg (by omega), if_neg (by omega)]))
  · refine j_tabIn (tgt := 108) C dX2_lengthOfStatement_1 (by decide) (by decide) (off := 107) (by decide) (by decide) ?_
    refine j_bipush (v := nI 7) C dX2_lengthOfStatement_108 (by decide) ?_
    exact j_iret C E dX2_lengthOfStatement_110 (by first | exact ret_e (by decide) | exact ret_e (by unfold slen; rw [if_neg (by omega), if_neg (by omega), if_neg (by omega), if_neg (by omega), if_neg (by omega), if_neg (by omega), if_neg (by omega)]))
  · refine j_tabIn (tgt := 119) C dX2_lengthOfStatement_1 (by decide) (by decide) (off := 118) (by decide) (by decide) ?_
    refine j_iconst (v := nI 4) C dX2_lengthOfStatement_119 (by decide) ?_
    exact j_iret C E dX2_lengthOfStatement_120 (by first | exact ret_e (by decide) | exact ret_e (by unfold slen; rw [if_neg (by omega), if_neg (by omega), if_neg (by omega), if_neg (by omega), if_neg (by omega), if_neg (by omega), if_neg (by omega)]))
  · refine j_tabIn (tgt := 125) C dX2_lengthOfStatement_1 (by decide) (by decide) (off := 124) (by decide) (by decide) ?_
    refine j_iconst (v := nI 0) C dX2_lengthOfStatement_125 (by decide) ?_
    exact j_iret C E dX2_lengthOfStatement_126 (by first | exact ret_e (by decide) | exact ret_e (by unfold slen; rw [if_neg (by omega), if_neg (by omega), if_neg (by omega), if_neg (by omega), if_neg (by omega), if_neg (by omega), if_neg (by omega)]))
  · refine j_tabIn (tgt := 125) C dX2_lengthOfStatement_1 (by decide) (by decide) (off := 124) (by decide) (by decide) ?_
    refine j_iconst (v := nI 0) C dX2_lengthOfStatement_125 (by decide) ?_
    exact j_iret C E dX2_lengthOfStatement_126 (by first | exact ret_e (by decide) | exact ret_e (by unfold slen; rw [if_neg (by omega), if_neg (by omega), if_neg (by omega), if_neg (by omega), if_neg (by omega), if_neg (by omega), if_neg (by omega)]))
  · refine j_tabIn (tgt := 125) C dX2_lengthOfStatement_1 (by decide) (by decide) (off := 124) (by decide) (by decide) ?_
    refine j_iconst (v := nI 0) C dX2_lengthOfStatement_125 (by decide) ?_
    exact j_iret C E dX2_lengthOfStatement_126 (by first | exact ret_e (by decide) | exact ret_e (by unfold slen; rw [if_neg (by omega), if_neg (by omega), if_neg (by omega), if_neg (by omega), if_neg (by omega), if_neg (by omega), if_neg (by omega)]))
  · refine j_tabIn (tgt := 125) C dX2_lengthOfStatement_1 (by decide) (by decide) (off := 124) (by decide) (by decide) ?_
    refine j_iconst (v := nI 0) C dX2_lengthOfStatement_125 (by decide) ?_
    exact j_iret C E dX2_lengthOfStatement_126 (by first | exact ret_e (by decide) | exact ret_e (by unfold slen; rw [if_neg (by omega), if_neg (by omega), if_neg (by omega), if_neg (by omega), if_neg (by omega), if_neg (by omega), if_neg (by omega)]))
  · refine j_tabIn (tgt := 125) C dX2_lengthOfStatement_1 (by decide) (by decide) (off := 124) (by decide) (by decide) ?_
    refine j_iconst (v := nI 0) C dX2_lengthOfStatement_125 (by decide) ?_
    exact j_iret C E dX2_lengthOfStatement_126 (by first | exact ret_e (by decide) | exact ret_e (by unfold slen; rw [if_neg (by omega), if_neg (by omega), if_neg (by omega), if_neg (by omega), if_neg (by omega), if_neg (by omega), if_neg (by omega)]))
  · refine j_tabIn (tgt := 125) C dX2_lengthOfStatement_1 (by decide) (by decide) (off := 124) (by decide) (by decide) ?_
    refine j_iconst (v := nI 0) C dX2_lengthOfStatement_125 (by decide) ?_
    exact j_iret C E dX2_lengthOfStatement_126 (by first | exact ret_e (by decide) | exact ret_e (by unfold slen; rw [if_neg (by omega), if_neg (by omega), if_neg (by omega), if_neg (by omega), if_neg (by omega), if_neg (by omega), if_neg (by omega)]))
  · refine j_tabIn (tgt := 125) C dX2_lengthOfStatement_1 (by decide) (by decide) (off := 124) (by decide) (by decide) ?_
    refine j_iconst (v := nI 0) C dX2_lengthOfStatement_125 (by decide) ?_
    exact j_iret C E dX2_lengthOfStatement_126 (by first | exact ret_e (by decide) | exact ret_e (by unfold slen; rw [if_neg (by omega), if_neg (by omega), if_neg (by omega), if_neg (by omega), if_neg (by omega), if_neg (by omega), if_neg (by omega)]))
  · refine j_tabIn (tgt := 125) C dX2_lengthOfStatement_1 (by decide) (by decide) (off := 124) (by decide) (by decide) ?_
    refine j_iconst (v := nI 0) C dX2_lengthOfStatement_125 (by decide) ?_
    exact j_iret C E dX2_lengthOfStatement_126 (by first | exact ret_e (by decide) | exact ret_e (by unfold slen; rw [if_neg (by omega), if_neg (by omega), if_neg (by omega), if_neg (by omega), if_neg (by omega), if_neg (by omega), if_neg (by omega)]))
  · refine j_tabIn (tgt := 125) C dX2_lengthOfStatement_1 (by decide) (by decide) (off := 124) (by decide) (by decide) ?_
    refine j_iconst (v := nI 0) C dX2_lengthOfStatement_125 (by decide) ?_
    exact j_iret C E dX2_lengthOfStatement_126 (by first | exact ret_e (by decide) | exact ret_e (by unfold slen; rw [if_neg (by omega), if_neg (by omega), if_neg (by omega), if_neg (by omega), if_neg (by omega), if_neg (by omega), if_neg (by omega)]))
  · refine j_tabIn (tgt := 125) C dX2_lengthOfStatement_1 (by decide) (by decide) (off := 124) (by decide) (by decide) ?_
    refine j_iconst (v := nI 0) C dX2_lengthOfStatement_125 (by decide) ?_
    exact j_iret C E dX2_lengthOfStatement_126 (by first | exact ret_e (by decide) | exact ret_e (by unfold slen; rw [if_neg (by omega), if_neg (by omega), if_neg (by omega), if_neg (by omega), if_neg (by omega), if_neg (by omega), if_neg (by omega)]))
  · refine j_tabIn (tgt := 121) C dX2_lengthOfStatement_1 (by decide) (by decide) (off := 120) (by decide) (by decide) ?_
    refine j_iconst (v := nI 5) C dX2_lengthOfStatement_121 (by decide) ?_
    exact j_iret C E dX2_lengthOfStatement_122 (by first | exact ret_e (by decide) | exact ret_e (by unfold slen; rw [if_neg (by omega), if_neg (by omega), if_neg (by omega), if_neg (by omega), if_neg (by omega), if_neg (by omega), if_neg (by omega)]))
  · refine j_tabIn (tgt := 117) C dX2_lengthOfStatement_1 (by decide) (by decide) (off := 116) (by decide) (by decide) ?_
    refine j_iconst (v := nI 3) C dX2_lengthOfStatement_117 (by decide) ?_
    exact j_iret C E dX2_lengthOfStatement_118 (by first | exact ret_e (by decide) | exact ret_e (by unfold slen; rw [if_neg (by omega), if_neg (by omega), if_neg (by omega), if_neg (by omega), if_neg (by omega), if_neg (by omega), if_neg (by omega)]))
  · refine j_tabIn (tgt := 125) C dX2_lengthOfStatement_1 (by decide) (by decide) (off := 124) (by decide) (by decide) ?_
    refine j_iconst (v := nI 0) C dX2_lengthOfStatement_125 (by decide) ?_
    exact j_iret C E dX2_lengthOfStatement_126 (by first | exact ret_e (by decide) | exact ret_e (by unfold slen; rw [if_neg (by omega), if_neg (by omega), if_neg (by omega), if_neg (by omega), if_neg (by omega), if_neg (by omega), if_neg (by omega)]))
  · refine j_tabIn (tgt := 111) C dX2_lengthOfStatement_1 (by decide) (by decide) (off := 110) (by decide) (by decide) ?_
    refine j_bipush (v := nI 6) C dX2_lengthOfStatement_111 (by decide) ?_
    exact j_iret C E dX2_lengthOfStatement_113 (by first | exact ret_e (by decide) | exact ret_e (by unfold slen; rw [if_neg (by omega), if_neg (by omega), if_neg (by omega), if_neg (by omega), if_neg (by omega), if_neg (by omega), if_neg (by omega)]))
  · refine j_tabIn (tgt := 125) C dX2_lengthOfStatement_1 (by decide) (by decide) (off := 124) (by decide) (by decide) ?_
    refine j_iconst (v := nI 0) C dX2_lengthOfStatement_125 (by decide) ?_
    exact j_iret C E dX2_lengthOfStatement_126 (by first | exact ret_e (by decide) | exact ret_e (by unfold slen; rw [if_neg (by omega), if_neg (by omega), if_neg (by omega), if_neg (by omega), if_neg (by omega), if_neg (by omega), if_neg (by omega)]))
  · refine j_tabIn (tgt := 125) C dX2_lengthOfStatement_1 (by decide) (by decide) (off := 124) (by decide) (by decide) ?_
    refine j_iconst (v := nI 0) C dX2_lengthOfStatement_125 (by decide) ?_
    exact j_iret C E dX2_lengthOfStatement_126 (by first | exact ret_e (by decide) | exact ret_e (by unfold slen; rw [if_neg (by omega), if_neg (by omega), if_neg (by omega), if_neg (by omega), if_neg (by omega), if_neg (by omega), if_neg (by omega)]))
  · refine j_tabIn (tgt := 123) C dX2_lengthOfStatement_1 (by decide) (by decide) (off := 122) (by decide) (by decide) ?_
    refine j_iconst (v := nI 4) C dX2_lengthOfStatement_123 (by decide) ?_
    exact j_iret C E dX2_lengthOfStatement_124 (by first | exact ret_e (by decide) | exact ret_e (by unfold slen; rw [if_neg (by omega), if_neg (by omega), if_neg (by omega), if_neg (by omega), if_neg (by omega), if_neg (by omega), if_neg (by omega)]))
  · refine j_tabOut (tgt := 125) C dX2_lengthOfStatement_1 (by rw [nI_toInt (by omega)]; omega) (by decide) ?_
    refine j_iconst (v := nI 0) C dX2_lengthOfStatement_125 (by decide) ?_
    exact j_iret C E dX2_lengthOfStatement_126 (by first | exact ret_e (by decide) | exact ret_e (by unfold slen; rw [if_neg (by omega), if_neg (by omega), if_neg (by omega), if_neg (by omega), if_neg (by omega), if_neg (by omega), if_neg (by omega)]))
set_option maxRecDepth 100000 in
set_option maxHeartbeats 4000000 in
theorem ev_X2_kindOf {G : GX} {c9 : Nat} {μ : Mem} (hc : c9 ≤ 255) : Ev G mX2_kindOf 0 [.int (nI c9)] μ (PIe (kdI c9) μ) := by
  refine Ev.of (own := RX2) (n := 0) (by decide) rfl rfl (catOK rfl) (fun X C E => ?_)
  show J G X 0 [some _] [] _
  refine j_iload_n C dX2_kindOf_0 rfl ?_
  have hsw9 : c9 = 100 ∨ c9 = 101 ∨ c9 = 102 ∨ c9 = 103 ∨ c9 = 104 ∨ c9 = 105 ∨ c9 = 106 ∨ c9 = 107 ∨ c9 = 108 ∨ c9 = 109 ∨ c9 = 110 ∨ c9 = 111 ∨ c9 = 112 ∨ c9 = 113 ∨ c9 = 114 ∨ c9 = 115 ∨ c9 = 116 ∨ (c9 < 100 ∨ 116 < c9) := by omega
  rcases hsw9 with rfl | rfl | rfl | rfl | rfl | rfl | rfl | rfl | rfl | rfl | rfl | rfl | rfl | rfl | rfl | rfl | rfl | hsw9
  · refine j_tabIn (tgt := 90) C dX2_kindOf_1 (by decide) (by decide) (off := 89) (by decide) (by decide) ?_
    refine j_iconst (v := nI 3) C dX2_kindOf_90 (by decide) ?_
    exact j_iret C E dX2_kindOf_91 (And.intro (by first | rfl | (rw [kdI_no (by unfold isKd; omega)])) rfl)
  · refine j_tabIn (tgt := 96) C dX2_kindOf_1 (by decide) (by decide) (off := 95) (by decide) (by decide) ?_
    refine j_iconst (v := (-1)) C dX2_kindOf_96 (by decide) ?_
    exact j_iret C E dX2_kindOf_97 (And.intro (by first | rfl | (rw [kdI_no (by unfold isKd; omega)])) rfl)
  · refine j_tabIn (tgt := 96) C dX2_kindOf_1 (by decide) (by decide) (off := 95) (by decide) (by decide) ?_
    refine j_iconst (v := (-1)) C dX2_kindOf_96 (by decide) ?_
    exact j_iret C E dX2_kindOf_97 (And.intro (by first | rfl | (rw [kdI_no (by unfold isKd; omega)])) rfl)
  · refine j_tabIn (tgt := 92) C dX2_kindOf_1 (by decide) (by decide) (off := 91) (by decide) (by decide) ?_
    refine j_iconst (v := nI 4) C dX2_kindOf_92 (by decide) ?_
    exact j_iret C E dX2_kindOf_93 (And.intro (by first | rfl | (rw [kdI_no (by unfold isKd; omega)])) rfl)
  · refine j_tabIn (tgt := 96) C dX2_kindOf_1 (by decide) (by decide) (off := 95) (by decide) (by decide) ?_
    refine j_iconst (v := (-1)) C dX2_kindOf_96 (by decide) ?_
    exact j_iret C E dX2_kindOf_97 (And.intro (by first | rfl | (rw [kdI_no (by unfold isKd; omega)])) rfl)
  · refine j_tabIn (tgt := 96) C dX2_kindOf_1 (by decide) (by decide) (off := 95) (by decide) (by decide) ?_
    refine j_iconst (v := (-1)) C dX2_kindOf_96 (by decide) ?_
    exact j_iret C E dX2_kindOf_97 (And.intro (by first | rfl | (rw [kdI_no (by unfold isKd; omega)])) rfl)
  · refine j_tabIn (tgt := 96) C dX2_kindOf_1 (by decide) (by decide) (off := 95) (by decide) (by decide) ?_
    refine j_iconst (v := (-1)) C dX2_kindOf_96 (by decide) ?_
    exact j_iret C E dX2_kindOf_97 (And.intro (by first | rfl | (rw [kdI_no (by unfold isKd; omega)])) rfl)
  · refine j_tabIn (tgt := 96) C dX2_kindOf_1 (by decide) (by decide) (off := 95) (by decide) (by decide) ?_
    refine j_iconst (v := (-1)) C dX2_kindOf_96 (by decide) ?_
    exact j_iret C E dX2_kindOf_97 (And.intro (by first | rfl | (rw [kdI_no (by unfold isKd; omega)])) rfl)
  · refine j_tabIn (tgt := 96) C dX2_kindOf_1 (by decide) (by decide) (off := 95) (by decide) (by decide) ?_
    refine j_iconst (v := (-1)) C dX2_kindOf_96 (by decide) ?_
    exact j_iret C E dX2_kindOf_97 (And.intro (by first | rfl | (rw [kdI_no (by unfold isKd; omega)])) rfl)
  · refine j_tabIn (tgt := 86) C dX2_kindOf_1 (by decide) (by decide) (off := 85) (by decide) (by decide) ?_
    refine j_iconst (v := nI 1) C dX2_kindOf_86 (by decide) ?_
    exact j_iret C E dX2_kindOf_87 (And.intro (by first | rfl | (rw [kdI_no (by unfold isKd; omega)])) rfl)
  · refine j_tabIn (tgt := 96) C dX2_kindOf_1 (by decide) (by decide) (off := 95) (by decide) (by decide) ?_
    refine j_iconst (v := (-1)) C dX2_kindOf_96 (by decide) ?_
    exact j_iret C E dX2_kindOf_97 (And.intro (by first | rfl | (rw [kdI_no (by unfold isKd; omega)])) rfl)
  · refine j_tabIn (tgt := 84) C dX2_kindOf_1 (by decide) (by decide) (off := 83) (by decide) (by decide) ?_
    refine j_iconst (v := nI 0) C dX2_kindOf_84 (by decide) ?_
    exact j_iret C E dX2_kindOf_85 (And.intro (by first | rfl | (rw [kdI_no (by unfold isKd; omega)])) rfl)
  · refine j_tabIn (tgt := 96) C dX2_kindOf_1 (by decide) (by decide) (off := 95) (by decide) (by decide) ?_
    refine j_iconst (v := (-1)) C dX2_kindOf_96 (by decide) ?_
    exact j_iret C E dX2_kindOf_97 (And.intro (by first | rfl | (rw [kdI_no (by unfold isKd; omega)])) rfl)
  · refine j_tabIn (tgt := 94) C dX2_kindOf_1 (by decide) (by decide) (off := 93) (by decide) (by decide) ?_
    refine j_iconst (v := nI 5) C dX2_kindOf_94 (by decide) ?_
    exact j_iret C E dX2_kindOf_95 (And.intro (by first | rfl | (rw [kdI_no (by unfold isKd; omega)])) rfl)
  · refine j_tabIn (tgt := 96) C dX2_kindOf_1 (by decide) (by decide) (off := 95) (by decide) (by decide) ?_
    refine j_iconst (v := (-1)) C dX2_kindOf_96 (by decide) ?_
    exact j_iret C E dX2_kindOf_97 (And.intro (by first | rfl | (rw [kdI_no (by unfold isKd; omega)])) rfl)
  · refine j_tabIn (tgt := 96) C dX2_kindOf_1 (by decide) (by decide) (off := 95) (by decide) (by decide) ?_
    refine j_iconst (v := (-1)) C dX2_kindOf_96 (by decide) ?_
    exact j_iret C E dX2_kindOf_97 (And.intro (by first | rfl | (rw [kdI_no (by unfold isKd; omega)])) rfl)
  · refine j_tabIn (tgt := 88) C dX2_kindOf_1 (by decide) (by decide) (off := 87) (by decide) (by decide) ?_
    refine j_iconst (v := nI 2) C dX2_kindOf_88 (by decide) ?_
    exact j_iret C E dX2_kindOf_89 (And.intro (by first | rfl | (rw [kdI_no (by unfold isKd; omega)])) rfl)
  · refine j_tabOut (tgt := 96) C dX2_kindOf_1 (by rw [nI_toInt (by omega)]; omega) (by decide) ?_
    refine j_iconst (v := (-1)) C dX2_kindOf_96 (by decide) ?_
    exact j_iret C E dX2_kindOf_97 (And.intro (by first | rfl | (rw [kdI_no (by unfold isKd; omega)])) rfl)
set_option maxRecDepth 100000 in
set_option maxHeartbeats 4000000 in
theorem ev_X2_digit {G : GX} {i9 : Nat} {μ : Mem} (hi : i9 < 96) (h48 : 48 ≤ μ 35 i9) : Ev G mX2_digit 0 [rf G 34, .int (nI i9)] μ (PIe (nI (dg (μ 35) i9)) μ) := by
  refine Ev.of (own := RX2) (n := 0) (by decide) rfl rfl (catOK rfl) (fun X C E => ?_)
  show J G X 0 [some _, some _] [] _
  refine j_aload_n C dX2_digit_0 rfl ?_
  refine g2_0 C dX2_digit_1 lFX2_9 ?_
  refine j_iload_n C dX2_digit_4 rfl ?_
  refine j_iald C dX2_digit_5 iA_35 (by omega) ?_
  refine j_bipush (v := nI 48) C dX2_digit_6 (by decide) ?_
  first | refine j_isubN C dX2_digit_8 (by omega) ?_ | refine j_isub C dX2_digit_8 ?_
  exact j_iret C E dX2_digit_9 ⟨rfl, rfl⟩
set_option maxRecDepth 100000 in
set_option maxHeartbeats 4000000 in
theorem ev_X2_two {G : GX} {i9 : Nat} {μ : Mem} (hi : i9 + 1 < 96) (h48 : 48 ≤ μ 35 i9) (h482 : 48 ≤ μ 35 (i9 + 1)) : Ev G mX2_two 1 [rf G 34, .int (nI i9)] μ (PIe (nI (tw2 (μ 35) i9)) μ) := by
  refine Ev.of (own := RX2) (n := 0) (by decide) rfl rfl (catOK rfl) (fun X C E => ?_)
  show J G X 0 [some _, some _] [] _
  refine j_bipush (v := nI 10) C dX2_two_0 (by decide) ?_
  refine j_aload_n C dX2_two_2 rfl ?_
  refine j_iload_n C dX2_two_3 rfl ?_
  refine cVe1 C dX2_two_4 lMX2_54 myX2_digit (ev_X2_digit (by omega) h48) (by omega) rc2 (Nat.le_of_ble_eq_true rfl) ?_
  first | refine j_imulN C dX2_two_7 ?_ | refine j_imul C dX2_two_7 ?_
  refine j_aload_n C dX2_two_8 rfl ?_
  refine j_iload_n C dX2_two_9 rfl ?_
  refine j_iconst (v := nI 1) C dX2_two_10 (by decide) ?_
  first | refine j_iaddN C dX2_two_11 ?_ | refine j_iadd C dX2_two_11 ?_
  refine cVe1 C dX2_two_12 lMX2_54 myX2_digit (ev_X2_digit hi h482) (by omega) rc2 (Nat.le_of_ble_eq_true rfl) ?_
  first | refine j_iaddN C dX2_two_15 ?_ | refine j_iadd C dX2_two_15 ?_
  exact j_iret C E dX2_two_16 ⟨rfl, rfl⟩
set_option maxRecDepth 100000 in
set_option maxHeartbeats 4000000 in
theorem ev_X2_mayStand {G : GX} {a9 i9 z9 : Nat} {μ : Mem} (hn : μ 34 1 ≤ 96) (hL : ∀ i, i < μ 34 1 → μ 35 i ≤ 255) (ha : a9 + i9 < μ 34 1) (hi1 : 1 ≤ i9) (hiz : i9 < z9) (hz : z9 ≤ 8) : Ev G mX2_mayStand 1 [rf G 34, .int (nI a9), .int (nI i9), .int (nI z9)] μ (PI (fun v μ' => μ' = μ ∧ ((mayS (μ 35) a9 i9 z9 ∧ v = nI 1) ∨ (¬ mayS (μ 35) a9 i9 z9 ∧ v = nI 0)))) := by
  refine Ev.of (own := RX2) (n := 1) (by decide) rfl rfl (catOK rfl) (fun X C E => ?_)
  show J G X 0 [some _, some _, some _, some _, none] [] _
  have hLa := hL (a9 + i9) ha
  have hL0 := hL a9 (by omega)
  refine j_aload_n C dX2_mayStand_0 rfl ?_
  refine g2_0 C dX2_mayStand_1 lFX2_9 ?_
  refine j_iload_n C dX2_mayStand_4 rfl ?_
  refine j_iload_n C dX2_mayStand_5 rfl ?_
  first | refine j_iaddN C dX2_mayStand_6 ?_ | refine j_iadd C dX2_mayStand_6 ?_
  refine j_iald C dX2_mayStand_7 iA_35 (by omega) ?_
  refine sl4 C dX2_mayStand_8 rfl ?_
  refine j_iload_n C dX2_mayStand_10 rfl ?_
  refine j_iload_n C dX2_mayStand_11 rfl ?_
  refine j_iconst (v := nI 1) C dX2_mayStand_12 (by decide) ?_
  first | refine j_isubN C dX2_mayStand_13 (by omega) ?_ | refine j_isub C dX2_mayStand_13 ?_
  first | refine j_icmp_neN (tgt := 30) C dX2_mayStand_14 (by decide) (by omega) (by omega) (fun c_14 => ?_) (fun c_14 => ?_) | refine j_icmp_ne (tgt := 30) C dX2_mayStand_14 (by decide) (fun c_14 => ?_) (fun c_14 => ?_)
  · refine j_iload_n C dX2_mayStand_30 rfl ?_
    refine j_iconst (v := nI 1) C dX2_mayStand_31 (by decide) ?_
    first | refine j_icmp_neN (tgt := 60) C dX2_mayStand_32 (by decide) (by omega) (by omega) (fun c_32 => ?_) (fun c_32 => ?_) | refine j_icmp_ne (tgt := 60) C dX2_mayStand_32 (by decide) (fun c_32 => ?_) (fun c_32 => ?_)
    · have hkn : ¬ (i9 = 1 ∧ μ 35 a9 = 102) := fun q => c_32 q.1
      refine j_iload C dX2_mayStand_60 rfl ?_
      refine j_bipush (v := nI 48) C dX2_mayStand_62 (by decide) ?_
      first | refine j_icmp_ltN (tgt := 78) C dX2_mayStand_64 (by decide) (by omega) (by omega) (fun c_64 => ?_) (fun c_64 => ?_) | refine j_icmp_lt (tgt := 78) C dX2_mayStand_64 (by decide) (fun c_64 => ?_) (fun c_64 => ?_)
      · refine j_iconst (v := nI 0) C dX2_mayStand_78 (by decide) ?_
        exact j_zret C E dX2_mayStand_79 rfl (by first | exact ⟨_, rfl, rfl, Or.inl ⟨(mayS_dig c_14 hkn).mpr (And.intro c_64 c_71), rfl⟩⟩ | exact ⟨_, rfl, rfl, Or.inr ⟨fun q => absurd ((mayS_dig c_14 hkn).mp q).2 (Nat.not_le.mpr c_71), rfl⟩⟩ | exact ⟨_, rfl, rfl, Or.inr ⟨fun q => absurd ((mayS_dig c_14 hkn).mp q).1 (Nat.not_le.mpr c_64), rfl⟩⟩)
      · refine j_iload C dX2_mayStand_67 rfl ?_
        refine j_bipush (v := nI 57) C dX2_mayStand_69 (by decide) ?_
        first | refine j_icmp_gtN (tgt := 78) C dX2_mayStand_71 (by decide) (by omega) (by omega) (fun c_71 => ?_) (fun c_71 => ?_) | refine j_icmp_gt (tgt := 78) C dX2_mayStand_71 (by decide) (fun c_71 => ?_) (fun c_71 => ?_)
        · refine j_iconst (v := nI 0) C dX2_mayStand_78 (by decide) ?_
          exact j_zret C E dX2_mayStand_79 rfl (by first | exact ⟨_, rfl, rfl, Or.inl ⟨(mayS_dig c_14 hkn).mpr (And.intro c_64 c_71), rfl⟩⟩ | exact ⟨_, rfl, rfl, Or.inr ⟨fun q => absurd ((mayS_dig c_14 hkn).mp q).2 (Nat.not_le.mpr c_71), rfl⟩⟩ | exact ⟨_, rfl, rfl, Or.inr ⟨fun q => absurd ((mayS_dig c_14 hkn).mp q).1 (Nat.not_le.mpr c_64), rfl⟩⟩)
        · refine j_iconst (v := nI 1) C dX2_mayStand_74 (by decide) ?_
          refine j_goto (tgt := 79) C dX2_mayStand_75 (by decide) ?_
          exact j_zret C E dX2_mayStand_79 rfl (by first | exact ⟨_, rfl, rfl, Or.inl ⟨(mayS_dig c_14 hkn).mpr (And.intro c_64 c_71), rfl⟩⟩ | exact ⟨_, rfl, rfl, Or.inr ⟨fun q => absurd ((mayS_dig c_14 hkn).mp q).2 (Nat.not_le.mpr c_71), rfl⟩⟩ | exact ⟨_, rfl, rfl, Or.inr ⟨fun q => absurd ((mayS_dig c_14 hkn).mp q).1 (Nat.not_le.mpr c_64), rfl⟩⟩)
    · refine j_aload_n C dX2_mayStand_35 rfl ?_
      refine g2_0 C dX2_mayStand_36 lFX2_9 ?_
      refine j_iload_n C dX2_mayStand_39 rfl ?_
      refine j_iald C dX2_mayStand_40 iA_35 (by omega) ?_
      refine j_bipush (v := nI 102) C dX2_mayStand_41 (by decide) ?_
      first | refine j_icmp_neN (tgt := 60) C dX2_mayStand_43 (by decide) (by omega) (by omega) (fun c_43 => ?_) (fun c_43 => ?_) | refine j_icmp_ne (tgt := 60) C dX2_mayStand_43 (by decide) (fun c_43 => ?_) (fun c_43 => ?_)
      · have hkn : ¬ (i9 = 1 ∧ μ 35 a9 = 102) := fun q => c_43 q.2
        refine j_iload C dX2_mayStand_60 rfl ?_
        refine j_bipush (v := nI 48) C dX2_mayStand_62 (by decide) ?_
        first | refine j_icmp_ltN (tgt := 78) C dX2_mayStand_64 (by decide) (by omega) (by omega) (fun c_64 => ?_) (fun c_64 => ?_) | refine j_icmp_lt (tgt := 78) C dX2_mayStand_64 (by decide) (fun c_64 => ?_) (fun c_64 => ?_)
        · refine j_iconst (v := nI 0) C dX2_mayStand_78 (by decide) ?_
          exact j_zret C E dX2_mayStand_79 rfl (by first | exact ⟨_, rfl, rfl, Or.inl ⟨(mayS_dig c_14 hkn).mpr (And.intro c_64 c_71), rfl⟩⟩ | exact ⟨_, rfl, rfl, Or.inr ⟨fun q => absurd ((mayS_dig c_14 hkn).mp q).2 (Nat.not_le.mpr c_71), rfl⟩⟩ | exact ⟨_, rfl, rfl, Or.inr ⟨fun q => absurd ((mayS_dig c_14 hkn).mp q).1 (Nat.not_le.mpr c_64), rfl⟩⟩)
        · refine j_iload C dX2_mayStand_67 rfl ?_
          refine j_bipush (v := nI 57) C dX2_mayStand_69 (by decide) ?_
          first | refine j_icmp_gtN (tgt := 78) C dX2_mayStand_71 (by decide) (by omega) (by omega) (fun c_71 => ?_) (fun c_71 => ?_) | refine j_icmp_gt (tgt := 78) C dX2_mayStand_71 (by decide) (fun c_71 => ?_) (fun c_71 => ?_)
          · refine j_iconst (v := nI 0) C dX2_mayStand_78 (by decide) ?_
            exact j_zret C E dX2_mayStand_79 rfl (by first | exact ⟨_, rfl, rfl, Or.inl ⟨(mayS_dig c_14 hkn).mpr (And.intro c_64 c_71), rfl⟩⟩ | exact ⟨_, rfl, rfl, Or.inr ⟨fun q => absurd ((mayS_dig c_14 hkn).mp q).2 (Nat.not_le.mpr c_71), rfl⟩⟩ | exact ⟨_, rfl, rfl, Or.inr ⟨fun q => absurd ((mayS_dig c_14 hkn).mp q).1 (Nat.not_le.mpr c_64), rfl⟩⟩)
          · refine j_iconst (v := nI 1) C dX2_mayStand_74 (by decide) ?_
            refine j_goto (tgt := 79) C dX2_mayStand_75 (by decide) ?_
            exact j_zret C E dX2_mayStand_79 rfl (by first | exact ⟨_, rfl, rfl, Or.inl ⟨(mayS_dig c_14 hkn).mpr (And.intro c_64 c_71), rfl⟩⟩ | exact ⟨_, rfl, rfl, Or.inr ⟨fun q => absurd ((mayS_dig c_14 hkn).mp q).2 (Nat.not_le.mpr c_71), rfl⟩⟩ | exact ⟨_, rfl, rfl, Or.inr ⟨fun q => absurd ((mayS_dig c_14 hkn).mp q).1 (Nat.not_le.mpr c_64), rfl⟩⟩)
      · have hkk : i9 = 1 ∧ μ 35 a9 = 102 := ⟨c_32, c_43⟩
        refine j_iload C dX2_mayStand_46 rfl ?_
        refine cSe1 C dX2_mayStand_48 lMX2_41 myX2_kindOf (ev_X2_kindOf (by omega)) (by omega) (Nat.le_of_ble_eq_true rfl) ?_
        rcases Classical.em (isKd (μ 35 (a9 + i9))) with hkd | hkd
        · rw [kdI_of hkd]
          refine j_if_ltN C dX2_mayStand_51 (tgt := 58) (by decide) (Nat.lt_of_le_of_lt (show kdN _ ≤ 5 by unfold kdN; (repeat' split) <;> omega) (by decide)) ?_
          refine j_iconst (v := nI 1) C dX2_mayStand_54 (by decide) ?_
          refine j_goto (tgt := 59) C dX2_mayStand_55 (by decide) ?_
          exact j_zret C E dX2_mayStand_59 rfl ⟨_, rfl, rfl, Or.inl ⟨(mayS_kind c_14 hkk).mpr hkd, rfl⟩⟩
        · rw [kdI_no hkd]
          refine j_if_lt (tgt := 58) C dX2_mayStand_51 (by decide) (fun c_51 => ?_) (fun c_51 => absurd (by decide) c_51)
          refine j_iconst (v := nI 0) C dX2_mayStand_58 (by decide) ?_
          exact j_zret C E dX2_mayStand_59 rfl ⟨_, rfl, rfl, Or.inr ⟨fun q => hkd ((mayS_kind c_14 hkk).mp q), rfl⟩⟩
  · refine j_iload C dX2_mayStand_17 rfl ?_
    refine j_bipush (v := nI 59) C dX2_mayStand_19 (by decide) ?_
    first | refine j_icmp_neN (tgt := 28) C dX2_mayStand_21 (by decide) (by omega) (by omega) (fun c_21 => ?_) (fun c_21 => ?_) | refine j_icmp_ne (tgt := 28) C dX2_mayStand_21 (by decide) (fun c_21 => ?_) (fun c_21 => ?_)
    · refine j_iconst (v := nI 0) C dX2_mayStand_28 (by decide) ?_
      exact j_zret C E dX2_mayStand_29 rfl (by first | exact ⟨_, rfl, rfl, Or.inl ⟨(mayS_last c_14).mpr c_21, rfl⟩⟩ | exact ⟨_, rfl, rfl, Or.inr ⟨fun q => c_21 ((mayS_last c_14).mp q), rfl⟩⟩)
    · refine j_iconst (v := nI 1) C dX2_mayStand_24 (by decide) ?_
      refine j_goto (tgt := 29) C dX2_mayStand_25 (by decide) ?_
      exact j_zret C E dX2_mayStand_29 rfl (by first | exact ⟨_, rfl, rfl, Or.inl ⟨(mayS_last c_14).mpr c_21, rfl⟩⟩ | exact ⟨_, rfl, rfl, Or.inr ⟨fun q => c_21 ((mayS_last c_14).mp q), rfl⟩⟩)
