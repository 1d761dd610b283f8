-- THE REFERENCE: late
theorem j_lcmp {G : GX} {X : XC} {own : String} {cc : ByteArray} {d pc : Nat} {lv : List (Option Value)} {st : List Value} {μ : Mem} {x y : Int64} (C : Cx G X own cc d) (hd : decode cc pc = .ok (.lcmp, 1)) (k : J G X (pc + 1) lv (.int (lg_cmp x y) :: st) μ) : J G X pc lv (.long y :: .long x :: st) μ := by
  obtain ⟨p, e, R, s, m, args, below, meth, c, nL, A0, ce, sl, Q⟩ := X
  obtain ⟨hx, hb, hml, hown, hts, hK, hSd, hI, hA0, hdf, hdl, hce, hsl⟩ := C
  intro H locs ls hP hS hl
  exact W.lcmp hx hb hd (k H locs ls hP hS hl)
theorem lcmp0 {x y : Int64} : lg_cmp x y = 0 ↔ x = y := by
  unfold lg_cmp
  split
  · rename_i h
    constructor
    · intro q; exact absurd q (by decide)
    · intro q; subst q; exact absurd h (Int64.lt_irrefl)
  · split
    · rename_i h2; exact ⟨fun _ => h2, fun _ => rfl⟩
    · rename_i h2; exact ⟨fun q => absurd q (by decide), fun q => absurd q h2⟩
theorem lN_ne0 {g : Nat} (h1 : 0 < g) (h2 : g < 2 ^ 31) : ¬ lN g = 0 := fun e => by
  have := (lN_eq (b := 0) h2 (by decide)).mp e
  omega
theorem cdt_10 : ∀ r, r < 10 → cdt r = Nat.gcd r 10 := by decide
theorem cdt_gcd (a : Nat) : cdt a = Nat.gcd a 10 := by
  have h1 : cdt a = cdt (a % 10) := by
    unfold cdt
    rw [show a % 10 % 10 = a % 10 by omega, show a % 10 % 5 = a % 5 by omega, show a % 10 % 2 = a % 2 by omega]
  have h2 : Nat.gcd a 10 = Nat.gcd (a % 10) 10 := by rw [Nat.gcd_comm, Nat.gcd_rec]
  rw [h1, h2]
  exact cdt_10 _ (Nat.mod_lt _ (by decide))
theorem gcd_st (a b : Nat) : Nat.gcd b (a % b) = Nat.gcd a b := by
  rw [Nat.gcd_comm a b, Nat.gcd_rec b a, Nat.gcd_comm]
theorem KM_long {a b : Mem} (h : ∀ q, q ≠ 38 → b q = a q) (g : ∀ k, k < 28 → b 38 k = a 38 k) : KM a b :=
  ⟨fun q hq => h q (by omega), ⟨g 0 (by decide), fun k i _ _ _ => congrFun (h (38 + k) (by omega)) i, fun i _ => congrFun (h 44 (by decide)) i⟩, g 15 (by decide), g 16 (by decide), g 20 (by decide), g 23 (by decide), h 52 (by decide), h 54 (by decide), h 55 (by decide), h 56 (by decide)⟩
theorem tg0 {l a b : Nat} : tGoes 0 l a b = if a = b then 0 else l + dist a b := by
  unfold tGoes
  rw [if_pos rfl]
theorem tg1 {l a b : Nat} : tGoes 1 l a b = 3 * dist a b := by
  unfold tGoes
  by_cases h : a = b
  · rw [if_pos h]; subst h; unfold dist; simp
  · rw [if_neg h, if_neg (by decide)]
set_option maxRecDepth 100000 in
set_option maxHeartbeats 4000000 in
theorem ev_X5_least {G : GX} {μ : Mem} (h1 : μ 38 28 < 2 ^ 31) (h10 : μ 38 29 = 10) : Ev G mX5_least 0 [rf G 38] μ (PVe (up (up μ 38 28 (μ 38 28 / (cdt (μ 38 28)))) 38 29 (10 / (cdt (μ 38 28))))) := by
  refine Ev.of (own := RX5) (n := 6) (by decide) rfl rfl (catOK rfl) (fun X C E => ?_)
  show J G X 0 [some _, none, none, none, none, none, none] [] _
  have loop : ∀ k a9 b9 x5, b9 < k → a9 < 2 ^ 31 → b9 < 2 ^ 31 → Nat.gcd a9 b9 = Nat.gcd (μ 38 28) 10 → J G X 10 [some (rf G 38), some (.long (lN a9)), none, some (.long (lN b9)), none, x5, none] [] μ := by
    intro k
    induction k with
    | zero => intro a9 b9 x5 hk; exact absurd hk (Nat.not_lt_zero _)
    | succ k ih =>
      intro a9 b9 x5 hk ha hb hg
      refine j_lload_n C dX5_least_10 rfl ?_
      refine j_lconst (v := lN 0) C dX5_least_11 (by decide) ?_
      refine j_lcmp C dX5_least_12 ?_
      refine j_if_eq (tgt := 29) C dX5_least_13 (by decide) (fun c_13 => ?_) (fun c_13 => ?_)
      · have hb0 : b9 = 0 := (lN_eq (b := 0) hb (by decide)).mp (lcmp0.mp c_13)
        have hag : a9 = (cdt (μ 38 28)) := by rw [hb0, Nat.gcd_zero_right] at hg; rw [cdt_gcd]; exact hg
        have hcb := cdt_b (μ 38 28)
        refine j_aload_n C dX5_least_29 rfl ?_
        refine j_dup C dX5_least_30 rfl ?_
        refine g5_28 C dX5_least_31 lFX5_196 ?_
        refine j_lload_n C dX5_least_34 rfl ?_
        refine j_ldiv C dX5_least_35 (lN_ne0 (by omega) ha) ?_
        rw [pk_lDiv (by omega) (by omega) (by omega), hag]
        refine p5_28 C dX5_least_36 lFX5_196 ?_
        refine j_aload_n C dX5_least_39 rfl ?_
        refine j_dup C dX5_least_40 rfl ?_
        refine g5_29 C dX5_least_41 lFX5_202 ?_
        refine j_lload_n C dX5_least_44 rfl ?_
        rw [← hag, up_off (Or.inr (by decide)), h10]
        refine j_ldiv C dX5_least_45 (lN_ne0 (by omega) ha) ?_
        rw [pk_lDiv (by omega) (by omega) (by omega), hag]
        refine p5_29 C dX5_least_46 lFX5_202 ?_
        exact j_vret C E dX5_least_49 ⟨rfl, rfl⟩
      · have hb0 : 0 < b9 := by
          rcases Nat.eq_zero_or_pos b9 with q | q
          · exact absurd (lcmp0.mpr (by rw [q])) c_13
          · exact q
        have hml := Nat.mod_lt a9 hb0
        refine j_lload_n C dX5_least_16 rfl ?_
        refine j_lload_n C dX5_least_17 rfl ?_
        refine j_lrem C dX5_least_18 (lN_ne0 hb0 hb) ?_
        rw [pk_lRem (by omega) hb0 (by omega)]
        refine j_lstoreG C dX5_least_19 (by simp) rfl ?_
        refine j_lload_n C dX5_least_21 rfl ?_
        refine j_lstoreGn C dX5_least_22 (by simp) rfl ?_
        refine j_lload C dX5_least_23 rfl ?_
        refine j_lstoreGn C dX5_least_25 (Nat.le_of_ble_eq_true rfl) rfl ?_
        refine j_goto (tgt := 10) C dX5_least_26 (by decide) ?_
        exact ih b9 (a9 % b9) _ (by omega) hb (by omega) (by rw [gcd_st]; exact hg)
  refine j_aload_n C dX5_least_0 rfl ?_
  refine g5_28 C dX5_least_1 lFX5_196 ?_
  refine j_lstoreGn C dX5_least_4 (by simp) rfl ?_
  refine j_aload_n C dX5_least_5 rfl ?_
  refine g5_29 C dX5_least_6 lFX5_202 ?_
  refine j_lstoreGn C dX5_least_9 (Nat.le_of_ble_eq_true rfl) rfl ?_
  exact loop (μ 38 29 + 1) _ _ _ (by omega) h1 (by omega) (by rw [h10])
set_option maxRecDepth 100000 in
set_option maxHeartbeats 4000000 in
theorem ev_X5_late {G : GX} {x9 y9 : Int32} {μ : Mem} (hE : EI (sh μ 38)) (hP : PI5 (sh μ 38)) : Ev G mX5_late 2 [rf G 38, .int x9, .int y9] μ (PL (OutML (kLa x9 y9) (laW (sh μ 38) (μ 43) x9.toNatClampNeg y9) μ)) := by
  refine Ev.of (own := RX5) (n := 4) (by decide) rfl rfl (catOK rfl) (fun X C E => ?_)
  show J G X 0 [some _, some _, some _, none, none, none, none] [] _
  have hn : μ 38 0 ≤ 6 := hE.1
  refine j_iload_n C dX5_late_0 rfl ?_
  refine j_if_ge (tgt := 11) C dX5_late_1 (by decide) (fun c_1 => ?_) (fun c_1 => ?_)
  · refine j_iload_n C dX5_late_11 rfl ?_
    refine j_bipush (v := nI 10) C dX5_late_12 (by decide) ?_
    refine j_icmp_le (tgt := 24) C dX5_late_14 (by decide) (fun c_19 => ?_) (fun c_19 => ?_)
    · obtain ⟨a9, ha9, rfl⟩ := nI_of2 (n := 10) (M := nI 10) (x := x9) (by decide) (Int32.not_lt.mpr c_1) c_19
      refine j_iload_n C dX5_late_24 rfl ?_
      refine j_iconst (v := nI 0) C dX5_late_25 (by decide) ?_
      refine j_iconst (v := nI 1) C dX5_late_26 (by decide) ?_
      refine cSe3 C dX5_late_27 lMX5_83 myX5_within (ev_X5_within) (by omega) (Nat.le_of_ble_eq_true rfl) ?_
      refine J.top (b2i_mo (q := 0 ≤ y9 ∧ y9 ≤ nI 1) in_01) ?_
      first | refine j_if_neB (tgt := 40) C dX5_late_30 (by decide) (fun c_40 => ?_) (fun c_40 => ?_) | refine j_if_neN (tgt := 40) C dX5_late_30 (by decide) (by omega) (fun c_40 => ?_) (fun c_40 => ?_) | refine j_if_ne (tgt := 40) C dX5_late_30 (by decide) (fun c_40 => ?_) (fun c_40 => ?_)
      · have kq : kLa (nI a9) y9 = 0 := by rw [kLa, if_neg (Int32.not_lt.mpr c_1), if_neg (Int32.not_lt.mpr c_19), if_pos c_40]
        refine j_iconst (v := nI 0) C dX5_late_40 (by decide) ?_
        refine sn3 C dX5_late_41 rfl ?_
        refine j_aload_n C dX5_late_42 rfl ?_
        refine g5_6 C dX5_late_43 lFX5_25 ?_
        refine j_iconst (v := nI 5) C dX5_late_46 (by decide) ?_
        refine j_iald C dX5_late_47 iA_44 (by omega) ?_
        refine sl4 C dX5_late_48 rfl ?_
        refine j_iconst (v := nI 0) C dX5_late_50 (by decide) ?_
        refine sl5 C dX5_late_51 rfl ?_
        have loop : ∀ k i9 x6, i9 + k = μ 38 0 → J G X 53 [some (rf G 38), some (.int (nI a9)), some (.int y9), some (.int (nI (sumTo (lateF (sh μ 38) (μ 43) a9) i9))), some (.int (nI (vFrom (sh μ 38) (μ 43) i9))), some (.int (nI i9)), x6] [] μ := by
          intro k
          induction k with
          | zero =>
            intro i9 x6 hi
            refine j_iload C dX5_late_53 rfl ?_
            refine j_aload_n C dX5_late_55 rfl ?_
            refine g5_0 C dX5_late_56 lFX5_79 ?_
            first | refine j_icmp_geN (tgt := 115) C dX5_late_59 (by decide) (by omega) (by omega) (fun c_59 => ?_) (fun c_59 => ?_) | refine j_icmp_ge (tgt := 115) C dX5_late_59 (by decide) (fun c_59 => ?_) (fun c_59 => ?_)
            · have hin : i9 = μ 38 0 := by omega
              have hsn : (sumTo (lateF (sh μ 38) (μ 43) a9) i9) = (lateN (sh μ 38) (μ 43) a9) := by rw [hin]; rfl
              have hlb : (lateN (sh μ 38) (μ 43) a9) ≤ 2700 := lateN_le hE hP.1 ha9
              rw [hsn]
              refine j_aload_n C dX5_late_115 rfl ?_
              refine j_iload_n C dX5_late_116 rfl ?_
              first | refine j_i2lN C dX5_late_117 (by omega) ?_ | refine j_i2l C dX5_late_117 ?_
              refine p5_28 C dX5_late_118 lFX5_196 ?_
              refine j_aload_n C dX5_late_121 rfl ?_
              refine j_ldc2 (v := lN 10) C dX5_late_122 lCX5_200 ?_
              refine p5_29 C dX5_late_125 lFX5_202 ?_
              refine j_aload_n C dX5_late_128 rfl ?_
              refine cVw0 C dX5_late_129 lMX5_205 myX5_least (ev_X5_least (by rw [up_off (Or.inr (by decide)), up_at]; omega) up_at) (by omega) rc5 (Nat.le_of_ble_eq_true rfl) ?_
              have e9 : up (up μ 38 28 (lateN (sh μ 38) (μ 43) a9)) 38 29 10 38 28 = (lateN (sh μ 38) (μ 43) a9) := by rw [up_off (Or.inr (by decide)), up_at]
              rw [e9]
              refine j_iload_n C dX5_late_132 rfl ?_
              refine j_if_ne (tgt := 143) C dX5_late_133 (by decide) (fun c_133 => ?_) (fun c_133 => ?_)
              · refine j_aload_n C dX5_late_143 rfl ?_
                refine g5_29 C dX5_late_144 lFX5_202 ?_
                rw [show up (up (up (up μ 38 28 (lateN (sh μ 38) (μ 43) a9)) 38 29 10) 38 28 ((lateN (sh μ 38) (μ 43) a9) / cdt (lateN (sh μ 38) (μ 43) a9))) 38 29 (10 / cdt (lateN (sh μ 38) (μ 43) a9)) 38 29 = 10 / cdt (lateN (sh μ 38) (μ 43) a9) from up_at]
                exact j_lret C E dX5_late_147 (by
                      have hkm : KM μ (up (up (up (up μ 38 28 (lateN (sh μ 38) (μ 43) a9)) 38 29 10) 38 28 ((lateN (sh μ 38) (μ 43) a9) / cdt (lateN (sh μ 38) (μ 43) a9))) 38 29 (10 / cdt (lateN (sh μ 38) (μ 43) a9))) := KM_long (fun q hq => by rw [up_ne hq, up_ne hq, up_ne hq, up_ne hq]) (fun k hk => by rw [up_off (Or.inr (by omega)), up_off (Or.inr (by omega)), up_off (Or.inr (by omega)), up_off (Or.inr (by omega))])
                      first | exact ⟨_, rfl, Or.inl ⟨kq, by rw [cl (by omega), laW, if_pos c_133], hkm⟩⟩ | exact ⟨_, rfl, Or.inl ⟨kq, by rw [cl (by omega), laW, if_neg c_133], hkm⟩⟩)
              · refine j_aload_n C dX5_late_136 rfl ?_
                refine g5_28 C dX5_late_137 lFX5_196 ?_
                rw [show up (up (up (up μ 38 28 (lateN (sh μ 38) (μ 43) a9)) 38 29 10) 38 28 ((lateN (sh μ 38) (μ 43) a9) / cdt (lateN (sh μ 38) (μ 43) a9))) 38 29 (10 / cdt (lateN (sh μ 38) (μ 43) a9)) 38 28 = (lateN (sh μ 38) (μ 43) a9) / cdt (lateN (sh μ 38) (μ 43) a9) by rw [up_off (Or.inr (by decide)), up_at]]
                refine j_goto (tgt := 147) C dX5_late_140 (by decide) ?_
                exact j_lret C E dX5_late_147 (by
                      have hkm : KM μ (up (up (up (up μ 38 28 (lateN (sh μ 38) (μ 43) a9)) 38 29 10) 38 28 ((lateN (sh μ 38) (μ 43) a9) / cdt (lateN (sh μ 38) (μ 43) a9))) 38 29 (10 / cdt (lateN (sh μ 38) (μ 43) a9))) := KM_long (fun q hq => by rw [up_ne hq, up_ne hq, up_ne hq, up_ne hq]) (fun k hk => by rw [up_off (Or.inr (by omega)), up_off (Or.inr (by omega)), up_off (Or.inr (by omega)), up_off (Or.inr (by omega))])
                      first | exact ⟨_, rfl, Or.inl ⟨kq, by rw [cl (by omega), laW, if_pos c_133], hkm⟩⟩ | exact ⟨_, rfl, Or.inl ⟨kq, by rw [cl (by omega), laW, if_neg c_133], hkm⟩⟩)
            · exact absurd c_59 (by omega)
          | succ k ih =>
            intro i9 x6 hi
            refine j_iload C dX5_late_53 rfl ?_
            refine j_aload_n C dX5_late_55 rfl ?_
            refine g5_0 C dX5_late_56 lFX5_79 ?_
            first | refine j_icmp_geN (tgt := 115) C dX5_late_59 (by decide) (by omega) (by omega) (fun c_59 => ?_) (fun c_59 => ?_) | refine j_icmp_ge (tgt := 115) C dX5_late_59 (by decide) (fun c_59 => ?_) (fun c_59 => ?_)
            · exact absurd c_59 (by omega)
            · have hlt : i9 < (sh μ 38) 0 0 := by show i9 < μ 38 0; omega
              have hvf : vFrom (sh μ 38) (μ 43) i9 ≤ 9 := vFrom_le hE hP.1 hlt
              have hoi : μ 43 i9 < μ 38 0 := hP.1 i9 hlt
              have hlv : (sh μ 38) 2 (μ 43 i9) ≤ 9 := (hE.2.1 _ hoi).2.1
              have hl7 : μ 44 7 ≤ 9 := hE.set.2.2.2.2.2.2.2.1
              refine j_aload_n C dX5_late_62 rfl ?_
              refine g5_2 C dX5_late_63 lFX5_13 ?_
              refine j_aload_n C dX5_late_66 rfl ?_
              refine g5_5 C dX5_late_67 lFX5_22 ?_
              refine j_iload C dX5_late_70 rfl ?_
              refine j_iald C dX5_late_72 iA_43 (by omega) ?_
              refine J.top (y := nI (μ 43 i9)) rfl ?_
              refine j_iald C dX5_late_73 iA_40 (by omega) ?_
              refine J.top (y := nI ((sh μ 38) 2 (μ 43 i9))) rfl ?_
              refine sl6 C dX5_late_74 rfl ?_
              refine j_iload_n C dX5_late_76 rfl ?_
              refine j_bipush (v := nI 10) C dX5_late_77 (by decide) ?_
              refine j_iload_n C dX5_late_79 rfl ?_
              refine j_isubN C dX5_late_80 (by omega) ?_
              refine j_aload_n C dX5_late_81 rfl ?_
              refine j_iload C dX5_late_82 rfl ?_
              refine j_iload C dX5_late_84 rfl ?_
              refine j_iconst (v := nI 0) C dX5_late_86 (by decide) ?_
              refine cVe3 C dX5_late_87 lMX5_143 myX5_goes (ev_X5_goes hvf hlv (by decide) hl7) (by omega) rc5 (Nat.le_of_ble_eq_true rfl) ?_
              refine J.top (y := nI (liftF (sh μ 38) (vFrom (sh μ 38) (μ 43) i9) ((sh μ 38) 2 (μ 43 i9)))) (by rw [tg0]; rfl) ?_
              first | refine j_imulN C dX5_late_90 ?_ | refine j_imul C dX5_late_90 ?_
              refine j_iload_n C dX5_late_91 rfl ?_
              refine j_aload_n C dX5_late_92 rfl ?_
              refine j_iload C dX5_late_93 rfl ?_
              refine j_iload C dX5_late_95 rfl ?_
              refine j_iconst (v := nI 1) C dX5_late_97 (by decide) ?_
              refine cVe3 C dX5_late_98 lMX5_143 myX5_goes (ev_X5_goes hvf hlv (by decide) hl7) (by omega) rc5 (Nat.le_of_ble_eq_true rfl) ?_
              refine J.top (y := nI (3 * dist (vFrom (sh μ 38) (μ 43) i9) ((sh μ 38) 2 (μ 43 i9)))) (by rw [tg1]) ?_
              first | refine j_imulN C dX5_late_101 ?_ | refine j_imul C dX5_late_101 ?_
              first | refine j_iaddN C dX5_late_102 ?_ | refine j_iadd C dX5_late_102 ?_
              first | refine j_iaddN C dX5_late_103 ?_ | refine j_iadd C dX5_late_103 ?_
              refine J.top (y := nI (sumTo (lateF (sh μ 38) (μ 43) a9) (i9 + 1))) (by rw [sumTo]; rfl) ?_
              refine sn3 C dX5_late_104 rfl ?_
              refine j_iload C dX5_late_105 rfl ?_
              refine J.top (y := nI (vFrom (sh μ 38) (μ 43) (i9 + 1))) rfl ?_
              refine sl4 C dX5_late_107 rfl ?_
              first | refine in5 C dX5_late_109 (nI_1 _) rfl ?_ | refine in5 C dX5_late_109 rfl rfl ?_
              refine j_goto (tgt := 53) C dX5_late_112 (by decide) ?_
              exact ih (i9 + 1) _ (by omega)
        exact loop (μ 38 0) 0 _ (by omega)
      · refine j_aload_n C dX5_late_33 rfl ?_
        refine j_bipush (v := (-2)) C dX5_late_34 (by decide) ?_
        refine cVl1 C dX5_late_36 lMX5_192 myX5_noFar (ev_X5_noFar (k := 2) (by decide) (by decide)) (by omega) rc5 (Nat.le_of_ble_eq_true rfl) (fun v_36 μ_36 hv_36 => ?_)
        exact j_lret C E dX5_late_39 ⟨_, rfl, Or.inr ⟨by rw [kLa2 (Int32.not_lt.mpr c_1) (Int32.not_lt.mpr c_19) c_40]; decide, by rw [kLa2 (Int32.not_lt.mpr c_1) (Int32.not_lt.mpr c_19) c_40, hv_36.1]; rfl, by rw [kLa2 (Int32.not_lt.mpr c_1) (Int32.not_lt.mpr c_19) c_40, hv_36.2]⟩⟩
    · refine j_aload_n C dX5_late_17 rfl ?_
      refine j_bipush (v := (-6)) C dX5_late_18 (by decide) ?_
      refine cVl1 C dX5_late_20 lMX5_192 myX5_noFar (ev_X5_noFar (k := 6) (by decide) (by decide)) (by omega) rc5 (Nat.le_of_ble_eq_true rfl) (fun v_20 μ_20 hv_20 => ?_)
      exact j_lret C E dX5_late_23 ⟨_, rfl, Or.inr ⟨by rw [kLa6 (Int32.not_lt.mpr c_1) (Int32.not_le.mp c_19)]; decide, by rw [kLa6 (Int32.not_lt.mpr c_1) (Int32.not_le.mp c_19), hv_20.1]; rfl, by rw [kLa6 (Int32.not_lt.mpr c_1) (Int32.not_le.mp c_19), hv_20.2]⟩⟩
  · refine j_aload_n C dX5_late_4 rfl ?_
    refine j_bipush (v := (-4)) C dX5_late_5 (by decide) ?_
    refine cVl1 C dX5_late_7 lMX5_192 myX5_noFar (ev_X5_noFar (k := 4) (by decide) (by decide)) (by omega) rc5 (Nat.le_of_ble_eq_true rfl) (fun v_7 μ_7 hv_7 => ?_)
    exact j_lret C E dX5_late_10 ⟨_, rfl, Or.inr ⟨by rw [kLa4 (Int32.not_le.mp c_1)]; decide, by rw [kLa4 (Int32.not_le.mp c_1), hv_7.1]; rfl, by rw [kLa4 (Int32.not_le.mp c_1), hv_7.2]⟩⟩
