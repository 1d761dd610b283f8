-- A VISIT, AND THE ROUND
theorem vWarm_eq {E : Mem} {f c : Nat} {s : RS} : vWarm E f c s = vBase E f c s - (vClk E f c s - vSince E f c s) / 4 := by
  unfold vWarm vBase vClk vSince vDeg
  (repeat' split) <;> omega
theorem vKept_last {E : Mem} {i : Nat} (h : i + 1 = E 0 0) : vKept E i = 0 := if_pos h
theorem vKept_not {E : Mem} {i : Nat} (h : ¬ i + 1 = E 0 0) : vKept E i = E 6 9 := if_neg h
def Lo (ν μ : Mem) : Prop := ∀ q, q < 22 → ν q = μ q
theorem RM_lo {μ0 : Mem} {c7 c8 c9 c10 c11 c12 c13 : Nat} {t mi wa se ic co sd : Nat → Nat} : Lo (RM μ0 c7 c8 c9 c10 c11 c12 c13 t mi wa se ic co sd) μ0 := fun q hq => RM_off (Or.inl hq)
section ROUNDE
variable {G : GX} {h f : Nat} {μ ν : Mem}
theorem sh_f {k i : Nat} : sh μ h k i = μ (h + k) i := rfl
theorem eR_coming (hh : isH h) (hE : EI (sh μ h)) (hq : Lo ν μ) (hf : f < μ h 0) {c : Nat} (ht : c < 2 ^ 30) : Ev G mX0_comingAt 1 [rf G h, .int (nI f), .int (nI c)] ν (PIe (nI (vCome (sh μ h) f c)) ν) := by
  have hb := isH_le hh
  have h1 := hE.2.1 f hf
  have hn : μ h 0 ≤ 6 := hE.1
  have e1 := hq (h + 1) (by omega)
  have e3 := hq (h + 3) (by omega)
  have := ev_X0_comingAt (G := G) (μ := ν) (t := c) hh (show f < 6 by omega) (by rw [e1]; exact h1.1) (by rw [e3]; exact h1.2.2.2.1) ht
  rw [e1, e3] at this
  exact this
theorem eR_serve (hh : isH h) (hE : EI (sh μ h)) (hq : Lo ν μ) (hf : f < μ h 0) {n : Nat} (hn : n ≤ 20) : Ev G mX0_minutesToServe 1 [rf G h, .int (nI f), .int (nI n)] ν (PIe (nI (tServes (sh μ h 1 f) (sh μ h 4 f) n)) ν) := by
  have hb := isH_le hh
  have h1 := hE.2.1 f hf
  have h6 : μ h 0 ≤ 6 := hE.1
  have e1 := hq (h + 1) (by omega)
  have e4 := hq (h + 4) (by omega)
  have := ev_X0_minutesToServe (G := G) (μ := ν) hh (show f < 6 by omega) (by rw [e1]; exact h1.1) (by rw [e4]; exact h1.2.2.2.2) hn
  rw [e1, e4] at this
  exact this
theorem eR_buns (hh : isH h) (hE : EI (sh μ h)) (hq : Lo ν μ) (hf : f < μ h 0) : Ev G mX0_bunsWanted 0 [rf G h, .int (nI f)] ν (PIe (nI (if sh μ h 1 f = 4 then 3 else 1)) ν) := by
  have hb := isH_le hh
  have h1 := hE.2.1 f hf
  have h6 : μ h 0 ≤ 6 := hE.1
  have e1 := hq (h + 1) (by omega)
  have := ev_X0_bunsWanted (G := G) (μ := ν) hh (show f < 6 by omega) (by rw [e1]; exact h1.1)
  rw [e1] at this
  exact this
theorem eR_between (hh : isH h) (hE : EI (sh μ h)) (hq : Lo ν μ) {a b : Nat} (ha : a ≤ 9) (hb9 : b ≤ 9) : Ev G mX0_minutesBetween 2 [rf G h, .int (nI a), .int (nI b)] ν (PIe (nI (tGoes (sh μ h 6 6) (sh μ h 6 7) a b)) ν) := by
  have hb := isH_le hh
  have e6 := hq (h + 6) (by omega)
  have := ev_X0_minutesBetween (G := G) (μ := ν) (a := a) (b := b) hh (by rw [e6]; exact hE.set.2.2.2.2.2.2.1) (by omega) (by omega)
  rw [e6] at this
  exact this
end ROUNDE
set_option maxRecDepth 100000 in
set_option maxHeartbeats 4000000 in
theorem ev_X3_visit {G : GX} {μ0 : Mem} {h f i c w : Nat} {s : RS} {mi wa se ic co sd : Nat → Nat} {t0 t1 t2 t3 t4 t5 t6 t7 : Nat} {r : Nat → Nat} (hh : isH h) (hE : EI (sh μ0 h)) (hf : f < μ0 h 0) (hi : i < μ0 h 0) (hs : SB i s) (hc : s.1 ≤ c) (hc2 : c ≤ 60 * i + 27) (hw : w = 0 ∨ w = 1) : Ev G mX3_visit 2 [rf G 22, rf G h, .int (nI f), .int (nI i)] (RM μ0 c s.2.1 s.2.2.1 s.2.2.2.1 s.2.2.2.2.1 s.2.2.2.2.2 w (TT t0 t1 t2 t3 t4 t5 t6 t7 r) mi wa se ic co sd) (PVe (RM μ0 (vNext (sh μ0 h) w f i c s).1 (vNext (sh μ0 h) w f i c s).2.1 (vNext (sh μ0 h) w f i c s).2.2.1 (vNext (sh μ0 h) w f i c s).2.2.2.1 (vNext (sh μ0 h) w f i c s).2.2.2.2.1 (vNext (sh μ0 h) w f i c s).2.2.2.2.2 w (TT t0 (t1 + vServed (sh μ0 h) f c s) (t2 + vMiss (sh μ0 h) f c s) (t3 + vCold (sh μ0 h) f c s) (t4 + vIced (sh μ0 h) w f i c s) (t5 + vBunl (sh μ0 h) w f i c s) (t6 + vStand (sh μ0 h) f c s) t7 r) (u1 mi i c) (u1 wa i (vWarm (sh μ0 h) f c s)) (u1 se i (vServed (sh μ0 h) f c s)) (u1 ic i (vIced (sh μ0 h) w f i c s)) (u1 co i (vCold (sh μ0 h) f c s)) (u1 sd i (vStand (sh μ0 h) f c s)))) := by
  refine Ev.of (own := RX3) (n := 2) (by decide) rfl rfl (catOK rfl) (fun X C E => ?_)
  show J G X 0 [some _, some _, some _, some _, none, none] [] _
  have hb := isH_le hh
  have h6 : μ0 h 0 ≤ 6 := hE.1
  have hset := hE.set
  obtain ⟨b1, b2, b3, b4, b5, b6⟩ := id hs
  obtain ⟨a1, a2, a3, a4, a5, a6, a7, a8, a9, a10⟩ := v_b hE hf hs hc
  have hkept : vKept (sh μ0 h) i ≤ 20 := by unfold vKept; split <;> omega
  have heach : vEach (sh μ0 h) w f = 1 ∨ vEach (sh μ0 h) w f = 3 := by unfold vEach; (repeat' split) <;> omega
  have hset8 : μ0 (h + 6) 8 ≤ 2 := hset.2.2.2.2.2.2.2.2.1
  have hk1 : sh μ0 h 1 f ≤ 5 := (hE.2.1 f hf).1
  have j3 : ∀ x5 : Int32, J G X 172 [some (rf G 22), some (rf G h), some (.int (nI f)), some (.int (nI i)), some (.int (nI (vCome (sh μ0 h) f c))), some (.int x5)] [.int (nI (vKept (sh μ0 h) i)), .int (nI (vEach (sh μ0 h) w f)), .int (nI i), rf G 22] (RM μ0 (vClk (sh μ0 h) f c s) (vCups (sh μ0 h) f c s - vServed (sh μ0 h) f c s) (vBase (sh μ0 h) f c s) (vSince (sh μ0 h) f c s) s.2.2.2.2.1 s.2.2.2.2.2 w (TT t0 t1 t2 t3 t4 t5 t6 t7 r) (u1 mi i c) (u1 wa i (vWarm (sh μ0 h) f c s)) (u1 se i (vServed (sh μ0 h) f c s)) ic (u1 co i (vCold (sh μ0 h) f c s)) (u1 sd i (vStand (sh μ0 h) f c s))) := by
    intro x5
    refine cVw3 C dX3_visit_172 lMX3_103 myX3_takeBuns (ev_X3_takeBuns (by omega) heach hkept (by rw [u1_at]; omega) b5 b6) (by omega) rc3 (Nat.le_of_ble_eq_true rfl) ?_
    refine j_aload_n C dX3_visit_175 rfl ?_
    refine j_dup C dX3_visit_176 rfl ?_
    refine g3_7R C dX3_visit_177 lFX3_33 ?_
    refine j_aload_n C dX3_visit_180 rfl ?_
    refine j_iload_n C dX3_visit_181 rfl ?_
    refine j_aload_n C dX3_visit_182 rfl ?_
    refine g3_3 C dX3_visit_183 lFX3_21 ?_
    refine j_iload_n C dX3_visit_186 rfl ?_
    refine ra26h C dX3_visit_187 (by omega) ?_
    refine J.top (y := nI (vServed (sh μ0 h) f c s)) (by first | rfl | rw [u1_at]) ?_
    
    refine cVe2 C dX3_visit_188 lMX3_107 myX0_minutesToServe (eR_serve hh hE RM_lo hf (by omega)) (by omega) (rc0 hh) (Nat.le_of_ble_eq_true rfl) ?_
    first | refine j_iaddN C dX3_visit_191 ?_ | refine j_iadd C dX3_visit_191 ?_
    refine p3_7R C dX3_visit_192 lFX3_33 ?_
    refine j_aload_n C dX3_visit_195 rfl ?_
    refine g3_0 C dX3_visit_196 lFX3_9 ?_
    refine j_iconst (v := nI 1) C dX3_visit_199 (by decide) ?_
    refine j_dup2 C dX3_visit_200 rfl rfl ?_
    refine ra23_1 C dX3_visit_201 ?_
    refine j_aload_n C dX3_visit_202 rfl ?_
    refine g3_3 C dX3_visit_203 lFX3_21 ?_
    refine j_iload_n C dX3_visit_206 rfl ?_
    refine ra26h C dX3_visit_207 (by omega) ?_
    refine J.top (y := nI (vServed (sh μ0 h) f c s)) (by first | rfl | rw [u1_at]) ?_
    first | refine j_iaddN C dX3_visit_208 ?_ | refine j_iadd C dX3_visit_208 ?_
    refine rs23_1 C dX3_visit_209 ?_
    refine j_aload_n C dX3_visit_210 rfl ?_
    refine g3_0 C dX3_visit_211 lFX3_9 ?_
    refine j_iconst (v := nI 2) C dX3_visit_214 (by decide) ?_
    refine j_dup2 C dX3_visit_215 rfl rfl ?_
    refine ra23_2 C dX3_visit_216 ?_
    refine j_iload C dX3_visit_217 rfl ?_
    refine j_aload_n C dX3_visit_219 rfl ?_
    refine g3_3 C dX3_visit_220 lFX3_21 ?_
    refine j_iload_n C dX3_visit_223 rfl ?_
    refine ra26h C dX3_visit_224 (by omega) ?_
    refine J.top (y := nI (vServed (sh μ0 h) f c s)) (by first | rfl | rw [u1_at]) ?_
    first | refine j_isubN C dX3_visit_225 (by omega) ?_ | refine j_isub C dX3_visit_225 ?_
    first | refine j_iaddN C dX3_visit_226 ?_ | refine j_iadd C dX3_visit_226 ?_
    refine rs23_2 C dX3_visit_227 ?_
    refine j_aload_n C dX3_visit_228 rfl ?_
    refine g3_0 C dX3_visit_229 lFX3_9 ?_
    refine j_iconst (v := nI 3) C dX3_visit_232 (by decide) ?_
    refine j_dup2 C dX3_visit_233 rfl rfl ?_
    refine ra23_3 C dX3_visit_234 ?_
    refine j_aload_n C dX3_visit_235 rfl ?_
    refine g3_5 C dX3_visit_236 lFX3_27 ?_
    refine j_iload_n C dX3_visit_239 rfl ?_
    refine ra28h C dX3_visit_240 (by omega) ?_
    refine J.top (y := nI (vCold (sh μ0 h) f c s)) (by first | rfl | rw [u1_at]) ?_
    first | refine j_iaddN C dX3_visit_241 ?_ | refine j_iadd C dX3_visit_241 ?_
    refine rs23_3 C dX3_visit_242 ?_
    refine j_aload_n C dX3_visit_243 rfl ?_
    refine g3_0 C dX3_visit_244 lFX3_9 ?_
    refine j_iconst (v := nI 4) C dX3_visit_247 (by decide) ?_
    refine j_dup2 C dX3_visit_248 rfl rfl ?_
    refine ra23_4 C dX3_visit_249 ?_
    refine j_aload_n C dX3_visit_250 rfl ?_
    refine g3_4 C dX3_visit_251 lFX3_24 ?_
    refine j_iload_n C dX3_visit_254 rfl ?_
    refine ra27h C dX3_visit_255 (by omega) ?_
    refine J.top (y := nI (vIced (sh μ0 h) w f i c s)) (by first | rfl | (rw [u1_at]; rfl)) ?_
    first | refine j_iaddN C dX3_visit_256 ?_ | refine j_iadd C dX3_visit_256 ?_
    refine rs23_4 C dX3_visit_257 ?_
    refine j_aload_n C dX3_visit_258 rfl ?_
    refine g3_0 C dX3_visit_259 lFX3_9 ?_
    refine j_bipush (v := nI 6) C dX3_visit_262 (by decide) ?_
    refine j_dup2 C dX3_visit_264 rfl rfl ?_
    refine ra23_6 C dX3_visit_265 ?_
    refine j_aload_n C dX3_visit_266 rfl ?_
    refine g3_6 C dX3_visit_267 lFX3_30 ?_
    refine j_iload_n C dX3_visit_270 rfl ?_
    refine ra29h C dX3_visit_271 (by omega) ?_
    refine J.top (y := nI (vStand (sh μ0 h) f c s)) (by first | rfl | rw [u1_at]) ?_
    first | refine j_iaddN C dX3_visit_272 ?_ | refine j_iadd C dX3_visit_272 ?_
    refine rs23_6 C dX3_visit_273 ?_
    exact j_vret C E dX3_visit_274 ⟨rfl, by simp only [u1_at]; rfl⟩
  have j2 : J G X 107 [some (rf G 22), some (rf G h), some (.int (nI f)), some (.int (nI i)), some (.int (nI (vCome (sh μ0 h) f c))), none] [.int (nI (vCold (sh μ0 h) f c s)), .int (nI i), rf G 28] (RM μ0 (vClk (sh μ0 h) f c s) (vCups (sh μ0 h) f c s - vServed (sh μ0 h) f c s) (vBase (sh μ0 h) f c s) (vSince (sh μ0 h) f c s) s.2.2.2.2.1 s.2.2.2.2.2 w (TT t0 t1 t2 t3 t4 t5 t6 t7 r) (u1 mi i c) (u1 wa i (vWarm (sh μ0 h) f c s)) (u1 se i (vServed (sh μ0 h) f c s)) ic co sd) := by
    refine rs28 C dX3_visit_107 (by omega) ?_
    refine j_aload_n C dX3_visit_108 rfl ?_
    refine g3_6 C dX3_visit_109 lFX3_30 ?_
    refine j_iload_n C dX3_visit_112 rfl ?_
    refine j_iload C dX3_visit_113 rfl ?_
    refine j_aload_n C dX3_visit_115 rfl ?_
    refine g3_7R C dX3_visit_116 lFX3_33 ?_
    first | refine j_imulN C dX3_visit_119 ?_ | refine j_imul C dX3_visit_119 ?_
    refine rs29 C dX3_visit_120 (by omega) ?_
    refine j_iload_n C dX3_visit_121 rfl ?_
    refine j_aload_n C dX3_visit_122 rfl ?_
    refine g0_0R hh C dX3_visit_123 lFX3_69 ?_
    refine j_iconst (v := nI 1) C dX3_visit_126 (by decide) ?_
    first | refine j_isubN C dX3_visit_127 (by omega) ?_ | refine j_isub C dX3_visit_127 ?_
    first | refine j_icmp_neN (tgt := 135) C dX3_visit_128 (by decide) (by omega) (by omega) (fun c_128 => ?_) (fun c_128 => ?_) | refine j_icmp_ne (tgt := 135) C dX3_visit_128 (by decide) (fun c_128 => ?_) (fun c_128 => ?_)
    · have hlast : ¬ i + 1 = sh μ0 h 0 0 := by
        show ¬ i + 1 = μ0 h 0
        omega
      refine j_iconst (v := nI 0) C dX3_visit_135 (by decide) ?_
      refine sl5 C dX3_visit_136 rfl ?_
      refine j_aload_n C dX3_visit_138 rfl ?_
      refine j_iload_n C dX3_visit_139 rfl ?_
      refine j_aload_n C dX3_visit_140 rfl ?_
      refine g3_13R C dX3_visit_141 lFX3_52 ?_
      refine j_if_eqN (tgt := 151) C dX3_visit_144 (by decide) (by omega) (fun c_144 => ?_) (fun c_144 => ?_)
      · refine j_aload_n C dX3_visit_151 rfl ?_
        refine j_iload_n C dX3_visit_152 rfl ?_
        refine cVe1 C dX3_visit_153 lMX3_99 myX0_bunsWanted (eR_buns hh hE RM_lo hf) (by omega) (rc0 hh) (Nat.le_of_ble_eq_true rfl) ?_
        refine J.top (y := nI (vEach (sh μ0 h) w f)) (by unfold vEach; rw [if_neg (show ¬ w = 1 by omega)]) ?_
        refine j_iload C dX3_visit_156 rfl ?_
        first | refine j_if_eqN (tgt := 165) C dX3_visit_158 (by decide) (by omega) (fun c_158 => ?_) (fun c_158 => ?_)
        · first
          | exact absurd c_158 (by omega)
          | (refine j_aload_n C dX3_visit_165 rfl ?_
             refine g0_6 hh C dX3_visit_166 lFX3_64 ?_
             refine j_bipush (v := nI 9) C dX3_visit_169 (by decide) ?_
             refine rah C dX3_visit_171 (isA_6 hh) (by omega) (by omega) ?_
             refine J.top (y := nI (vKept (sh μ0 h) i)) (by first | exact congrArg nI (vKept_last hlast).symm | exact congrArg nI (vKept_not hlast).symm) ?_
             exact j3 _)
        · first
          | exact absurd c_158 (by omega)
          | (refine j_iconst (v := nI 0) C dX3_visit_161 (by decide) ?_
             refine j_goto (tgt := 172) C dX3_visit_162 (by decide) ?_
             refine J.top (y := nI (vKept (sh μ0 h) i)) (by first | exact congrArg nI (vKept_last hlast).symm | exact congrArg nI (vKept_not hlast).symm) ?_
             exact j3 _)
      · refine j_iconst (v := nI 1) C dX3_visit_147 (by decide) ?_
        refine J.top (y := nI (vEach (sh μ0 h) w f)) (by unfold vEach; rw [if_pos (show w = 1 by omega)]) ?_
        refine j_goto (tgt := 156) C dX3_visit_148 (by decide) ?_
        refine j_iload C dX3_visit_156 rfl ?_
        first | refine j_if_eqN (tgt := 165) C dX3_visit_158 (by decide) (by omega) (fun c_158 => ?_) (fun c_158 => ?_)
        · first
          | exact absurd c_158 (by omega)
          | (refine j_aload_n C dX3_visit_165 rfl ?_
             refine g0_6 hh C dX3_visit_166 lFX3_64 ?_
             refine j_bipush (v := nI 9) C dX3_visit_169 (by decide) ?_
             refine rah C dX3_visit_171 (isA_6 hh) (by omega) (by omega) ?_
             refine J.top (y := nI (vKept (sh μ0 h) i)) (by first | exact congrArg nI (vKept_last hlast).symm | exact congrArg nI (vKept_not hlast).symm) ?_
             exact j3 _)
        · first
          | exact absurd c_158 (by omega)
          | (refine j_iconst (v := nI 0) C dX3_visit_161 (by decide) ?_
             refine j_goto (tgt := 172) C dX3_visit_162 (by decide) ?_
             refine J.top (y := nI (vKept (sh μ0 h) i)) (by first | exact congrArg nI (vKept_last hlast).symm | exact congrArg nI (vKept_not hlast).symm) ?_
             exact j3 _)
    · have hlast : i + 1 = sh μ0 h 0 0 := by
        show i + 1 = μ0 h 0
        omega
      refine j_iconst (v := nI 1) C dX3_visit_131 (by decide) ?_
      refine j_goto (tgt := 136) C dX3_visit_132 (by decide) ?_
      refine sl5 C dX3_visit_136 rfl ?_
      refine j_aload_n C dX3_visit_138 rfl ?_
      refine j_iload_n C dX3_visit_139 rfl ?_
      refine j_aload_n C dX3_visit_140 rfl ?_
      refine g3_13R C dX3_visit_141 lFX3_52 ?_
      refine j_if_eqN (tgt := 151) C dX3_visit_144 (by decide) (by omega) (fun c_144 => ?_) (fun c_144 => ?_)
      · refine j_aload_n C dX3_visit_151 rfl ?_
        refine j_iload_n C dX3_visit_152 rfl ?_
        refine cVe1 C dX3_visit_153 lMX3_99 myX0_bunsWanted (eR_buns hh hE RM_lo hf) (by omega) (rc0 hh) (Nat.le_of_ble_eq_true rfl) ?_
        refine J.top (y := nI (vEach (sh μ0 h) w f)) (by unfold vEach; rw [if_neg (show ¬ w = 1 by omega)]) ?_
        refine j_iload C dX3_visit_156 rfl ?_
        first | refine j_if_eqN (tgt := 165) C dX3_visit_158 (by decide) (by omega) (fun c_158 => ?_) (fun c_158 => ?_)
        · first
          | exact absurd c_158 (by omega)
          | (refine j_aload_n C dX3_visit_165 rfl ?_
             refine g0_6 hh C dX3_visit_166 lFX3_64 ?_
             refine j_bipush (v := nI 9) C dX3_visit_169 (by decide) ?_
             refine rah C dX3_visit_171 (isA_6 hh) (by omega) (by omega) ?_
             refine J.top (y := nI (vKept (sh μ0 h) i)) (by first | exact congrArg nI (vKept_last hlast).symm | exact congrArg nI (vKept_not hlast).symm) ?_
             exact j3 _)
        · first
          | exact absurd c_158 (by omega)
          | (refine j_iconst (v := nI 0) C dX3_visit_161 (by decide) ?_
             refine j_goto (tgt := 172) C dX3_visit_162 (by decide) ?_
             refine J.top (y := nI (vKept (sh μ0 h) i)) (by first | exact congrArg nI (vKept_last hlast).symm | exact congrArg nI (vKept_not hlast).symm) ?_
             exact j3 _)
      · refine j_iconst (v := nI 1) C dX3_visit_147 (by decide) ?_
        refine J.top (y := nI (vEach (sh μ0 h) w f)) (by unfold vEach; rw [if_pos (show w = 1 by omega)]) ?_
        refine j_goto (tgt := 156) C dX3_visit_148 (by decide) ?_
        refine j_iload C dX3_visit_156 rfl ?_
        first | refine j_if_eqN (tgt := 165) C dX3_visit_158 (by decide) (by omega) (fun c_158 => ?_) (fun c_158 => ?_)
        · first
          | exact absurd c_158 (by omega)
          | (refine j_aload_n C dX3_visit_165 rfl ?_
             refine g0_6 hh C dX3_visit_166 lFX3_64 ?_
             refine j_bipush (v := nI 9) C dX3_visit_169 (by decide) ?_
             refine rah C dX3_visit_171 (isA_6 hh) (by omega) (by omega) ?_
             refine J.top (y := nI (vKept (sh μ0 h) i)) (by first | exact congrArg nI (vKept_last hlast).symm | exact congrArg nI (vKept_not hlast).symm) ?_
             exact j3 _)
        · first
          | exact absurd c_158 (by omega)
          | (refine j_iconst (v := nI 0) C dX3_visit_161 (by decide) ?_
             refine j_goto (tgt := 172) C dX3_visit_162 (by decide) ?_
             refine J.top (y := nI (vKept (sh μ0 h) i)) (by first | exact congrArg nI (vKept_last hlast).symm | exact congrArg nI (vKept_not hlast).symm) ?_
             exact j3 _)
  have j1 : J G X 41 [some (rf G 22), some (rf G h), some (.int (nI f)), some (.int (nI i)), some (.int (nI (vCome (sh μ0 h) f c))), none] [] (RM μ0 (vClk (sh μ0 h) f c s) (vCups (sh μ0 h) f c s) (vBase (sh μ0 h) f c s) (vSince (sh μ0 h) f c s) s.2.2.2.2.1 s.2.2.2.2.2 w (TT t0 t1 t2 t3 t4 t5 t6 t7 r) (u1 mi i c) wa se ic co sd) := by
    refine j_aload_n C dX3_visit_41 rfl ?_
    refine g3_2 C dX3_visit_42 lFX3_18 ?_
    refine j_iload_n C dX3_visit_45 rfl ?_
    refine j_aload_n C dX3_visit_46 rfl ?_
    refine cVe0 C dX3_visit_47 lMX3_90 myX3_warmNow (ev_X3_warmNow (by omega) (by omega) (by omega)) (by omega) rc3 (Nat.le_of_ble_eq_true rfl) ?_
    refine J.top (y := nI (vWarm (sh μ0 h) f c s)) (by rw [vWarm_eq]) ?_
    refine rs25 C dX3_visit_50 (by omega) ?_
    refine j_aload_n C dX3_visit_51 rfl ?_
    refine g3_3 C dX3_visit_52 lFX3_21 ?_
    refine j_iload_n C dX3_visit_55 rfl ?_
    refine j_iload C dX3_visit_56 rfl ?_
    refine j_aload_n C dX3_visit_58 rfl ?_
    refine g3_8R C dX3_visit_59 lFX3_37 ?_
    refine j_minN C dX3_visit_62 lMX3_94 (by omega) (Nat.le_of_ble_eq_true rfl) (by omega) (by omega) ?_
    refine J.top (y := nI (vServed (sh μ0 h) f c s)) rfl ?_
    refine rs26 C dX3_visit_65 (by omega) ?_
    refine j_aload_n C dX3_visit_66 rfl ?_
    refine j_dup C dX3_visit_67 rfl ?_
    refine g3_8R C dX3_visit_68 lFX3_37 ?_
    refine j_aload_n C dX3_visit_71 rfl ?_
    refine g3_3 C dX3_visit_72 lFX3_21 ?_
    refine j_iload_n C dX3_visit_75 rfl ?_
    refine ra26h C dX3_visit_76 (by omega) ?_
    first | refine j_isubN C dX3_visit_77 (by omega) ?_ | refine j_isub C dX3_visit_77 ?_
    refine p3_8R C dX3_visit_78 lFX3_37 ?_
    refine j_aload_n C dX3_visit_81 rfl ?_
    refine g3_5 C dX3_visit_82 lFX3_27 ?_
    refine j_iload_n C dX3_visit_85 rfl ?_
    refine j_aload_n C dX3_visit_86 rfl ?_
    refine g3_2 C dX3_visit_87 lFX3_18 ?_
    refine j_iload_n C dX3_visit_90 rfl ?_
    refine ra25h C dX3_visit_91 (by omega) ?_
    refine j_bipush (v := nI 60) C dX3_visit_92 (by decide) ?_
    first | refine j_icmp_geN (tgt := 106) C dX3_visit_94 (by decide) (by omega) (by omega) (fun c_94 => ?_) (fun c_94 => ?_) | refine j_icmp_ge (tgt := 106) C dX3_visit_94 (by decide) (fun c_94 => ?_) (fun c_94 => ?_)
    · refine j_iconst (v := nI 0) C dX3_visit_106 (by decide) ?_
      refine J.top (y := nI (vCold (sh μ0 h) f c s)) (by unfold vCold; rw [if_neg (by omega)]) ?_
      exact j2
    · refine j_aload_n C dX3_visit_97 rfl ?_
      refine g3_3 C dX3_visit_98 lFX3_21 ?_
      refine j_iload_n C dX3_visit_101 rfl ?_
      refine ra26h C dX3_visit_102 (by omega) ?_
      refine J.top (y := nI (vCold (sh μ0 h) f c s)) (by unfold vCold; rw [if_pos (by omega)]) ?_
      refine j_goto (tgt := 107) C dX3_visit_103 (by decide) ?_
      exact j2
  refine j_aload_n C dX3_visit_0 rfl ?_
  refine g3_1 C dX3_visit_1 lFX3_15 ?_
  refine j_iload_n C dX3_visit_4 rfl ?_
  refine j_aload_n C dX3_visit_5 rfl ?_
  refine g3_7R C dX3_visit_6 lFX3_33 ?_
  refine rs24 C dX3_visit_9 (by omega) ?_
  refine j_aload_n C dX3_visit_10 rfl ?_
  refine j_iload_n C dX3_visit_11 rfl ?_
  refine j_aload_n C dX3_visit_12 rfl ?_
  refine g3_7R C dX3_visit_13 lFX3_33 ?_
  refine cVe2 C dX3_visit_16 lMX3_83 myX0_comingAt (eR_coming hh hE RM_lo hf (by omega)) (by omega) (rc0 hh) (Nat.le_of_ble_eq_true rfl) ?_
  refine sl4 C dX3_visit_19 rfl ?_
  refine j_aload_n C dX3_visit_21 rfl ?_
  refine g3_8R C dX3_visit_22 lFX3_37 ?_
  refine j_iload C dX3_visit_25 rfl ?_
  first | refine j_icmp_geN (tgt := 41) C dX3_visit_27 (by decide) (by omega) (by omega) (fun c_27 => ?_) (fun c_27 => ?_) | refine j_icmp_ge (tgt := 41) C dX3_visit_27 (by decide) (fun c_27 => ?_) (fun c_27 => ?_)
  · have hnf : ¬ (s.2.1 < vCome (sh μ0 h) f c ∧ 0 < (sh μ0 h) 6 8) := fun q => by have := q.1; omega
    have e1 : vClk (sh μ0 h) f c s = c := if_neg hnf
    have e2 : vCups (sh μ0 h) f c s = s.2.1 := if_neg hnf
    have e3 : vBase (sh μ0 h) f c s = s.2.2.1 := if_neg hnf
    have e4 : vSince (sh μ0 h) f c s = s.2.2.2.1 := if_neg hnf
    rw [e1, e2, e3, e4] at j1
    first
    | exact j1
    | (refine J.mem ?_ j1
       have hd : (sh μ0 h) 6 8 = μ0 (h + 6) 8 := rfl
       simp only [vClk, vCups, vBase, vSince, vDeg, hd, c_27, true_and]
       by_cases q0 : μ0 (h + 6) 8 = 0
       · simp [q0]
       · by_cases q1 : μ0 (h + 6) 8 = 1
         · simp [q1]
         · simp [q0, q1, Nat.pos_of_ne_zero q0])
  · refine j_aload_n C dX3_visit_30 rfl ?_
    refine j_aload_n C dX3_visit_31 rfl ?_
    refine g0_6 hh C dX3_visit_32 lFX3_64 ?_
    refine j_bipush (v := nI 8) C dX3_visit_35 (by decide) ?_
    refine rah C dX3_visit_37 (isA_6 hh) (by omega) (by omega) ?_
    
    refine cVw1 C dX3_visit_38 lMX3_86 myX3_refill (ev_X3_refill (by omega) (by omega) (by omega) (by omega) (by omega)) (by omega) rc3 (Nat.le_of_ble_eq_true rfl) ?_
    first
    | exact j1
    | (refine J.mem ?_ j1
       have hd : (sh μ0 h) 6 8 = μ0 (h + 6) 8 := rfl
       simp only [vClk, vCups, vBase, vSince, vDeg, hd, c_27, true_and]
       by_cases q0 : μ0 (h + 6) 8 = 0
       · simp [q0]
       · by_cases q1 : μ0 (h + 6) 8 = 1
         · simp [q1]
         · simp [q0, q1, Nat.pos_of_ne_zero q0])
