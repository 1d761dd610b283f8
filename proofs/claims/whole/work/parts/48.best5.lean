-- THE REFERENCE: all orders gone through
def zR : Nat → Nat := fun _ => 0
theorem vNext5 {F : Mem} {σ : Nat → Nat} {w f i c : Nat} {s : RS} : vNext (rowM F 5 σ) w f i c s = vNext F w f i c s ∧ vWarm (rowM F 5 σ) f c s = vWarm F f c s ∧ vServed (rowM F 5 σ) f c s = vServed F f c s ∧ vIced (rowM F 5 σ) w f i c s = vIced F w f i c s ∧ vCold (rowM F 5 σ) f c s = vCold F f c s ∧ vStand (rowM F 5 σ) f c s = vStand F f c s ∧ vMiss (rowM F 5 σ) f c s = vMiss F f c s ∧ vBunl (rowM F 5 σ) w f i c s = vBunl F w f i c s :=
  vNext_eq (congrFun (rowM_ne (by decide)) f) (congrFun (rowM_ne (by decide)) f) (congrFun (rowM_ne (by decide)) f) (fun k _ => congrFun (rowM_ne (by decide)) k) (congrFun (rowM_ne (by decide)) 0)
theorem vMin5 {F : Mem} {p σ : Nat → Nat} {i : Nat} {s : RS} : vMin (rowM F 5 σ) p i s = vMin F p i s := by
  simp only [vMin, vFrom, rowM_ne (show (6 : Nat) ≠ 5 by decide), rowM_ne (show (2 : Nat) ≠ 5 by decide)]
theorem r5_rs {F : Mem} {p σ : Nat → Nat} {w : Nat} : ∀ i, rs (rowM F 5 σ) p w i = rs F p w i
  | 0 => by simp only [rs, rowM_ne (show (6 : Nat) ≠ 5 by decide)]
  | i + 1 => by
    rw [rs, rs, r5_rs i, vMin5]
    exact vNext5.1
theorem r5_o {F : Mem} {p σ : Nat → Nat} {w i : Nat} : oMin (rowM F 5 σ) p w i = oMin F p w i ∧ oWarm (rowM F 5 σ) p w i = oWarm F p w i ∧ oServed (rowM F 5 σ) p w i = oServed F p w i ∧ oIced (rowM F 5 σ) p w i = oIced F p w i ∧ oCold (rowM F 5 σ) p w i = oCold F p w i ∧ oStand (rowM F 5 σ) p w i = oStand F p w i ∧ oMiss (rowM F 5 σ) p w i = oMiss F p w i ∧ oBunl (rowM F 5 σ) p w i = oBunl F p w i := by
  have hr := r5_rs (F := F) (p := p) (σ := σ) (w := w) i
  have hm : oMin (rowM F 5 σ) p w i = oMin F p w i := by rw [oMin, oMin, hr, vMin5]
  refine ⟨hm, ?_⟩
  simp only [oWarm, oServed, oIced, oCold, oStand, oMiss, oBunl, hm, hr]
  exact vNext5.2
theorem r5_Tot {F : Mem} {p σ : Nat → Nat} {w k : Nat} : Tot (rowM F 5 σ) p w k = Tot F p w k := by
  have a := fun i => r5_o (F := F) (p := p) (σ := σ) (w := w) (i := i)
  have e0 : rowM F 5 σ 0 0 = F 0 0 := congrFun (rowM_ne (by decide)) 0
  have e1 := sumTo_eq (F 0 0) (fun i _ => (a i).2.2.1)
  have e2 := sumTo_eq (F 0 0) (fun i _ => (a i).2.2.2.2.2.2.1)
  have e3 := sumTo_eq (F 0 0) (fun i _ => (a i).2.2.2.2.1)
  have e4 := sumTo_eq (F 0 0) (fun i _ => (a i).2.2.2.1)
  have e5 := sumTo_eq (F 0 0) (fun i _ => (a i).2.2.2.2.2.2.2)
  have e6 := sumTo_eq (F 0 0) (fun i _ => (a i).2.2.2.2.2.1)
  unfold Tot
  rw [e0, e1, e2, e3, e4, e5, e6, r5_rs]
theorem EI_un5 {E : Mem} {σ : Nat → Nat} (h : EI (rowM E 5 σ)) : EI E := by
  have := EI_row5 (σ := E 5) h
  rw [rowM_rowM, rowM_self] at this
  exact this
theorem OI_r5 {E : Mem} {o σ : Nat → Nat} (h : OI E o) : OI (rowM E 5 σ) o := by
  unfold OI
  rw [rowM_ne (by decide)]
  exact h
theorem EQ_row5 {E F : Mem} {σ : Nat → Nat} (h : EQ E F) : EQ (rowM E 5 σ) (rowM F 5 σ) := by
  refine ⟨by rw [rowM_ne (by decide), rowM_ne (by decide)]; exact h.1, fun k i a b c => ?_, fun i a => by rw [rowM_ne (by decide), rowM_ne (by decide)]; exact h.2.2 i a⟩
  by_cases q : k = 5
  · rw [q, rowM_at, rowM_at]
  · rw [rowM_ne q, rowM_ne q]; exact h.2.1 k i a b c
theorem sh_row43 {ν : Mem} {σ : Nat → Nat} : sh (rowM ν 43 σ) 38 = rowM (sh ν 38) 5 σ := by
  funext q
  by_cases h : q = 5
  · subst h; rfl
  · show (if 38 + q = 43 then σ else ν (38 + q)) = (if q = 5 then σ else ν (38 + q))
    rw [if_neg (by omega), if_neg h]
theorem KM_of {a b : Mem} (h : ∀ q, q < 57 → b q = a q) : KM a b :=
  ⟨fun q hq => h q (by omega), ⟨congrFun (h 38 (by omega)) 0, fun k i _ _ _ => congrFun (h (38 + k) (by omega)) i, fun i _ => congrFun (h 44 (by omega)) i⟩, congrFun (h 38 (by omega)) 15, congrFun (h 38 (by omega)) 16, congrFun (h 38 (by omega)) 20, congrFun (h 38 (by omega)) 23, h 52 (by omega), h 54 (by omega), h 55 (by omega), h 56 (by omega)⟩
theorem KM_row43 {a b : Mem} {σ : Nat → Nat} (h : KM a b) : KM (rowM a 43 σ) (rowM b 43 σ) := by
  obtain ⟨h1, h2, h3, h4, h5, h6, h7, h8, h9, h10⟩ := h
  have u : ∀ (κ : Mem) q, q ≠ 43 → rowM κ 43 σ q = κ q := fun κ q h => rowM_ne h
  refine ⟨fun q hq => by rw [u b q (by omega), u a q (by omega)]; exact h1 q hq, by rw [sh_row43, sh_row43]; exact EQ_row5 h2, ?_, ?_, ?_, ?_, ?_, ?_, ?_, ?_⟩
  · rw [u b 38 (by decide), u a 38 (by decide)]; exact h3
  · rw [u b 38 (by decide), u a 38 (by decide)]; exact h4
  · rw [u b 38 (by decide), u a 38 (by decide)]; exact h5
  · rw [u b 38 (by decide), u a 38 (by decide)]; exact h6
  · rw [u b 52 (by decide), u a 52 (by decide)]; exact h7
  · rw [u b 54 (by decide), u a 54 (by decide)]; exact h8
  · rw [u b 55 (by decide), u a 55 (by decide)]; exact h9
  · rw [u b 56 (by decide), u a 56 (by decide)]; exact h10
/-- all that lasts is as it was, but the order -/
def SM (μ ν : Mem) : Prop := KM (rowM μ 43 zR) (rowM ν 43 zR)
theorem SM_refl {μ : Mem} : SM μ μ := KM.refl _
theorem SM_trans {a b c : Mem} (h : SM a b) (g : SM b c) : SM a c := KM.trans h g
theorem SM_of {a b : Mem} (h : KM a b) : SM a b := KM_row43 h
theorem SM_off {a b : Mem} (h : ∀ q, q ≠ 43 → q < 57 → b q = a q) : SM a b := KM_of (fun q hq => by
  by_cases e : q = 43
  · rw [e, rowM_at, rowM_at]
  · rw [rowM_ne e, rowM_ne e]; exact h q e hq)
theorem SM_back {μ ν : Mem} (h : SM μ ν) (h5 : eqTo 6 (ν 43) (μ 43)) : KM μ ν := by
  obtain ⟨h1, h2, h3, h4, h5', h6, h7, h8, h9, h10⟩ := h
  have u : ∀ (κ : Mem) q, q ≠ 43 → rowM κ 43 zR q = κ q := fun κ q h => rowM_ne h
  rw [u ν 38 (by decide), u μ 38 (by decide)] at h3 h4 h5' h6
  rw [u ν 52 (by decide), u μ 52 (by decide)] at h7
  rw [u ν 54 (by decide), u μ 54 (by decide)] at h8
  rw [u ν 55 (by decide), u μ 55 (by decide)] at h9
  rw [u ν 56 (by decide), u μ 56 (by decide)] at h10
  rw [sh_row43, sh_row43] at h2
  refine ⟨fun q hq => by have := h1 q hq; rw [u ν q (by omega), u μ q (by omega)] at this; exact this, ⟨?_, fun k i a b c => ?_, fun i a => ?_⟩, h3, h4, h5', h6, h7, h8, h9, h10⟩
  · have := h2.1; rw [rowM_ne (by decide), rowM_ne (by decide)] at this; exact this
  · by_cases q : k = 5
    · rw [q]; exact h5 i c
    · have := h2.2.1 k i a b c; rw [rowM_ne q, rowM_ne q] at this; exact this
  · have := h2.2.2 i a; rw [rowM_ne (by decide), rowM_ne (by decide)] at this; exact this
theorem SM_f {μ ν : Mem} (h : SM μ ν) : ν 38 0 = μ 38 0 ∧ ν 38 15 = μ 38 15 ∧ ν 38 20 = μ 38 20 ∧ ν 54 = μ 54 := by
  obtain ⟨h1, h2, h3, h4, h5', h6, h7, h8, h9, h10⟩ := h
  have u : ∀ (κ : Mem) q, q ≠ 43 → rowM κ 43 zR q = κ q := fun κ q h => rowM_ne h
  have h0 := h2.1
  rw [sh_row43, sh_row43, rowM_ne (by decide), rowM_ne (by decide)] at h0
  rw [u ν 38 (by decide), u μ 38 (by decide)] at h3 h5'
  rw [u ν 54 (by decide), u μ 54 (by decide)] at h8
  exact ⟨h0, h3, h5', h8⟩
theorem sM {μ ν : Mem} {ρ : Nat → Nat} (h : SM μ ν) (hE : EI (sh μ 38)) (ho : OI (sh μ 38) ρ) (h43 : eqTo (μ 38 0) (ν 43) ρ) :
    EI (sh ν 38) ∧ OI (sh ν 38) (ν 43) ∧ eqTo (μ 38 0) (oServed (sh ν 38) (ν 43) 0) (oServed (sh μ 38) ρ 0) ∧
      ∀ ν', RPM ν (sh ν 38) (ν 43) 0 ν' → (∀ k, k < 8 → ν' 46 k = Tot (sh μ 38) ρ 0 k) ∧ CMI (sh μ 38) ρ 0 (μ 38 0) (ν' 38 14) ∧ SM μ ν' ∧ ∀ q, q = 43 ∨ 56 < q → ν' q = ν q := by
  have h0 := (SM_f h).1
  have he : EQ (rowM (sh ν 38) 5 zR) (rowM (sh μ 38) 5 zR) := by have := h.2.1; rw [sh_row43, sh_row43] at this; exact this
  have hE1 : EI (sh ν 38) := EI_un5 (EI.eq he.symm (EI_row5 hE))
  have hO1 : OI (sh ν 38) (ν 43) := fun i hi => by
    have hi' : i < μ 38 0 := by rw [← h0]; exact hi
    have := ho i hi'
    rw [h43 i hi']
    show ρ i < ν 38 0
    rw [h0]; exact this
  have hop : eqTo (rowM (sh ν 38) 5 zR 0 0) (ν 43) ρ := by
    rw [rowM_ne (by decide)]
    intro i hi
    exact h43 i (by rw [← h0]; exact hi)
  have hoo : ∀ i, i < μ 38 0 → oServed (sh ν 38) (ν 43) 0 i = oServed (sh μ 38) ρ 0 i ∧ oCold (sh ν 38) (ν 43) 0 i = oCold (sh μ 38) ρ 0 i := fun i hi => by
    have := o_eq (w := 0) he (EI_row5 hE1) (OI_r5 hO1) hop (i := i) (by rw [rowM_ne (by decide)]; show i < ν 38 0; rw [h0]; exact hi)
    have s1 := this.2.2.1
    have s2 := this.2.2.2.2.1
    rw [r5_o.2.2.1, r5_o.2.2.1] at s1
    rw [r5_o.2.2.2.2.1, r5_o.2.2.2.2.1] at s2
    exact ⟨s1, s2⟩
  refine ⟨hE1, hO1, fun i hi => (hoo i hi).1, fun ν' hr => ⟨fun k hk => ?_, ?_, SM_trans h (SM_of hr.KM), fun q hq => hr.1 q (by omega)⟩⟩
  · rw [hr.2.2.1 k hk]
    have := Tot_eq (w := 0) (k := k) he (EI_row5 hE1) (OI_r5 hO1) hop
    rw [r5_Tot, r5_Tot] at this
    exact this
  · obtain ⟨c1, c2⟩ := hr.2.2.2.2
    refine ⟨c1, fun f hf => (c2 f hf).trans ⟨?_, ?_⟩⟩
    · rintro ⟨j, a, b, c⟩
      have a' : j < μ 38 0 := by rw [← h0]; exact a
      exact ⟨j, a', by rw [← h43 j a']; exact b, by rw [← (hoo j a').2]; exact c⟩
    · rintro ⟨j, a, b, c⟩
      have a' : j < sh ν 38 0 0 := by show j < ν 38 0; rw [h0]; exact a
      exact ⟨j, a', by rw [h43 j a]; exact b, by rw [(hoo j a).2]; exact c⟩
/-- what stands of the orders as they are gone through -/
def OSM (μ ν : Mem) (t : Nat) : Prop := SM μ ν ∧ eqTo 6 (ν 59) (μ 43) ∧ eqTo (μ 38 0) (ν 43) (pf (μ 38 0) t)
theorem OSM.lt {μ ν : Mem} {t : Nat} (h : OSM μ ν t) (hE : EI (sh μ 38)) (ht : t < nP (μ 38 0)) : ν 38 0 ≤ 6 ∧ ∀ i, i < ν 38 0 → ν 43 i < 6 := by
  have h6 : μ 38 0 ≤ 6 := hE.1
  rw [(SM_f h.1).1]
  refine ⟨h6, fun i hi => ?_⟩
  rw [h.2.2 i hi]
  have : pf (μ 38 0) t i < μ 38 0 := (pf_o hE.1 ht).1 i hi
  omega
theorem OSM.adv {μ ν : Mem} {t : Nat} (h : OSM μ ν t) (hE : EI (sh μ 38)) (ht : t < nP (μ 38 0)) :
    (t + 1 < nP (μ 38 0) → 0 < frR (ν 43) (ν 38 0 - 1) ∧ OSM μ (rowM ν 43 (nxF (ν 38 0) (ν 43))) (t + 1)) ∧ (t + 1 = nP (μ 38 0) → frR (ν 43) (ν 38 0 - 1) = 0) := by
  obtain ⟨h1, h2, h3⟩ := h
  rw [(SM_f h1).1]
  refine ⟨fun q => ?_, fun q => ?_⟩
  · obtain ⟨a, b⟩ := pf_s hE.1 (t := t) q
    refine ⟨by rw [frR_eq1 h3]; exact a, SM_trans h1 (SM_off (fun q2 hq _ => rowM_ne hq)), by rw [rowM_ne (by decide)]; exact h2, ?_⟩
    rw [rowM_at]
    intro i hi
    rw [nxF_eq h3 i hi]
    exact b i hi
  · rw [frR_eq1 h3]
    have := pf_e hE.1
    rw [show t = nP (μ 38 0) - 1 by omega]
    exact this
theorem OSM.beg {μ ν : Mem} (hn : μ 38 0 ≤ 6) (h : (∀ q, q ≠ 43 → q ≠ 59 → ν q = μ q) ∧ eqTo 6 (ν 59) (μ 43) ∧ ∀ j, j < 6 → ν 43 j = j) : OSM μ ν 0 :=
  ⟨SM_off (fun q a b => h.1 q a (by omega)), h.2.1, fun i hi => by rw [h.2.2 i (by omega), pf_0 hn i hi]⟩
theorem OSM.r58 {μ ν : Mem} {t : Nat} {σ : Nat → Nat} (h : OSM μ ν t) : OSM μ (rowM ν 58 σ) t :=
  ⟨SM_trans h.1 (SM_off (fun q _ b => rowM_ne (by omega))), by rw [rowM_ne (by decide)]; exact h.2.1, by rw [rowM_ne (by decide)]; exact h.2.2⟩
theorem OSM.back {μ ν ν' : Mem} {t : Nat} (h : OSM μ ν t) (g : (∀ q, q ≠ 43 → ν' q = ν q) ∧ eqTo 6 (ν' 43) (ν 59)) : KM μ ν' :=
  SM_back (SM_trans h.1 (SM_off (fun q a _ => g.1 q a))) (fun i hi => (g.2 i hi).trans (h.2.1 i hi))
set_option maxRecDepth 100000 in
set_option maxHeartbeats 4000000 in
theorem ev_X5_bestOf {G : GX} {q9 : Nat} {μ : Mem} (hE : EI (sh μ 38)) (hP : PI5 (sh μ 38)) (hz : μ 38 15 = 0) (hq8 : q9 < 8) : Ev G mX5_bestOf 3 [rf G 38, .int (nI q9)] μ (PI (fun v μ' => v = nI ((valO (sh μ 38) q9) (bIdx (valO (sh μ 38) q9) (decide (q9 = 1 ∨ q9 = 4)) ((nP (μ 38 0)) - 1))) ∧ eqTo (μ 38 0) (μ' 58) (pf (μ 38 0) (bIdx (valO (sh μ 38) q9) (decide (q9 = 1 ∨ q9 = 4)) ((nP (μ 38 0)) - 1))) ∧ KM μ μ')) := by
  refine Ev.of (own := RX5) (n := 4) (by decide) rfl rfl (catOK rfl) (fun X C E => ?_)
  show J G X 0 [some _, some _, none, none, none, none] [] _
  have h6 : μ 38 0 ≤ 6 := hE.1
  have hnp := nP_b h6
  have hVb : ∀ t9, t9 < (nP (μ 38 0)) → (valO (sh μ 38) q9) t9 ≤ 100000 := fun t9 ht => Tot_b hE (OI_pf hE ht)
  by_cases hm : q9 = 1 ∨ q9 = 4
  · have bm : decide (q9 = 1 ∨ q9 = 4) = true := decide_eq_true hm
    have p111 : ∀ x3 x5 t9 ν, OSM μ ν t9 → x3 = nI ((valO (sh μ 38) q9) (bIdx (valO (sh μ 38) q9) true ((nP (μ 38 0)) - 1))) → eqTo (μ 38 0) (ν 58) (pf (μ 38 0) (bIdx (valO (sh μ 38) q9) true ((nP (μ 38 0)) - 1))) → J G X 25 [some (rf G 38), some (.int (nI q9)), some (.int (nI 1)), some (.int x3), some (.int (nI 0)), x5] [] ν := by
      intro x3 x5 t9 ν hO hx hq
      refine j_iload C dX5_bestOf_25 rfl ?_
      refine j_if_eqN (tgt := 111) C dX5_bestOf_27 (by decide) (by omega) (fun c_27 => ?_) (fun c_27 => absurd rfl c_27)
      · refine j_aload_n C dX5_bestOf_111 rfl ?_
        refine cVv0 C dX5_bestOf_112 lMX5_176 myX5_asItWas (ev_X5_asItWas) (by omega) rc5 (Nat.le_of_ble_eq_true rfl) (fun μ_112 hv_112 => ?_)
        refine j_iload_n C dX5_bestOf_115 rfl ?_
        exact j_iret C E dX5_bestOf_116 ⟨_, rfl, by rw [bm]; exact ⟨hx, by rw [hv_112.1 58 (by decide)]; exact hq, hO.back hv_112⟩⟩
    have loop : ∀ c t9 x3 x5 ν, t9 + c = (nP (μ 38 0)) → t9 < (nP (μ 38 0)) → OSM μ ν t9 → ((t9 = 0 ∧ x3 = -1) ∨ (0 < t9 ∧ x3 = nI ((valO (sh μ 38) q9) (bIdx (valO (sh μ 38) q9) true (t9 - 1))) ∧ eqTo (μ 38 0) (ν 58) (pf (μ 38 0) (bIdx (valO (sh μ 38) q9) true (t9 - 1))))) → J G X 25 [some (rf G 38), some (.int (nI q9)), some (.int (nI 1)), some (.int x3), some (.int (nI 1)), x5] [] ν := by
      intro c
      induction c with
      | zero => intro t9 x3 x5 ν hc ht; exact absurd ht (by omega)
      | succ c ih =>
        intro t9 x3 x5 ν hc ht hO hi
        have p102 : ∀ x3 x5 ν, OSM μ ν t9 → x3 = nI ((valO (sh μ 38) q9) (bIdx (valO (sh μ 38) q9) true t9)) → eqTo (μ 38 0) (ν 58) (pf (μ 38 0) (bIdx (valO (sh μ 38) q9) true t9)) → J G X 102 [some (rf G 38), some (.int (nI q9)), some (.int (nI 1)), some (.int x3), some (.int (nI 1)), x5] [] ν := by
          intro x3 x5 ν hO hx hq
          refine j_aload_n C dX5_bestOf_102 rfl ?_
          refine cVi0 C dX5_bestOf_103 lMX5_172 myX5_next (ev_X5_next (hO.lt hE ht).1 (hO.lt hE ht).2) (by omega) rc5 (Nat.le_of_ble_eq_true rfl) (fun v_103 μ_103 hv_103 => ?_)
          have hadv := hO.adv hE ht
          rcases Nat.lt_or_ge (t9 + 1) (nP (μ 38 0)) with hlt | hge
          · obtain ⟨a1, a2⟩ := hadv.1 hlt
            obtain ⟨z1, z2, z3⟩ := hv_103.resolve_left (fun z => by have := z.1; omega)
            rw [z2]
            refine sl4 C dX5_bestOf_106 rfl ?_
            refine j_goto (tgt := 25) C dX5_bestOf_108 (by decide) ?_
            exact ih (t9 + 1) _ _ _ (by omega) hlt (by rw [z3]; exact a2) (Or.inr ⟨by omega, by rw [Nat.add_sub_cancel]; exact hx, by rw [Nat.add_sub_cancel, z3, rowM_ne (by decide)]; exact hq⟩)
          · have a1 := hadv.2 (by omega)
            obtain ⟨z1, z2, z3⟩ := hv_103.resolve_right (fun z => by have := z.1; omega)
            rw [z2]
            refine sl4 C dX5_bestOf_106 rfl ?_
            refine j_goto (tgt := 25) C dX5_bestOf_108 (by decide) ?_
            exact p111 _ _ t9 _ (by rw [z3]; exact hO) (by rw [show (nP (μ 38 0)) - 1 = t9 by omega]; exact hx) (by rw [show (nP (μ 38 0)) - 1 = t9 by omega, z3]; exact hq)
        have pcp : ∀ k i9 σ x3 ν, i9 + k = 6 → OSM μ ν t9 → (bIdx (valO (sh μ 38) q9) true t9) = t9 → x3 = nI ((valO (sh μ 38) q9) t9) → (∀ j, j < i9 → σ j = ν 43 j) → J G X 75 [some (rf G 38), some (.int (nI q9)), some (.int (nI 1)), some (.int x3), some (.int (nI 1)), some (.int (nI i9))] [] (rowM ν 58 σ) := by
          intro k
          induction k with
          | zero =>
            intro i9 σ x3 ν hi hO hn7 hx hs
            refine j_iload C dX5_bestOf_75 rfl ?_
            refine j_bipush (v := nI 6) C dX5_bestOf_77 (by decide) ?_
            first | refine j_icmp_geN (tgt := 102) C dX5_bestOf_79 (by decide) (by omega) (by omega) (fun c_79 => ?_) (fun c_79 => ?_) | refine j_icmp_ge (tgt := 102) C dX5_bestOf_79 (by decide) (fun c_79 => ?_) (fun c_79 => ?_)
            · exact p102 _ _ _ hO.r58 (by rw [hn7]; exact hx) (by rw [hn7, rowM_at]; exact fun i hi => (hs i (by omega)).trans (hO.2.2 i hi))
            · exact absurd c_79 (by omega)
          | succ k ih2 =>
            intro i9 σ x3 ν hi hO hn7 hx hs
            refine j_iload C dX5_bestOf_75 rfl ?_
            refine j_bipush (v := nI 6) C dX5_bestOf_77 (by decide) ?_
            first | refine j_icmp_geN (tgt := 102) C dX5_bestOf_79 (by decide) (by omega) (by omega) (fun c_79 => ?_) (fun c_79 => ?_) | refine j_icmp_ge (tgt := 102) C dX5_bestOf_79 (by decide) (fun c_79 => ?_) (fun c_79 => ?_)
            · exact absurd c_79 (by omega)
            · refine j_aload_n C dX5_bestOf_82 rfl ?_
              refine g5_26 C dX5_bestOf_83 lFX5_67 ?_
              refine j_iload C dX5_bestOf_86 rfl ?_
              refine j_aload_n C dX5_bestOf_88 rfl ?_
              refine g5_5 C dX5_bestOf_89 lFX5_22 ?_
              refine j_iload C dX5_bestOf_92 rfl ?_
              refine j_iald C dX5_bestOf_94 iA_43 (by omega) ?_
              refine J.top (y := nI (ν 43 i9)) (by rw [rowM_ne (by decide)]) ?_
              refine j_iast C dX5_bestOf_95 iA_58 (by omega) ?_
              refine J.mem up_row ?_
              refine in5 C dX5_bestOf_96 (nI_1 _) rfl ?_
              refine j_goto (tgt := 75) C dX5_bestOf_99 (by decide) ?_
              exact ih2 (i9 + 1) _ _ _ (by omega) hO hn7 hx (fun j hj => if q : j = i9 then (by rw [q, u1_at]) else (by rw [u1_ne q]; exact hs j (by omega)))
        refine j_iload C dX5_bestOf_25 rfl ?_
        refine j_if_eqN (tgt := 111) C dX5_bestOf_27 (by decide) (by decide) (fun c_27 => absurd c_27 (by decide)) (fun c_27 => ?_)
        · obtain ⟨w1, w2, w4, w5⟩ := sM hO.1 hE (OI_pf hE ht) hO.2.2
          have w3 : ν 38 15 = 0 := by rw [(SM_f hO.1).2.1]; exact hz
          refine j_aload_n C dX5_bestOf_30 rfl ?_
          refine cVv0 C dX5_bestOf_31 lMX5_166 myX5_round (ev_X5_round w1 w2 w3 (Or.inl rfl)) (by omega) rc5 (Nat.le_of_ble_eq_true rfl) (fun μ_31 hv_31 => ?_)
          obtain ⟨v1, v2, v3, v4⟩ := w5 _ hv_31
          have hO2 : OSM μ μ_31 t9 := ⟨v3, by rw [v4 59 (by omega)]; exact hO.2.1, by rw [v4 43 (by omega)]; exact hO.2.2⟩
          have hvb := hVb t9 ht
          have hvb2 := hVb (bIdx (valO (sh μ 38) q9) true (t9 - 1)) (by have := bIdx_le (valO (sh μ 38) q9) true (t9 - 1); omega)
          rcases hi with ⟨rfl, rfl⟩ | ⟨h0, rfl, hq⟩
          · refine j_iload_n C dX5_bestOf_34 rfl ?_
            refine j_if_lt (tgt := 65) C dX5_bestOf_35 (by decide) (fun c_35 => ?_) (fun c_35 => absurd (by decide) c_35)
            · have hn7 : (bIdx (valO (sh μ 38) q9) true 0) = 0 := rfl
              refine j_aload_n C dX5_bestOf_65 rfl ?_
              refine g5_8 C dX5_bestOf_66 lFX5_31 ?_
              refine j_iload_n C dX5_bestOf_69 rfl ?_
              refine j_iald C dX5_bestOf_70 iA_46 (by omega) ?_
              refine J.top (y := nI ((valO (sh μ 38) q9) 0)) (by rw [v1 q9 hq8]; rfl) ?_
              refine sn3 C dX5_bestOf_71 rfl ?_
              refine j_iconst (v := nI 0) C dX5_bestOf_72 (by decide) ?_
              refine sl5 C dX5_bestOf_73 rfl ?_
              refine J.mem (rowM_self (a := 58)).symm ?_
              exact pcp 6 0 _ _ _ (by omega) hO2 hn7 rfl (fun j hj => absurd hj (by omega))
          · refine j_iload_n C dX5_bestOf_34 rfl ?_
            refine j_if_ltN (tgt := 65) C dX5_bestOf_35 (by decide) (by omega) ?_
            refine j_iload_n C dX5_bestOf_38 rfl ?_
            refine j_if_eqN (tgt := 55) C dX5_bestOf_39 (by decide) (by decide) (fun c_39 => ?_) (fun c_39 => ?_)
            · exact absurd c_39 (by decide)
            · refine j_aload_n C dX5_bestOf_42 rfl ?_
              refine g5_8 C dX5_bestOf_43 lFX5_31 ?_
              refine j_iload_n C dX5_bestOf_46 rfl ?_
              refine j_iald C dX5_bestOf_47 iA_46 (by omega) ?_
              refine J.top (y := nI ((valO (sh μ 38) q9) t9)) (by rw [v1 q9 hq8]; rfl) ?_
              refine j_iload_n C dX5_bestOf_48 rfl ?_
              first | refine j_icmp_leN (tgt := 102) C dX5_bestOf_49 (by decide) (by omega) (by omega) (fun c_49 => ?_) (fun c_49 => ?_) | refine j_icmp_le (tgt := 102) C dX5_bestOf_49 (by decide) (fun c_49 => ?_) (fun c_49 => ?_)
              · have hn7 := (bIdx_t (f := (valO (sh μ 38) q9)) (v9 := t9) h0 rfl rfl).2 (by omega)
                exact p102 _ _ _ hO2 (by rw [hn7]) (by rw [hn7, v4 58 (by omega)]; exact hq)
              · have hn7 := (bIdx_t (f := (valO (sh μ 38) q9)) (v9 := t9) h0 rfl rfl).1 (by omega)
                refine j_goto (tgt := 65) C dX5_bestOf_52 (by decide) ?_
                refine j_aload_n C dX5_bestOf_65 rfl ?_
                refine g5_8 C dX5_bestOf_66 lFX5_31 ?_
                refine j_iload_n C dX5_bestOf_69 rfl ?_
                refine j_iald C dX5_bestOf_70 iA_46 (by omega) ?_
                refine J.top (y := nI ((valO (sh μ 38) q9) t9)) (by rw [v1 q9 hq8]; rfl) ?_
                refine sn3 C dX5_bestOf_71 rfl ?_
                refine j_iconst (v := nI 0) C dX5_bestOf_72 (by decide) ?_
                refine sl5 C dX5_bestOf_73 rfl ?_
                refine J.mem (rowM_self (a := 58)).symm ?_
                exact pcp 6 0 _ _ _ (by omega) hO2 hn7 rfl (fun j hj => absurd hj (by omega))
    refine j_iload_n C dX5_bestOf_0 rfl ?_
    refine j_iconst (v := nI 1) C dX5_bestOf_1 (by decide) ?_
    first | refine j_icmp_eqN (tgt := 10) C dX5_bestOf_2 (by decide) (by omega) (by omega) (fun c_2 => ?_) (fun c_2 => ?_) | refine j_icmp_eq (tgt := 10) C dX5_bestOf_2 (by decide) (fun c_2 => ?_) (fun c_2 => ?_)
    · refine j_iconst (v := nI 1) C dX5_bestOf_10 (by decide) ?_
      refine j_goto (tgt := 15) C dX5_bestOf_11 (by decide) ?_
      refine sn2 C dX5_bestOf_15 rfl ?_
      refine j_iconst (v := (-1)) C dX5_bestOf_16 (by decide) ?_
      refine sn3 C dX5_bestOf_17 rfl ?_
      refine j_aload_n C dX5_bestOf_18 rfl ?_
      refine cVv0 C dX5_bestOf_19 lMX5_169 myX5_first (ev_X5_first) (by omega) rc5 (Nat.le_of_ble_eq_true rfl) (fun μ_19 hv_19 => ?_)
      refine j_iconst (v := nI 1) C dX5_bestOf_22 (by decide) ?_
      refine sl4 C dX5_bestOf_23 rfl ?_
      exact loop (nP (μ 38 0)) 0 _ _ _ (by omega) (by omega) (OSM.beg h6 hv_19) (Or.inl ⟨rfl, rfl⟩)
    · refine j_iload_n C dX5_bestOf_5 rfl ?_
      refine j_iconst (v := nI 4) C dX5_bestOf_6 (by decide) ?_
      first | refine j_icmp_neN (tgt := 14) C dX5_bestOf_7 (by decide) (by omega) (by omega) (fun c_7 => ?_) (fun c_7 => ?_) | refine j_icmp_ne (tgt := 14) C dX5_bestOf_7 (by decide) (fun c_7 => ?_) (fun c_7 => ?_)
      · exact absurd hm (by omega)
      · refine j_iconst (v := nI 1) C dX5_bestOf_10 (by decide) ?_
        refine j_goto (tgt := 15) C dX5_bestOf_11 (by decide) ?_
        refine sn2 C dX5_bestOf_15 rfl ?_
        refine j_iconst (v := (-1)) C dX5_bestOf_16 (by decide) ?_
        refine sn3 C dX5_bestOf_17 rfl ?_
        refine j_aload_n C dX5_bestOf_18 rfl ?_
        refine cVv0 C dX5_bestOf_19 lMX5_169 myX5_first (ev_X5_first) (by omega) rc5 (Nat.le_of_ble_eq_true rfl) (fun μ_19 hv_19 => ?_)
        refine j_iconst (v := nI 1) C dX5_bestOf_22 (by decide) ?_
        refine sl4 C dX5_bestOf_23 rfl ?_
        exact loop (nP (μ 38 0)) 0 _ _ _ (by omega) (by omega) (OSM.beg h6 hv_19) (Or.inl ⟨rfl, rfl⟩)
  · have bm : decide (q9 = 1 ∨ q9 = 4) = false := decide_eq_false hm
    have p111 : ∀ x3 x5 t9 ν, OSM μ ν t9 → x3 = nI ((valO (sh μ 38) q9) (bIdx (valO (sh μ 38) q9) false ((nP (μ 38 0)) - 1))) → eqTo (μ 38 0) (ν 58) (pf (μ 38 0) (bIdx (valO (sh μ 38) q9) false ((nP (μ 38 0)) - 1))) → J G X 25 [some (rf G 38), some (.int (nI q9)), some (.int (nI 0)), some (.int x3), some (.int (nI 0)), x5] [] ν := by
      intro x3 x5 t9 ν hO hx hq
      refine j_iload C dX5_bestOf_25 rfl ?_
      refine j_if_eqN (tgt := 111) C dX5_bestOf_27 (by decide) (by omega) (fun c_27 => ?_) (fun c_27 => absurd rfl c_27)
      · refine j_aload_n C dX5_bestOf_111 rfl ?_
        refine cVv0 C dX5_bestOf_112 lMX5_176 myX5_asItWas (ev_X5_asItWas) (by omega) rc5 (Nat.le_of_ble_eq_true rfl) (fun μ_112 hv_112 => ?_)
        refine j_iload_n C dX5_bestOf_115 rfl ?_
        exact j_iret C E dX5_bestOf_116 ⟨_, rfl, by rw [bm]; exact ⟨hx, by rw [hv_112.1 58 (by decide)]; exact hq, hO.back hv_112⟩⟩
    have loop : ∀ c t9 x3 x5 ν, t9 + c = (nP (μ 38 0)) → t9 < (nP (μ 38 0)) → OSM μ ν t9 → ((t9 = 0 ∧ x3 = -1) ∨ (0 < t9 ∧ x3 = nI ((valO (sh μ 38) q9) (bIdx (valO (sh μ 38) q9) false (t9 - 1))) ∧ eqTo (μ 38 0) (ν 58) (pf (μ 38 0) (bIdx (valO (sh μ 38) q9) false (t9 - 1))))) → J G X 25 [some (rf G 38), some (.int (nI q9)), some (.int (nI 0)), some (.int x3), some (.int (nI 1)), x5] [] ν := by
      intro c
      induction c with
      | zero => intro t9 x3 x5 ν hc ht; exact absurd ht (by omega)
      | succ c ih =>
        intro t9 x3 x5 ν hc ht hO hi
        have p102 : ∀ x3 x5 ν, OSM μ ν t9 → x3 = nI ((valO (sh μ 38) q9) (bIdx (valO (sh μ 38) q9) false t9)) → eqTo (μ 38 0) (ν 58) (pf (μ 38 0) (bIdx (valO (sh μ 38) q9) false t9)) → J G X 102 [some (rf G 38), some (.int (nI q9)), some (.int (nI 0)), some (.int x3), some (.int (nI 1)), x5] [] ν := by
          intro x3 x5 ν hO hx hq
          refine j_aload_n C dX5_bestOf_102 rfl ?_
          refine cVi0 C dX5_bestOf_103 lMX5_172 myX5_next (ev_X5_next (hO.lt hE ht).1 (hO.lt hE ht).2) (by omega) rc5 (Nat.le_of_ble_eq_true rfl) (fun v_103 μ_103 hv_103 => ?_)
          have hadv := hO.adv hE ht
          rcases Nat.lt_or_ge (t9 + 1) (nP (μ 38 0)) with hlt | hge
          · obtain ⟨a1, a2⟩ := hadv.1 hlt
            obtain ⟨z1, z2, z3⟩ := hv_103.resolve_left (fun z => by have := z.1; omega)
            rw [z2]
            refine sl4 C dX5_bestOf_106 rfl ?_
            refine j_goto (tgt := 25) C dX5_bestOf_108 (by decide) ?_
            exact ih (t9 + 1) _ _ _ (by omega) hlt (by rw [z3]; exact a2) (Or.inr ⟨by omega, by rw [Nat.add_sub_cancel]; exact hx, by rw [Nat.add_sub_cancel, z3, rowM_ne (by decide)]; exact hq⟩)
          · have a1 := hadv.2 (by omega)
            obtain ⟨z1, z2, z3⟩ := hv_103.resolve_right (fun z => by have := z.1; omega)
            rw [z2]
            refine sl4 C dX5_bestOf_106 rfl ?_
            refine j_goto (tgt := 25) C dX5_bestOf_108 (by decide) ?_
            exact p111 _ _ t9 _ (by rw [z3]; exact hO) (by rw [show (nP (μ 38 0)) - 1 = t9 by omega]; exact hx) (by rw [show (nP (μ 38 0)) - 1 = t9 by omega, z3]; exact hq)
        have pcp : ∀ k i9 σ x3 ν, i9 + k = 6 → OSM μ ν t9 → (bIdx (valO (sh μ 38) q9) false t9) = t9 → x3 = nI ((valO (sh μ 38) q9) t9) → (∀ j, j < i9 → σ j = ν 43 j) → J G X 75 [some (rf G 38), some (.int (nI q9)), some (.int (nI 0)), some (.int x3), some (.int (nI 1)), some (.int (nI i9))] [] (rowM ν 58 σ) := by
          intro k
          induction k with
          | zero =>
            intro i9 σ x3 ν hi hO hn7 hx hs
            refine j_iload C dX5_bestOf_75 rfl ?_
            refine j_bipush (v := nI 6) C dX5_bestOf_77 (by decide) ?_
            first | refine j_icmp_geN (tgt := 102) C dX5_bestOf_79 (by decide) (by omega) (by omega) (fun c_79 => ?_) (fun c_79 => ?_) | refine j_icmp_ge (tgt := 102) C dX5_bestOf_79 (by decide) (fun c_79 => ?_) (fun c_79 => ?_)
            · exact p102 _ _ _ hO.r58 (by rw [hn7]; exact hx) (by rw [hn7, rowM_at]; exact fun i hi => (hs i (by omega)).trans (hO.2.2 i hi))
            · exact absurd c_79 (by omega)
          | succ k ih2 =>
            intro i9 σ x3 ν hi hO hn7 hx hs
            refine j_iload C dX5_bestOf_75 rfl ?_
            refine j_bipush (v := nI 6) C dX5_bestOf_77 (by decide) ?_
            first | refine j_icmp_geN (tgt := 102) C dX5_bestOf_79 (by decide) (by omega) (by omega) (fun c_79 => ?_) (fun c_79 => ?_) | refine j_icmp_ge (tgt := 102) C dX5_bestOf_79 (by decide) (fun c_79 => ?_) (fun c_79 => ?_)
            · exact absurd c_79 (by omega)
            · refine j_aload_n C dX5_bestOf_82 rfl ?_
              refine g5_26 C dX5_bestOf_83 lFX5_67 ?_
              refine j_iload C dX5_bestOf_86 rfl ?_
              refine j_aload_n C dX5_bestOf_88 rfl ?_
              refine g5_5 C dX5_bestOf_89 lFX5_22 ?_
              refine j_iload C dX5_bestOf_92 rfl ?_
              refine j_iald C dX5_bestOf_94 iA_43 (by omega) ?_
              refine J.top (y := nI (ν 43 i9)) (by rw [rowM_ne (by decide)]) ?_
              refine j_iast C dX5_bestOf_95 iA_58 (by omega) ?_
              refine J.mem up_row ?_
              refine in5 C dX5_bestOf_96 (nI_1 _) rfl ?_
              refine j_goto (tgt := 75) C dX5_bestOf_99 (by decide) ?_
              exact ih2 (i9 + 1) _ _ _ (by omega) hO hn7 hx (fun j hj => if q : j = i9 then (by rw [q, u1_at]) else (by rw [u1_ne q]; exact hs j (by omega)))
        refine j_iload C dX5_bestOf_25 rfl ?_
        refine j_if_eqN (tgt := 111) C dX5_bestOf_27 (by decide) (by decide) (fun c_27 => absurd c_27 (by decide)) (fun c_27 => ?_)
        · obtain ⟨w1, w2, w4, w5⟩ := sM hO.1 hE (OI_pf hE ht) hO.2.2
          have w3 : ν 38 15 = 0 := by rw [(SM_f hO.1).2.1]; exact hz
          refine j_aload_n C dX5_bestOf_30 rfl ?_
          refine cVv0 C dX5_bestOf_31 lMX5_166 myX5_round (ev_X5_round w1 w2 w3 (Or.inl rfl)) (by omega) rc5 (Nat.le_of_ble_eq_true rfl) (fun μ_31 hv_31 => ?_)
          obtain ⟨v1, v2, v3, v4⟩ := w5 _ hv_31
          have hO2 : OSM μ μ_31 t9 := ⟨v3, by rw [v4 59 (by omega)]; exact hO.2.1, by rw [v4 43 (by omega)]; exact hO.2.2⟩
          have hvb := hVb t9 ht
          have hvb2 := hVb (bIdx (valO (sh μ 38) q9) false (t9 - 1)) (by have := bIdx_le (valO (sh μ 38) q9) false (t9 - 1); omega)
          rcases hi with ⟨rfl, rfl⟩ | ⟨h0, rfl, hq⟩
          · refine j_iload_n C dX5_bestOf_34 rfl ?_
            refine j_if_lt (tgt := 65) C dX5_bestOf_35 (by decide) (fun c_35 => ?_) (fun c_35 => absurd (by decide) c_35)
            · have hn7 : (bIdx (valO (sh μ 38) q9) false 0) = 0 := rfl
              refine j_aload_n C dX5_bestOf_65 rfl ?_
              refine g5_8 C dX5_bestOf_66 lFX5_31 ?_
              refine j_iload_n C dX5_bestOf_69 rfl ?_
              refine j_iald C dX5_bestOf_70 iA_46 (by omega) ?_
              refine J.top (y := nI ((valO (sh μ 38) q9) 0)) (by rw [v1 q9 hq8]; rfl) ?_
              refine sn3 C dX5_bestOf_71 rfl ?_
              refine j_iconst (v := nI 0) C dX5_bestOf_72 (by decide) ?_
              refine sl5 C dX5_bestOf_73 rfl ?_
              refine J.mem (rowM_self (a := 58)).symm ?_
              exact pcp 6 0 _ _ _ (by omega) hO2 hn7 rfl (fun j hj => absurd hj (by omega))
          · refine j_iload_n C dX5_bestOf_34 rfl ?_
            refine j_if_ltN (tgt := 65) C dX5_bestOf_35 (by decide) (by omega) ?_
            refine j_iload_n C dX5_bestOf_38 rfl ?_
            refine j_if_eqN (tgt := 55) C dX5_bestOf_39 (by decide) (by decide) (fun c_39 => ?_) (fun c_39 => ?_)
            · refine j_aload_n C dX5_bestOf_55 rfl ?_
              refine g5_8 C dX5_bestOf_56 lFX5_31 ?_
              refine j_iload_n C dX5_bestOf_59 rfl ?_
              refine j_iald C dX5_bestOf_60 iA_46 (by omega) ?_
              refine J.top (y := nI ((valO (sh μ 38) q9) t9)) (by rw [v1 q9 hq8]; rfl) ?_
              refine j_iload_n C dX5_bestOf_61 rfl ?_
              first | refine j_icmp_geN (tgt := 102) C dX5_bestOf_62 (by decide) (by omega) (by omega) (fun c_62 => ?_) (fun c_62 => ?_) | refine j_icmp_ge (tgt := 102) C dX5_bestOf_62 (by decide) (fun c_62 => ?_) (fun c_62 => ?_)
              · have hn7 := (bIdx_f (f := (valO (sh μ 38) q9)) (v9 := t9) h0 rfl rfl).2 (by omega)
                exact p102 _ _ _ hO2 (by rw [hn7]) (by rw [hn7, v4 58 (by omega)]; exact hq)
              · have hn7 := (bIdx_f (f := (valO (sh μ 38) q9)) (v9 := t9) h0 rfl rfl).1 (by omega)
                refine j_aload_n C dX5_bestOf_65 rfl ?_
                refine g5_8 C dX5_bestOf_66 lFX5_31 ?_
                refine j_iload_n C dX5_bestOf_69 rfl ?_
                refine j_iald C dX5_bestOf_70 iA_46 (by omega) ?_
                refine J.top (y := nI ((valO (sh μ 38) q9) t9)) (by rw [v1 q9 hq8]; rfl) ?_
                refine sn3 C dX5_bestOf_71 rfl ?_
                refine j_iconst (v := nI 0) C dX5_bestOf_72 (by decide) ?_
                refine sl5 C dX5_bestOf_73 rfl ?_
                refine J.mem (rowM_self (a := 58)).symm ?_
                exact pcp 6 0 _ _ _ (by omega) hO2 hn7 rfl (fun j hj => absurd hj (by omega))
            · exact absurd rfl c_39
    refine j_iload_n C dX5_bestOf_0 rfl ?_
    refine j_iconst (v := nI 1) C dX5_bestOf_1 (by decide) ?_
    first | refine j_icmp_eqN (tgt := 10) C dX5_bestOf_2 (by decide) (by omega) (by omega) (fun c_2 => ?_) (fun c_2 => ?_) | refine j_icmp_eq (tgt := 10) C dX5_bestOf_2 (by decide) (fun c_2 => ?_) (fun c_2 => ?_)
    · exact absurd (Or.inl c_2) hm
    · refine j_iload_n C dX5_bestOf_5 rfl ?_
      refine j_iconst (v := nI 4) C dX5_bestOf_6 (by decide) ?_
      first | refine j_icmp_neN (tgt := 14) C dX5_bestOf_7 (by decide) (by omega) (by omega) (fun c_7 => ?_) (fun c_7 => ?_) | refine j_icmp_ne (tgt := 14) C dX5_bestOf_7 (by decide) (fun c_7 => ?_) (fun c_7 => ?_)
      · refine j_iconst (v := nI 0) C dX5_bestOf_14 (by decide) ?_
        refine sn2 C dX5_bestOf_15 rfl ?_
        refine j_iconst (v := (-1)) C dX5_bestOf_16 (by decide) ?_
        refine sn3 C dX5_bestOf_17 rfl ?_
        refine j_aload_n C dX5_bestOf_18 rfl ?_
        refine cVv0 C dX5_bestOf_19 lMX5_169 myX5_first (ev_X5_first) (by omega) rc5 (Nat.le_of_ble_eq_true rfl) (fun μ_19 hv_19 => ?_)
        refine j_iconst (v := nI 1) C dX5_bestOf_22 (by decide) ?_
        refine sl4 C dX5_bestOf_23 rfl ?_
        exact loop (nP (μ 38 0)) 0 _ _ _ (by omega) (by omega) (OSM.beg h6 hv_19) (Or.inl ⟨rfl, rfl⟩)
      · exact absurd (Or.inr c_7) hm
set_option maxRecDepth 100000 in
set_option maxHeartbeats 4000000 in
theorem ev_X5_best {G : GX} {x9 : Int32} {μ : Mem} (hE : EI (sh μ 38)) (hP : PI5 (sh μ 38)) (hz : μ 38 15 = 0) : Ev G mX5_best 4 [rf G 38, .int x9] μ (PI (OutM (kTo x9) (nI (valO (sh μ 38) x9.toNatClampNeg (bstI (sh μ 38) x9.toNatClampNeg))) μ)) := by
  refine Ev.of (own := RX5) (n := 0) (by decide) rfl rfl (catOK rfl) (fun X C E => ?_)
  show J G X 0 [some _, some _] [] _
  refine j_iload_n C dX5_best_0 rfl ?_
  refine j_iconst (v := nI 0) C dX5_best_1 (by decide) ?_
  refine j_bipush (v := nI 7) C dX5_best_2 (by decide) ?_
  refine cSe3 C dX5_best_4 lMX5_83 myX5_within (ev_X5_within) (by omega) (Nat.le_of_ble_eq_true rfl) ?_
  refine J.top (b2i_mo (q := isTo x9) in_07) ?_
  first | refine j_if_eqB (tgt := 18) C dX5_best_7 (by decide) (fun c_7 => ?_) (fun c_7 => ?_) | refine j_if_eqN (tgt := 18) C dX5_best_7 (by decide) (by omega) (fun c_7 => ?_) (fun c_7 => ?_) | refine j_if_eq (tgt := 18) C dX5_best_7 (by decide) (fun c_7 => ?_) (fun c_7 => ?_)
  · refine j_aload_n C dX5_best_18 rfl ?_
    refine j_bipush (v := (-2)) C dX5_best_19 (by decide) ?_
    refine cVe1 C dX5_best_21 lMX5_75 myX5_no (ev_X5_no (k := 2) (by decide) (by decide)) (by omega) rc5 (Nat.le_of_ble_eq_true rfl) ?_
    exact j_iret C E dX5_best_24 (by first | exact outM_ok (if_pos c_7) (by rw [cl (by omega)]; exact hv_12.1) hv_12.2.2 | exact outM_no (j := 2) (if_neg c_7) (by decide) (by decide))
  · obtain ⟨j9, hj, rfl⟩ := fl_of (n := 8) (by decide) c_7
    refine j_aload_n C dX5_best_10 rfl ?_
    refine j_iload_n C dX5_best_11 rfl ?_
    refine cVi1 C dX5_best_12 lMX5_179 myX5_bestOf (ev_X5_bestOf hE hP hz hj) (by omega) rc5 (Nat.le_of_ble_eq_true rfl) (fun v_12 μ_12 hv_12 => ?_)
    refine j_goto (tgt := 24) C dX5_best_15 (by decide) ?_
    exact j_iret C E dX5_best_24 (by first | exact outM_ok (if_pos c_7) (by rw [cl (by omega)]; exact hv_12.1) hv_12.2.2 | exact outM_no (j := 2) (if_neg c_7) (by decide) (by decide))
set_option maxRecDepth 100000 in
set_option maxHeartbeats 4000000 in
theorem ev_X5_bestAt {G : GX} {x9 y9 : Int32} {μ : Mem} (hE : EI (sh μ 38)) (hP : PI5 (sh μ 38)) (hz : μ 38 15 = 0) : Ev G mX5_bestAt 4 [rf G 38, .int x9, .int y9] μ (PI (OutM (kBa (μ 38 0) x9 y9) (nI (pf (μ 38 0) (bstI (sh μ 38) x9.toNatClampNeg) y9.toNatClampNeg)) μ)) := by
  refine Ev.of (own := RX5) (n := 0) (by decide) rfl rfl (catOK rfl) (fun X C E => ?_)
  show J G X 0 [some _, some _, some _] [] _
  have hn : μ 38 0 ≤ 6 := hE.1
  refine j_iload_n C dX5_bestAt_0 rfl ?_
  refine j_iconst (v := nI 0) C dX5_bestAt_1 (by decide) ?_
  refine j_bipush (v := nI 7) C dX5_bestAt_2 (by decide) ?_
  refine cSe3 C dX5_bestAt_4 lMX5_83 myX5_within (ev_X5_within) (by omega) (Nat.le_of_ble_eq_true rfl) ?_
  refine J.top (b2i_mo (q := isTo x9) in_07) ?_
  first | refine j_if_neB (tgt := 17) C dX5_bestAt_7 (by decide) (fun c_7 => ?_) (fun c_7 => ?_) | refine j_if_neN (tgt := 17) C dX5_bestAt_7 (by decide) (by omega) (fun c_7 => ?_) (fun c_7 => ?_) | refine j_if_ne (tgt := 17) C dX5_bestAt_7 (by decide) (fun c_7 => ?_) (fun c_7 => ?_)
  · obtain ⟨q9, hq9, rfl⟩ := fl_of (n := 8) (by decide) c_7
    refine j_aload_n C dX5_bestAt_17 rfl ?_
    refine j_iload_n C dX5_bestAt_18 rfl ?_
    refine cVe1 C dX5_bestAt_19 lMX5_111 myX5_isFloor (ev_X5_isFloor (by omega)) (by omega) rc5 (Nat.le_of_ble_eq_true rfl) ?_
    first | refine j_if_neB (tgt := 31) C dX5_bestAt_22 (by decide) (fun c_22 => ?_) (fun c_22 => ?_) | refine j_if_neN (tgt := 31) C dX5_bestAt_22 (by decide) (by omega) (fun c_22 => ?_) (fun c_22 => ?_) | refine j_if_ne (tgt := 31) C dX5_bestAt_22 (by decide) (fun c_22 => ?_) (fun c_22 => ?_)
    · obtain ⟨j9, hj, rfl⟩ := isM_E hE c_22
      refine j_aload_n C dX5_bestAt_31 rfl ?_
      refine j_iload_n C dX5_bestAt_32 rfl ?_
      refine cVi1 C dX5_bestAt_33 lMX5_179 myX5_bestOf (ev_X5_bestOf hE hP hz hq9) (by omega) rc5 (Nat.le_of_ble_eq_true rfl) (fun v_33 μ_33 hv_33 => ?_)
      refine j_pop C dX5_bestAt_36 rfl ?_
      refine j_aload_n C dX5_bestAt_37 rfl ?_
      refine g5_26 C dX5_bestAt_38 lFX5_67 ?_
      refine j_iload_n C dX5_bestAt_41 rfl ?_
      refine j_iald C dX5_bestAt_42 iA_58 (by omega) ?_
      exact j_iret C E dX5_bestAt_43 (outM_ok (by rw [kBa, if_pos c_7, if_pos c_22]) (by rw [cl (by omega), cl (by omega)]; exact congrArg nI (hv_33.2.1 j9 hj)) hv_33.2.2)
    · refine j_aload_n C dX5_bestAt_25 rfl ?_
      refine j_iconst (v := (-1)) C dX5_bestAt_26 (by decide) ?_
      refine cVe1 C dX5_bestAt_27 lMX5_75 myX5_no (ev_X5_no (k := 1) (by decide) (by decide)) (by omega) rc5 (Nat.le_of_ble_eq_true rfl) ?_
      exact j_iret C E dX5_bestAt_30 (outM_no (j := 1) (by rw [kBa, if_pos c_7, if_neg c_22]) (by decide) (by decide))
  · refine j_aload_n C dX5_bestAt_10 rfl ?_
    refine j_bipush (v := (-2)) C dX5_bestAt_11 (by decide) ?_
    refine cVe1 C dX5_bestAt_13 lMX5_75 myX5_no (ev_X5_no (k := 2) (by decide) (by decide)) (by omega) rc5 (Nat.le_of_ble_eq_true rfl) ?_
    exact j_iret C E dX5_bestAt_16 (outM_no (j := 2) (if_neg c_7) (by decide) (by decide))
