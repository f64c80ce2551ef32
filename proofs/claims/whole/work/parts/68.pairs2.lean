/-! ===== what changes the town, by both ===== -/
theorem gq0 {r : Int} {P : Prop} [Decidable P] {a : Int} {w : Nat} {y : gA} (e : (r, 0) = if P then (a, w) else y) (hw : w ≠ 0) : ¬ P ∧ (r, 0) = y := by
  by_cases h : P
  · rw [if_pos h] at e
    exact absurd (show (0 : Nat) = w from congrArg Prod.snd e).symm hw
  · rw [if_neg h] at e
    exact ⟨h, e⟩
theorem gq1 {r : Int} {P : Prop} [Decidable P] {a : Int} {w : Nat} {y : gA} (e : (r, 0) = if P then y else (a, w)) (hw : w ≠ 0) : P ∧ (r, 0) = y := by
  by_cases h : P
  · rw [if_pos h] at e
    exact ⟨h, e⟩
  · rw [if_neg h] at e
    exact absurd (show (0 : Nat) = w from congrArg Prod.snd e).symm hw
theorem pr_go {z : xZ} {d : Nat} {Q : tQ} {c : tC} {L : tL} {p v : Int}  (hRR : RR c L) (hp : inR p) (hv : inR v)  (k : ∀ r c1 (L1 : tL), (∀ (d2 : Nat) (Q2 : tQ), (∀ c2 L2, RR c2 L2 → Q2 (some (.int (iI r))) c2 L2) → En z (d2 + 20) MX11_go Q2 0 [some (.ref (xad z 50 0)), some (.int (iI p)), some (.int (iI v)), none] [] c1 L1) → Q (some (.int (iI r))) c1 L1) : En z (d + 20) MX10_go Q 0 [some (.ref (xad z 0 0)), some (.int (iI p)), some (.int (iI v)), none] [] c L := by
  have hR := hRR.1
  obtain ⟨n, hn⟩ := RR_n hRR
  have g := R0_rng hR
  have hc := R0_scal hR
  have hG := RX_MG hR
  refine x_go hR hn hp hv  (fun r w hw e => k r _ _ (fun d2 Q2 k2 => ?_)) (fun r e => k r _ _ (fun d2 Q2 k2 => ?_))
  · have hR1 := RX_xRe w hR
    refine m_go (RX_MG hR1) hp hv  (fun r2 w2 hw2 e2 => ?_) (fun r2 e2 => ?_)
    · try rw [xRe_g (g := 51) (by decide)] at e2
      try rw [xRe_g (g := 50) (by decide)] at e2
      obtain ⟨h1, h2⟩ := Prod.mk.inj (e2.trans e.symm)
      subst h1
      subst h2
      exact k2 _ _ (RR_ref _ hRR)
    · try rw [xRe_g (g := 51) (by decide)] at e2
      try rw [xRe_g (g := 50) (by decide)] at e2
      exact absurd (show (0 : Nat) = w from congrArg Prod.snd (e2.trans e.symm)).symm hw
  · have e0 := e
    unfold gGo at e0
    obtain ⟨q1, e1⟩ := gq1 e0 (by decide)
    refine m_go hG hp hv  (fun r2 w2 hw2 e2 => absurd (show w2 = (0 : Nat) from congrArg Prod.snd (e2.trans e.symm)) hw2) (fun r2 e2 => ?_)
    obtain ⟨h1, h2⟩ := Prod.mk.inj (e2.trans e.symm)
    subst h1
    refine k2 _ _ (RR_keep hRR (rx_go (p := p.toNat) (v := v) hR (fun g i j n => by rw [cu_ap, if_neg (by omega), cu_ap, if_neg (by omega)]) (by simp [cu_ap]) (by simp [cu_ap]) q1.2) ?_ (fun g i j n => by unfold wrT inT PG at n; rw [cu_ap, if_neg (by omega), cu_ap, if_neg (by omega)]) (Int.le_refl _) (fun _ _ _ => rfl) (fun _ => rfl))
    exact hRR.2.2.2.2.2
theorem pr_hours {z : xZ} {d : Nat} {Q : tQ} {c : tC} {L : tL} {s p q : Int}  (hRR : RR c L) (hs : inR s) (hp : inR p) (hq : inR q)  (k : ∀ r c1 (L1 : tL), (∀ (d2 : Nat) (Q2 : tQ), (∀ c2 L2, RR c2 L2 → Q2 (some (.int (iI r))) c2 L2) → En z (d2 + 20) MX11_hours Q2 0 [some (.ref (xad z 50 0)), some (.int (iI s)), some (.int (iI p)), some (.int (iI q)), none] [] c1 L1) → Q (some (.int (iI r))) c1 L1) : En z (d + 20) MX10_hours Q 0 [some (.ref (xad z 0 0)), some (.int (iI s)), some (.int (iI p)), some (.int (iI q)), none, none] [] c L := by
  have hR := hRR.1
  obtain ⟨n, hn⟩ := RR_n hRR
  have g := R0_rng hR
  have hc := R0_scal hR
  have hG := RX_MG hR
  refine x_hours hR hn hs hp hq  (fun r w hw e => k r _ _ (fun d2 Q2 k2 => ?_)) (fun r e => k r _ _ (fun d2 Q2 k2 => ?_))
  · have hR1 := RX_xRe w hR
    refine m_hours (RX_MG hR1) hs hp hq  (fun r2 w2 hw2 e2 => ?_) (fun r2 e2 => ?_)
    · try rw [xRe_g (g := 51) (by decide)] at e2
      try rw [xRe_g (g := 50) (by decide)] at e2
      obtain ⟨h1, h2⟩ := Prod.mk.inj (e2.trans e.symm)
      subst h1
      subst h2
      exact k2 _ _ (RR_ref _ hRR)
    · try rw [xRe_g (g := 51) (by decide)] at e2
      try rw [xRe_g (g := 50) (by decide)] at e2
      exact absurd (show (0 : Nat) = w from congrArg Prod.snd (e2.trans e.symm)).symm hw
  · have e0 := e
    unfold gHours at e0
    obtain ⟨q1, e1⟩ := gq0 e0 (by decide)
    obtain ⟨q2, e2⟩ := gq0 e1 (by decide)
    refine m_hours hG hs hp hq  (fun r2 w2 hw2 e2 => absurd (show w2 = (0 : Nat) from congrArg Prod.snd (e2.trans e.symm)) hw2) (fun r2 e2 => ?_)
    obtain ⟨h1, h2⟩ := Prod.mk.inj (e2.trans e.symm)
    subst h1
    refine k2 _ _ (RR_keep hRR (rx_hours (s := s.toNat) (p := p) (q0 := q) hR (fun g i j n => by rw [cu_ap, if_neg (by omega), cu_ap, if_neg (by omega), cu_ap, if_neg (by omega), cu_ap, if_neg (by omega)]) (by simp [cu_ap]) (by simp [cu_ap]) (by simp [cu_ap]) (by simp [cu_ap]) (by omega) (by omega)) ?_ (fun g i j n => by unfold wrT inT PG at n; rw [cu_ap, if_neg (by omega), cu_ap, if_neg (by omega), cu_ap, if_neg (by omega), cu_ap, if_neg (by omega)]) (Int.le_refl _) (fun _ _ _ => rfl) (fun _ => rfl))
    exact hRR.2.2.2.2.2
theorem pr_cost {z : xZ} {d : Nat} {Q : tQ} {c : tC} {L : tL} {s v : Int}  (hRR : RR c L) (hs : inR s) (hv : inR v)  (k : ∀ r c1 (L1 : tL), (∀ (d2 : Nat) (Q2 : tQ), (∀ c2 L2, RR c2 L2 → Q2 (some (.int (iI r))) c2 L2) → En z (d2 + 20) MX11_cost Q2 0 [some (.ref (xad z 50 0)), some (.int (iI s)), some (.int (iI v)), none] [] c1 L1) → Q (some (.int (iI r))) c1 L1) : En z (d + 20) MX10_cost Q 0 [some (.ref (xad z 0 0)), some (.int (iI s)), some (.int (iI v)), none] [] c L := by
  have hR := hRR.1
  obtain ⟨n, hn⟩ := RR_n hRR
  have g := R0_rng hR
  have hc := R0_scal hR
  have hG := RX_MG hR
  refine x_cost hR hn hs hv  (fun r w hw e => k r _ _ (fun d2 Q2 k2 => ?_)) (fun r e => k r _ _ (fun d2 Q2 k2 => ?_))
  · have hR1 := RX_xRe w hR
    refine m_cost (RX_MG hR1) hs hv  (fun r2 w2 hw2 e2 => ?_) (fun r2 e2 => ?_)
    · try rw [xRe_g (g := 51) (by decide)] at e2
      try rw [xRe_g (g := 50) (by decide)] at e2
      obtain ⟨h1, h2⟩ := Prod.mk.inj (e2.trans e.symm)
      subst h1
      subst h2
      exact k2 _ _ (RR_ref _ hRR)
    · try rw [xRe_g (g := 51) (by decide)] at e2
      try rw [xRe_g (g := 50) (by decide)] at e2
      exact absurd (show (0 : Nat) = w from congrArg Prod.snd (e2.trans e.symm)).symm hw
  · have e0 := e
    unfold gCost at e0
    obtain ⟨q1, e1⟩ := gq0 e0 (by decide)
    obtain ⟨q2, e2⟩ := gq0 e1 (by decide)
    refine m_cost hG hs hv  (fun r2 w2 hw2 e2 => absurd (show w2 = (0 : Nat) from congrArg Prod.snd (e2.trans e.symm)) hw2) (fun r2 e2 => ?_)
    obtain ⟨h1, h2⟩ := Prod.mk.inj (e2.trans e.symm)
    subst h1
    refine k2 _ _ (RR_keep hRR (rx_cost (s := s.toNat) (v := v) hR (fun g i j n => by rw [cu_ap, if_neg (by omega), cu_ap, if_neg (by omega)]) (by simp [cu_ap]) (by simp [cu_ap]) (by omega)) ?_ (fun g i j n => by unfold wrT inT PG at n; rw [cu_ap, if_neg (by omega), cu_ap, if_neg (by omega)]) (Int.le_refl _) (fun _ _ _ => rfl) (fun _ => rfl))
    exact hRR.2.2.2.2.2
theorem pr_off {z : xZ} {d : Nat} {Q : tQ} {c : tC} {L : tL} {s v : Int}  (hRR : RR c L) (hs : inR s) (hv : inR v) (hv01 : v = 0 ∨ v = 1) (k : ∀ r c1 (L1 : tL), (∀ (d2 : Nat) (Q2 : tQ), (∀ c2 L2, RR c2 L2 → Q2 (some (.int (iI r))) c2 L2) → En z (d2 + 20) MX11_off Q2 0 [some (.ref (xad z 50 0)), some (.int (iI s)), some (.int (iI v)), none] [] c1 L1) → Q (some (.int (iI r))) c1 L1) : En z (d + 20) MX10_off Q 0 [some (.ref (xad z 0 0)), some (.int (iI s)), some (.int (iI v)), none] [] c L := by
  have hR := hRR.1
  obtain ⟨n, hn⟩ := RR_n hRR
  have g := R0_rng hR
  have hc := R0_scal hR
  have hG := RX_MG hR
  refine x_off hR hn hs hv hv01 (fun r w hw e => k r _ _ (fun d2 Q2 k2 => ?_)) (fun r e => k r _ _ (fun d2 Q2 k2 => ?_))
  · have hR1 := RX_xRe w hR
    refine m_off (RX_MG hR1) hs hv hv01 (fun s hs => (R0_src hR1 s hs).2.2.2.2.2.2.2.2.2) (fun r2 w2 hw2 e2 => ?_) (fun r2 e2 => ?_)
    · try rw [xRe_g (g := 51) (by decide)] at e2
      try rw [xRe_g (g := 50) (by decide)] at e2
      obtain ⟨h1, h2⟩ := Prod.mk.inj (e2.trans e.symm)
      subst h1
      subst h2
      exact k2 _ _ (RR_ref _ hRR)
    · try rw [xRe_g (g := 51) (by decide)] at e2
      try rw [xRe_g (g := 50) (by decide)] at e2
      exact absurd (show (0 : Nat) = w from congrArg Prod.snd (e2.trans e.symm)).symm hw
  · have e0 := e
    unfold gOff at e0
    obtain ⟨q1, e1⟩ := gq0 e0 (by decide)
    refine m_off hG hs hv hv01 (fun s hs => (R0_src hR s hs).2.2.2.2.2.2.2.2.2) (fun r2 w2 hw2 e2 => absurd (show w2 = (0 : Nat) from congrArg Prod.snd (e2.trans e.symm)) hw2) (fun r2 e2 => ?_)
    obtain ⟨h1, h2⟩ := Prod.mk.inj (e2.trans e.symm)
    subst h1
    refine k2 _ _ (RR_keep hRR (rx_off (s := s.toNat) (v := v) (n := n) hR (fun g i j n => by rw [cu_ap, if_neg (by omega), cu_ap, if_neg (by omega)]) hn (by rw [cu_ap, if_neg (by omega), cu_ap, if_pos ⟨rfl, rfl, rfl⟩]) (by simp [cu_ap]) hv01) ?_ (fun g i j n => by unfold wrT inT PG at n; rw [cu_ap, if_neg (by omega), cu_ap, if_neg (by omega)]) (Int.le_refl _) (fun _ _ _ => rfl) (fun _ => rfl))
    exact hRR.2.2.2.2.2
theorem pr_size {z : xZ} {d : Nat} {Q : tQ} {c : tC} {L : tL} {p v : Int}  (hRR : RR c L) (hp : inR p) (hv : inR v)  (k : ∀ r c1 (L1 : tL), (∀ (d2 : Nat) (Q2 : tQ), (∀ c2 L2, RR c2 L2 → Q2 (some (.int (iI r))) c2 L2) → En z (d2 + 20) MX11_size Q2 0 [some (.ref (xad z 50 0)), some (.int (iI p)), some (.int (iI v)), none] [] c1 L1) → Q (some (.int (iI r))) c1 L1) : En z (d + 20) MX10_size Q 0 [some (.ref (xad z 0 0)), some (.int (iI p)), some (.int (iI v)), none] [] c L := by
  have hR := hRR.1
  obtain ⟨n, hn⟩ := RR_n hRR
  have g := R0_rng hR
  have hc := R0_scal hR
  have hG := RX_MG hR
  refine x_size hR hn hp hv  (fun r w hw e => k r _ _ (fun d2 Q2 k2 => ?_)) (fun r e => k r _ _ (fun d2 Q2 k2 => ?_))
  · have hR1 := RX_xRe w hR
    refine m_size (RX_MG hR1) hp hv  (fun r2 w2 hw2 e2 => ?_) (fun r2 e2 => ?_)
    · try rw [xRe_g (g := 51) (by decide)] at e2
      try rw [xRe_g (g := 50) (by decide)] at e2
      obtain ⟨h1, h2⟩ := Prod.mk.inj (e2.trans e.symm)
      subst h1
      subst h2
      exact k2 _ _ (RR_ref _ hRR)
    · try rw [xRe_g (g := 51) (by decide)] at e2
      try rw [xRe_g (g := 50) (by decide)] at e2
      exact absurd (show (0 : Nat) = w from congrArg Prod.snd (e2.trans e.symm)).symm hw
  · have e0 := e
    unfold gSize at e0
    obtain ⟨q1, e1⟩ := gq0 e0 (by decide)
    obtain ⟨q2, e2⟩ := gq0 e1 (by decide)
    refine m_size hG hp hv  (fun r2 w2 hw2 e2 => absurd (show w2 = (0 : Nat) from congrArg Prod.snd (e2.trans e.symm)) hw2) (fun r2 e2 => ?_)
    obtain ⟨h1, h2⟩ := Prod.mk.inj (e2.trans e.symm)
    subst h1
    refine k2 _ _ (RR_keep hRR (rx_size (p := p.toNat) (v := v) hR (fun g i j n => by rw [cu_ap, if_neg (by omega), cu_ap, if_neg (by omega)]) (by simp [cu_ap]) (by simp [cu_ap]) (by omega)) ?_ (fun g i j n => by unfold wrT inT PG at n; rw [cu_ap, if_neg (by omega), cu_ap, if_neg (by omega)]) (Int.le_refl _) (fun _ _ _ => rfl) (fun _ => rfl))
    exact hRR.2.2.2.2.2
theorem pr_weather {z : xZ} {d : Nat} {Q : tQ} {c : tC} {L : tL} {p v : Int}  (hRR : RR c L) (hp : inR p) (hv : inR v)  (k : ∀ r c1 (L1 : tL), (∀ (d2 : Nat) (Q2 : tQ), (∀ c2 L2, RR c2 L2 → Q2 (some (.int (iI r))) c2 L2) → En z (d2 + 20) MX11_weather Q2 0 [some (.ref (xad z 50 0)), some (.int (iI p)), some (.int (iI v)), none] [] c1 L1) → Q (some (.int (iI r))) c1 L1) : En z (d + 20) MX10_weather Q 0 [some (.ref (xad z 0 0)), some (.int (iI p)), some (.int (iI v)), none] [] c L := by
  have hR := hRR.1
  obtain ⟨n, hn⟩ := RR_n hRR
  have g := R0_rng hR
  have hc := R0_scal hR
  have hG := RX_MG hR
  refine x_weather hR hn hp hv  (fun r w hw e => k r _ _ (fun d2 Q2 k2 => ?_)) (fun r e => k r _ _ (fun d2 Q2 k2 => ?_))
  · have hR1 := RX_xRe w hR
    refine m_weather (RX_MG hR1) hp hv  (fun r2 w2 hw2 e2 => ?_) (fun r2 e2 => ?_)
    · try rw [xRe_g (g := 51) (by decide)] at e2
      try rw [xRe_g (g := 50) (by decide)] at e2
      obtain ⟨h1, h2⟩ := Prod.mk.inj (e2.trans e.symm)
      subst h1
      subst h2
      exact k2 _ _ (RR_ref _ hRR)
    · try rw [xRe_g (g := 51) (by decide)] at e2
      try rw [xRe_g (g := 50) (by decide)] at e2
      exact absurd (show (0 : Nat) = w from congrArg Prod.snd (e2.trans e.symm)).symm hw
  · have e0 := e
    unfold gWeather at e0
    obtain ⟨q1, e1⟩ := gq0 e0 (by decide)
    refine m_weather hG hp hv  (fun r2 w2 hw2 e2 => absurd (show w2 = (0 : Nat) from congrArg Prod.snd (e2.trans e.symm)) hw2) (fun r2 e2 => ?_)
    obtain ⟨h1, h2⟩ := Prod.mk.inj (e2.trans e.symm)
    subst h1
    refine k2 _ _ (RR_keep hRR (rx_weather (p := p.toNat) (v := v) hR (fun g i j n => by rw [cu_ap, if_neg (by omega), cu_ap, if_neg (by omega)]) (by simp [cu_ap]) (by simp [cu_ap]) (by omega)) ?_ (fun g i j n => by unfold wrT inT PG at n; rw [cu_ap, if_neg (by omega), cu_ap, if_neg (by omega)]) (Int.le_refl _) (fun _ _ _ => rfl) (fun _ => rfl))
    exact hRR.2.2.2.2.2
theorem pr_pass {z : xZ} {d : Nat} {Q : tQ} {c : tC} {L : tL} {v : Int}  (hRR : RR c L) (hv : inR v)  (k : ∀ r c1 (L1 : tL), (∀ (d2 : Nat) (Q2 : tQ), (∀ c2 L2, RR c2 L2 → Q2 (some (.int (iI r))) c2 L2) → En z (d2 + 20) MX11_pass Q2 0 [some (.ref (xad z 50 0)), some (.int (iI v))] [] c1 L1) → Q (some (.int (iI r))) c1 L1) : En z (d + 20) MX10_pass Q 0 [some (.ref (xad z 0 0)), some (.int (iI v))] [] c L := by
  have hR := hRR.1
  obtain ⟨n, hn⟩ := RR_n hRR
  have g := R0_rng hR
  have hc := R0_scal hR
  have hG := RX_MG hR
  refine x_pass hR hn hv  (fun r w hw e => k r _ _ (fun d2 Q2 k2 => ?_)) (fun r e => k r _ _ (fun d2 Q2 k2 => ?_))
  · have hR1 := RX_xRe w hR
    refine m_pass (RX_MG hR1) hv  (fun r2 w2 hw2 e2 => ?_) (fun r2 e2 => ?_)
    · try rw [xRe_g (g := 51) (by decide)] at e2
      try rw [xRe_g (g := 50) (by decide)] at e2
      obtain ⟨h1, h2⟩ := Prod.mk.inj (e2.trans e.symm)
      subst h1
      subst h2
      exact k2 _ _ (RR_ref _ hRR)
    · try rw [xRe_g (g := 51) (by decide)] at e2
      try rw [xRe_g (g := 50) (by decide)] at e2
      exact absurd (show (0 : Nat) = w from congrArg Prod.snd (e2.trans e.symm)).symm hw
  · have e0 := e
    unfold gPass at e0
    obtain ⟨q1, e1⟩ := gq0 e0 (by decide)
    refine m_pass hG hv  (fun r2 w2 hw2 e2 => absurd (show w2 = (0 : Nat) from congrArg Prod.snd (e2.trans e.symm)) hw2) (fun r2 e2 => ?_)
    obtain ⟨h1, h2⟩ := Prod.mk.inj (e2.trans e.symm)
    subst h1
    refine k2 _ _ (RR_keep hRR (rx_pass  hR (fun g i j n => by rw [cu_ap, if_neg (by omega), cu_ap, if_neg (by omega)]) (v := c 50 0 0 + v) (by rw [cu_ap, if_neg (by omega), cu_ap, if_pos ⟨rfl, rfl, rfl⟩, hc.1]) (by rw [cu_ap, if_pos ⟨rfl, rfl, rfl⟩, cu_ap, if_neg (by omega)]) (by omega)) ?_ (fun g i j n => by unfold wrT inT PG at n; rw [cu_ap, if_neg (by omega), cu_ap, if_neg (by omega)]) (Int.le_refl _) (fun _ _ _ => rfl) (fun _ => rfl))
    exact hRR.2.2.2.2.2
theorem pr_force {z : xZ} {d : Nat} {Q : tQ} {c : tC} {L : tL} {v : Int}  (hRR : RR c L) (hv : inR v)  (k : ∀ r c1 (L1 : tL), (∀ (d2 : Nat) (Q2 : tQ), (∀ c2 L2, RR c2 L2 → Q2 (some (.int (iI r))) c2 L2) → En z (d2 + 20) MX11_force Q2 0 [some (.ref (xad z 50 0)), some (.int (iI v)), none] [] c1 L1) → Q (some (.int (iI r))) c1 L1) : En z (d + 20) MX10_force Q 0 [some (.ref (xad z 0 0)), some (.int (iI v)), none] [] c L := by
  have hR := hRR.1
  obtain ⟨n, hn⟩ := RR_n hRR
  have g := R0_rng hR
  have hc := R0_scal hR
  have hG := RX_MG hR
  refine x_force hR hn hv  (fun r w hw e => k r _ _ (fun d2 Q2 k2 => ?_)) (fun r e => k r _ _ (fun d2 Q2 k2 => ?_))
  · have hR1 := RX_xRe w hR
    refine m_force (RX_MG hR1) hv  (fun r2 w2 hw2 e2 => ?_) (fun r2 e2 => ?_)
    · try rw [xRe_g (g := 51) (by decide)] at e2
      try rw [xRe_g (g := 50) (by decide)] at e2
      obtain ⟨h1, h2⟩ := Prod.mk.inj (e2.trans e.symm)
      subst h1
      subst h2
      exact k2 _ _ (RR_ref _ hRR)
    · try rw [xRe_g (g := 51) (by decide)] at e2
      try rw [xRe_g (g := 50) (by decide)] at e2
      exact absurd (show (0 : Nat) = w from congrArg Prod.snd (e2.trans e.symm)).symm hw
  · have e0 := e
    unfold gForce at e0
    obtain ⟨q1, e1⟩ := gq1 e0 (by decide)
    refine m_force hG hv  (fun r2 w2 hw2 e2 => absurd (show w2 = (0 : Nat) from congrArg Prod.snd (e2.trans e.symm)) hw2) (fun r2 e2 => ?_)
    obtain ⟨h1, h2⟩ := Prod.mk.inj (e2.trans e.symm)
    subst h1
    refine k2 _ _ (RR_keep hRR (rx_force (v := v) hR (fun g i j n => by rw [cu_ap, if_neg (by omega), cu_ap, if_neg (by omega)]) (by simp [cu_ap]) (by simp [cu_ap]) q1) ?_ (fun g i j n => by unfold wrT inT PG at n; rw [cu_ap, if_neg (by omega), cu_ap, if_neg (by omega)]) (Int.le_refl _) (fun _ _ _ => rfl) (fun _ => rfl))
    exact hRR.2.2.2.2.2
theorem pr_person {z : xZ} {d : Nat} {Q : tQ} {c : tC} {L : tL} {v b l q rd : Int}  (hRR : RR c L) (hv : inR v) (hb : inR b) (hl : inR l) (hq : inR q) (hrd : inR rd) (hr01 : rd = 0 ∨ rd = 1) (k : ∀ r c1 (L1 : tL), (∀ (d2 : Nat) (Q2 : tQ), (∀ c2 L2, RR c2 L2 → Q2 (some (.int (iI r))) c2 L2) → En z (d2 + 20) MX11_person Q2 0 [some (.ref (xad z 50 0)), some (.int (iI v)), some (.int (iI b)), some (.int (iI l)), some (.int (iI q)), some (.int (iI rd))] [] c1 L1) → Q (some (.int (iI r))) c1 L1) : En z (d + 20) MX10_person Q 0 [some (.ref (xad z 0 0)), some (.int (iI v)), some (.int (iI b)), some (.int (iI l)), some (.int (iI q)), some (.int (iI rd))] [] c L := by
  have hR := hRR.1
  obtain ⟨n, hn⟩ := RR_n hRR
  obtain ⟨pn, hpn⟩ := Int.eq_ofNat_of_zero_le (R0_rng hR).2.1.1
  have g := R0_rng hR
  have hc := R0_scal hR
  have hG := RX_MG hR
  refine x_person hR hn hv hb hl hq hrd hr01 hpn (fun r w hw e => k r _ _ (fun d2 Q2 k2 => ?_)) (fun r e => k r _ _ (fun d2 Q2 k2 => ?_))
  · have hR1 := RX_xRe w hR
    refine m_person (RX_MG hR1) hv hb hl hq hrd ((xRe_ne (by decide)).trans hpn) hr01 (fun r2 w2 hw2 e2 => ?_) (fun r2 e2 => ?_)
    · try rw [xRe_g (g := 51) (by decide)] at e2
      try rw [xRe_g (g := 50) (by decide)] at e2
      obtain ⟨h1, h2⟩ := Prod.mk.inj (e2.trans e.symm)
      subst h1
      subst h2
      exact k2 _ _ (RR_ref _ hRR)
    · try rw [xRe_g (g := 51) (by decide)] at e2
      try rw [xRe_g (g := 50) (by decide)] at e2
      exact absurd (show (0 : Nat) = w from congrArg Prod.snd (e2.trans e.symm)).symm hw
  · have e0 := e
    unfold gPerson at e0
    obtain ⟨q1, e1⟩ := gq0 e0 (by decide)
    obtain ⟨q2, e2⟩ := gq0 e1 (by decide)
    obtain ⟨q3, e3⟩ := gq0 e2 (by decide)
    refine m_person hG hv hb hl hq hrd (n := pn) hpn hr01 (fun r2 w2 hw2 e2 => absurd (show w2 = (0 : Nat) from congrArg Prod.snd (e2.trans e.symm)) hw2) (fun r2 e2 => ?_)
    obtain ⟨h1, h2⟩ := Prod.mk.inj (e2.trans e.symm)
    subst h1
    refine k2 _ _ (RR_keep hRR (rx_person (n := pn) (v := v) (b := b) (l := l) (q0 := q) (rd := rd) hR (fun g i j n => by simp only [uPer]; rw [cu_ap, if_neg (by omega), cu_ap, if_neg (by omega), cu_ap, if_neg (by omega), cu_ap, if_neg (by omega), cu_ap, if_neg (by omega), cu_ap, if_neg (by omega), cu_ap, if_neg (by omega), cu_ap, if_neg (by omega), cu_ap, if_neg (by omega), cu_ap, if_neg (by omega), cu_ap, if_neg (by omega), cu_ap, if_neg (by omega)]) hpn (by omega) (by simp [uPer, cu_ap]) (by simp [uPer, cu_ap]) (by simp [uPer, cu_ap]) (by simp [uPer, cu_ap]) (by simp [uPer, cu_ap]) (by simp [uPer, cu_ap]) (by simp [uPer, cu_ap]) (by simp [uPer, cu_ap]) (by simp [uPer, cu_ap]) (by simp [uPer, cu_ap]) (by simp [uPer, cu_ap]) (by simp [uPer, cu_ap]) (by omega)) ?_ (fun g i j n => by unfold wrT inT PG at n; simp only [uPer]; rw [cu_ap, if_neg (by omega), cu_ap, if_neg (by omega), cu_ap, if_neg (by omega), cu_ap, if_neg (by omega), cu_ap, if_neg (by omega), cu_ap, if_neg (by omega), cu_ap, if_neg (by omega), cu_ap, if_neg (by omega), cu_ap, if_neg (by omega), cu_ap, if_neg (by omega), cu_ap, if_neg (by omega), cu_ap, if_neg (by omega)]) (Int.le_refl _) (fun _ _ _ => rfl) (fun _ => rfl))
    exact hRR.2.2.2.2.2
