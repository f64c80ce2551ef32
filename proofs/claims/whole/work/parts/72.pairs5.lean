/-! shelves, acts, the image by both -/
theorem RR_shelf {c c2 : tC} {L L2 : tL} (h : RR c L) (hF : ∀ g i j, ¬ (g = 2 ∨ (g = 51 ∧ 44 ≤ i ∧ i ≤ 47)) → c2 g i j = c g i j) (hS : SH c2 L2) : RR c2 L2 := by
  obtain ⟨a1, a2, a3, a4, a5, a6⟩ := h
  refine ⟨RT_gen (by omega) (fun g i j n => hF g i j (by unfold inT PG at n; omega)) (fun j _ => hF _ _ _ (by omega)) (fun f j n1 n2 _ => hF _ _ _ (by omega)) a1, IM_fr a2 (fun g i j n => hF g i j (by unfold inT PG at n; omega)) (hF _ _ _ (by omega)) (fun j n1 n2 => hF _ _ _ (by omega)) (fun j => hF _ _ _ (by omega)), hS, fun k n1 n2 => ?_, ?_, ?_⟩
  · rw [hF _ _ _ (by omega), hF _ _ _ (by omega)]; exact a4 k n1 n2
  · obtain ⟨t1, t2, t3⟩ := a5
    refine ⟨by rw [hF _ _ _ (by omega), hF _ _ _ (by omega)]; exact t1, by rw [hF _ _ _ (by omega)]; exact t2, fun j n1 n2 => ?_⟩
    rw [hF _ _ _ (by omega)] at n2
    rw [hF _ _ _ (by omega), hF _ _ _ (by omega)]
    exact t3 j n1 n2
  · unfold FLT at *
    rw [hF _ _ _ (by omega), hF _ _ _ (by omega)]; exact a6
/-- one shelf anew -/
theorem SH_one {c c2 : tC} {L L2 : tL} {s : Nat} (h : SH c L) (h1 : ∀ t j, t ≠ s → c2 2 t j = c 2 t j) (h2 : ∀ f t, 44 ≤ f → f ≤ 47 → t ≠ s → c2 51 f t = c 51 f t) (h3 : c2 50 0 2 = c 50 0 2) (h4 : ∀ t i, t ≠ s → t < 8 → i < 60 → L2 3 t i = L 3 t i) (h5 : ∀ t i, t ≠ s → t < 8 → i < 60 → L2 52 48 (60 * t + i) = L 52 48 (60 * t + i)) (hn : (c2 51 44 s = 0 ∧ c2 2 s 0 = -1 ∧ c2 2 s 1 = 0) ∨ (c2 51 44 s = 1 ∧ (0 ≤ c2 51 45 s ∧ c2 51 45 s ≤ 3) ∧ c2 2 s 0 = 100 + c2 51 45 s ∧ c2 2 s 1 = c2 51 46 s ∧ (0 ≤ c2 51 46 s ∧ c2 51 46 s ≤ 60) ∧ ∀ i : Nat, (i : Int) < c2 51 46 s → L2 3 s i = L2 52 48 (60 * s + i)) ∨ (c2 51 44 s = 2 ∧ c2 2 s 0 = c2 51 47 s ∧ (0 ≤ c2 51 47 s ∧ c2 51 47 s < c2 50 0 2) ∧ c2 2 s 1 = 0)) : SH c2 L2 := fun t ht => by
  by_cases e : t = s
  · rw [e]; exact hn
  · have q := h t ht
    rw [h1 t 0 e, h1 t 1 e, h2 44 t (by omega) (by omega) e, h2 45 t (by omega) (by omega) e, h2 46 t (by omega) (by omega) e, h2 47 t (by omega) (by omega) e, h3]
    rcases q with a | a | a
    · exact Or.inl a
    · refine Or.inr (Or.inl ⟨a.1, a.2.1, a.2.2.1, a.2.2.2.1, a.2.2.2.2.1, fun i hi => ?_⟩)
      rw [h4 t i e ht (by omega), h5 t i e ht (by omega)]
      exact a.2.2.2.2.2 i hi
    · exact Or.inr (Or.inr a)
theorem pr_show {z : xZ} {d : Nat} {Q : tQ} {c : tC} {L : tL} {s v : Int}  (hRR : RR c L) (hs : inR s) (hv : inR v)  (k : ∀ r c1 (L1 : tL), (∀ (d2 : Nat) (Q2 : tQ), (∀ c2 L2, RR c2 L2 → Q2 (some (.int (iI r))) c2 L2) → En z (d2 + 20) MX11_show Q2 0 [some (.ref (xad z 50 0)), some (.int (iI s)), some (.int (iI v))] [] c1 L1) → Q (some (.int (iI r))) c1 L1) : En z (d + 20) MX10_show Q 0 [some (.ref (xad z 0 0)), some (.int (iI s)), some (.int (iI v))] [] c L := by
  have hR := hRR.1
  obtain ⟨n, hn⟩ := RR_n hRR
  have g := R0_rng hR
  have hG := RX_MG hR
  have hS := hRR.2.2.1
  refine x_show hR hn hs hv (fun r w hw e => k r _ _ (fun d2 Q2 k2 => ?_)) (fun r e => k r _ _ (fun d2 Q2 k2 => ?_))
  · have hR1 := RX_xRe w hR
    refine m_show (RX_MG hR1) hs hv (fun r2 w2 hw2 e2 => ?_) (fun r2 e2 => ?_)
    · try rw [xRe_g (g := 51) (by decide)] at e2
      try rw [xRe_g (g := 50) (by decide)] at e2
      obtain ⟨h1, h2⟩ := Prod.mk.inj (e2.trans e.symm)
      subst h1
      subst h2
      exact k2 _ _ (RR_ref _ hRR)
    · try rw [xRe_g (g := 51) (by decide)] at e2
      try rw [xRe_g (g := 50) (by decide)] at e2
      exact absurd (show (0 : Nat) = w from congrArg Prod.snd (e2.trans e.symm)).symm hw
  · have e0 := e
    unfold gShow at e0
    obtain ⟨q1, e1⟩ := gq0 e0 (by decide)
    refine m_show hG hs hv (fun r2 w2 hw2 e2 => absurd (show w2 = (0 : Nat) from congrArg Prod.snd (e2.trans e.symm)) hw2) (fun r2 e2 => ?_)
    obtain ⟨h1, h2⟩ := Prod.mk.inj (e2.trans e.symm)
    subst h1
    refine k2 _ _ (RR_shelf hRR (fun g i j n => by rw [cu_ap, if_neg (by omega), cu_ap, if_neg (by omega), cu_ap, if_neg (by omega), cu_ap, if_neg (by omega)]) (SH_one (s := s.toNat) hS (fun t j n => by rw [cu_ap, if_neg (by omega), cu_ap, if_neg (by omega), cu_ap, if_neg (by omega), cu_ap, if_neg (by omega)]) (fun f t n1 n2 n => by rw [cu_ap, if_neg (by omega), cu_ap, if_neg (by omega), cu_ap, if_neg (by omega), cu_ap, if_neg (by omega)]) (by rw [cu_ap, if_neg (by omega), cu_ap, if_neg (by omega), cu_ap, if_neg (by omega), cu_ap, if_neg (by omega)]) (fun _ _ _ _ _ => rfl) (fun _ _ _ _ _ => rfl) ?_))
    by_cases q : v = -1
    · refine Or.inl ⟨?_, ?_, ?_⟩
      · rw [cu_ap, if_neg (by omega), cu_ap, if_pos ⟨rfl, rfl, rfl⟩, if_pos q]
      · rw [cu_ap, if_neg (by omega), cu_ap, if_neg (by omega), cu_ap, if_neg (by omega), cu_ap, if_pos ⟨rfl, rfl, rfl⟩, q]
      · rw [cu_ap, if_neg (by omega), cu_ap, if_neg (by omega), cu_ap, if_pos ⟨rfl, rfl, rfl⟩]
    · refine Or.inr (Or.inr ⟨?_, ?_, ?_, ?_⟩)
      · rw [cu_ap, if_neg (by omega), cu_ap, if_pos ⟨rfl, rfl, rfl⟩, if_neg q]
      · simp [cu_ap]
      · rw [cu_ap, if_pos ⟨rfl, rfl, rfl⟩, cu_ap, if_neg (by omega), cu_ap, if_neg (by omega), cu_ap, if_neg (by omega), cu_ap, if_neg (by omega)]
        omega
      · rw [cu_ap, if_neg (by omega), cu_ap, if_neg (by omega), cu_ap, if_pos ⟨rfl, rfl, rfl⟩]
theorem pr_row {z : xZ} {d : Nat} {Q : tQ} {c : tC} {L : tL} {s o n1 : Int}  (hRR : RR c L) (hs : inR s) (ho : inR o) (hn1 : inR n1)  (k : ∀ r c1 (L1 : tL), (∀ (d2 : Nat) (Q2 : tQ), (∀ c2 L2, RR c2 L2 → Q2 (some (.int (iI r))) c2 L2) → En z (d2 + 20) MX11_row Q2 0 [some (.ref (xad z 50 0)), some (.int (iI s)), some (.int (iI o)), some (.int (iI n1)), none] [] c1 L1) → Q (some (.int (iI r))) c1 L1) : En z (d + 20) MX10_row Q 0 [some (.ref (xad z 0 0)), some (.int (iI s)), some (.int (iI o)), some (.int (iI n1))] [] c L := by
  have hR := hRR.1
  obtain ⟨n, hn⟩ := RR_n hRR
  have hS := hRR.2.2.1
  refine x_row hs ho hn1 (fun r w hw e => k r _ _ (fun d2 Q2 k2 => ?_)) (fun r L2 l1 l2 e => k r _ _ (fun d2 Q2 k2 => ?_))
  · refine m_row hs ho hn1 (fun r2 w2 hw2 e2 => ?_) (fun r2 L2 _ _ e2 => ?_)
    · try rw [xRe_g (g := 51) (by decide)] at e2
      try rw [xRe_g (g := 50) (by decide)] at e2
      obtain ⟨h1, h2⟩ := Prod.mk.inj (e2.trans e.symm)
      subst h1
      subst h2
      exact k2 _ _ (RR_ref _ hRR)
    · try rw [xRe_g (g := 51) (by decide)] at e2
      try rw [xRe_g (g := 50) (by decide)] at e2
      exact absurd (show (0 : Nat) = w from congrArg Prod.snd (e2.trans e.symm)).symm hw
  · have e0 := e
    unfold gRow at e0
    obtain ⟨q1, e1⟩ := gq0 e0 (by decide)
    obtain ⟨q2, e2⟩ := gq0 e1 (by decide)
    obtain ⟨q3, e3⟩ := gq0 e2 (by decide)
    obtain ⟨q4, e4⟩ := gq0 e3 (by decide)
    clear e0 e1 e2 e3 e4
    refine m_row hs ho hn1 (fun r2 w2 hw2 e2 => absurd (show w2 = (0 : Nat) from congrArg Prod.snd (e2.trans e.symm)) hw2) (fun r2 L3 l3 l4 e2 => ?_)
    obtain ⟨h1, h2⟩ := Prod.mk.inj (e2.trans e.symm)
    subst h1
    refine k2 _ _ (RR_shelf hRR (fun g i j n => by rw [cu_ap, if_neg (by omega), cu_ap, if_neg (by omega), cu_ap, if_neg (by omega), cu_ap, if_neg (by omega), cu_ap, if_neg (by omega)]) (SH_one (s := s.toNat) hS (fun t j n => by rw [cu_ap, if_neg (by omega), cu_ap, if_neg (by omega), cu_ap, if_neg (by omega), cu_ap, if_neg (by omega), cu_ap, if_neg (by omega)]) (fun f t n1 n2 n => by rw [cu_ap, if_neg (by omega), cu_ap, if_neg (by omega), cu_ap, if_neg (by omega), cu_ap, if_neg (by omega), cu_ap, if_neg (by omega)]) (by rw [cu_ap, if_neg (by omega), cu_ap, if_neg (by omega), cu_ap, if_neg (by omega), cu_ap, if_neg (by omega), cu_ap, if_neg (by omega)]) (fun t i n1 n2 n3 => ?_) (fun t i n1 n2 n3 => ?_) (Or.inr (Or.inl ⟨?_, ?_, ?_, ?_, ?_, fun i hi => ?_⟩))))
    · rw [l4 3 t i (by omega), l2 3 t i (by omega)]
    · rw [l4 52 48 _ (by omega), l2 52 48 _ (by omega)]
    · simp [cu_ap]
    · simp [cu_ap]; omega
    · simp [cu_ap]
    · simp [cu_ap]
    · simp [cu_ap]; omega
    · have hi2 : (i : Int) < n1 := by
        simpa [cu_ap] using hi
      rw [l4 3 s.toNat i (by omega), l1 i hi2, l3 i (by omega)]
theorem pr_set {z : xZ} {d : Nat} {Q : tQ} {c : tC} {L : tL} {s i : Int} {x : Int64} (hRR : RR c L) (hs : inR s) (hi : inR i)  (k : ∀ r c1 (L1 : tL), (∀ (d2 : Nat) (Q2 : tQ), (∀ c2 L2, RR c2 L2 → Q2 (some (.int (iI r))) c2 L2) → En z (d2 + 20) MX11_set Q2 0 [some (.ref (xad z 50 0)), some (.int (iI s)), some (.int (iI i)), some (.long x), none] [] c1 L1) → Q (some (.int (iI r))) c1 L1) : En z (d + 20) MX10_set Q 0 [some (.ref (xad z 0 0)), some (.int (iI s)), some (.int (iI i)), some (.long x), none, none] [] c L := by
  have hR := hRR.1
  obtain ⟨n, hn⟩ := RR_n hRR
  have hG := RX_MG hR
  have hS := hRR.2.2.1
  refine x_set hG hS hs hi (fun r w hw e => k r _ _ (fun d2 Q2 k2 => ?_)) (fun r e => k r _ _ (fun d2 Q2 k2 => ?_))
  · have hR1 := RX_xRe w hR
    refine m_set (RX_MG hR1) (SH_i (SH_cl hS (fun _ _ _ _ => xRe_ne (by decide)) (xRe_g (by decide)) (xRe_g (by decide)))) hs hi (fun r2 w2 hw2 e2 => ?_) (fun r2 e2 => ?_)
    · try rw [xRe_g (g := 51) (by decide)] at e2
      try rw [xRe_g (g := 50) (by decide)] at e2
      obtain ⟨h1, h2⟩ := Prod.mk.inj (e2.trans e.symm)
      subst h1
      subst h2
      exact k2 _ _ (RR_ref _ hRR)
    · try rw [xRe_g (g := 51) (by decide)] at e2
      try rw [xRe_g (g := 50) (by decide)] at e2
      exact absurd (show (0 : Nat) = w from congrArg Prod.snd (e2.trans e.symm)).symm hw
  · have e0 := e
    unfold gSet at e0
    have hb : fBar (c 51) s = 0 := by
      by_cases hb : fBar (c 51) s = 0
      · exact hb
      · rw [if_pos hb] at e0
        exact absurd (show (0 : Nat) = (-(fBar (c 51) s)).toNat from congrArg Prod.snd e0).symm (fBar_n hb)
    rw [if_neg (fun h => h hb)] at e0
    obtain ⟨q2, e2⟩ := gq0 e0 (by decide)
    have hz := fBar_0 hb
    clear e0 e2
    refine m_set hG (SH_i hS) hs hi (fun r2 w2 hw2 e2 => absurd (show w2 = (0 : Nat) from congrArg Prod.snd (e2.trans e.symm)) hw2) (fun r2 e2 => ?_)
    obtain ⟨h1, h2⟩ := Prod.mk.inj (e2.trans e.symm)
    subst h1
    have q := hS s.toNat (by omega)
    refine k2 _ _ ⟨hRR.1, hRR.2.1, SH_one (s := s.toNat) hS (fun _ _ _ => rfl) (fun _ _ _ _ _ => rfl) rfl (fun t b n1 n2 n3 => ?_) (fun t b n1 n2 n3 => ?_) ?_, hRR.2.2.2⟩
    · rw [Lu, if_neg (by omega), Lu, if_neg (by omega)]
    · rw [Lu, if_neg (by omega), Lu, if_neg (by omega)]
    · rcases q with a | a | a
      · omega
      · refine Or.inr (Or.inl ⟨a.1, a.2.1, a.2.2.1, a.2.2.2.1, a.2.2.2.2.1, fun b hb2 => ?_⟩)
        by_cases e9 : b = i.toNat
        · rw [e9, Lu, if_neg (by omega), Lu, if_pos ⟨rfl, rfl, rfl⟩, Lu, if_pos ⟨rfl, rfl, rfl⟩]
        · rw [Lu, if_neg (by omega), Lu, if_neg (by omega), Lu, if_neg (by omega), Lu, if_neg (by omega)]
          exact a.2.2.2.2.2 b hb2
      · omega
theorem pr_copy {z : xZ} {d : Nat} {Q : tQ} {c : tC} {L : tL} {p q i j n1 : Int}  (hRR : RR c L) (hp : inR p) (hq : inR q) (hi : inR i) (hj : inR j) (hn1 : inR n1)  (k : ∀ r c1 (L1 : tL), (∀ (d2 : Nat) (Q2 : tQ), (∀ c2 L2, RR c2 L2 → Q2 (some (.int (iI r))) c2 L2) → En z (d2 + 20) MX11_copy Q2 0 [some (.ref (xad z 50 0)), some (.int (iI p)), some (.int (iI q)), some (.int (iI i)), some (.int (iI j)), some (.int (iI n1)), none] [] c1 L1) → Q (some (.int (iI r))) c1 L1) : En z (d + 20) MX10_copy Q 0 [some (.ref (xad z 0 0)), some (.int (iI p)), some (.int (iI q)), some (.int (iI i)), some (.int (iI j)), some (.int (iI n1)), none, none] [] c L := by
  have hR := hRR.1
  obtain ⟨n, hn⟩ := RR_n hRR
  have hG := RX_MG hR
  have hS := hRR.2.2.1
  refine x_copy hG hS hp hq hi hj hn1 (fun r w hw e => k r _ _ (fun d2 Q2 k2 => ?_)) (fun r e => k r _ _ (fun d2 Q2 k2 => ?_))
  · have hR1 := RX_xRe w hR
    refine m_copy (RX_MG hR1) (SH_i (SH_cl hS (fun _ _ _ _ => xRe_ne (by decide)) (xRe_g (by decide)) (xRe_g (by decide)))) hp hq hi hj hn1 (fun r2 w2 hw2 e2 => ?_) (fun r2 L2 _ _ e2 => ?_)
    · try rw [xRe_g (g := 51) (by decide)] at e2
      try rw [xRe_g (g := 50) (by decide)] at e2
      obtain ⟨h1, h2⟩ := Prod.mk.inj (e2.trans e.symm)
      subst h1
      subst h2
      exact k2 _ _ (RR_ref _ hRR)
    · try rw [xRe_g (g := 51) (by decide)] at e2
      try rw [xRe_g (g := 50) (by decide)] at e2
      exact absurd (show (0 : Nat) = w from congrArg Prod.snd (e2.trans e.symm)).symm hw
  · have e0 := e
    unfold gCopy at e0
    obtain ⟨q1, e1⟩ := gq0 e0 (by decide)
    obtain ⟨q2, e2⟩ := gq0 e1 (by decide)
    obtain ⟨q3, e3⟩ := gq0 e2 (by decide)
    obtain ⟨q4, e4⟩ := gq0 e3 (by decide)
    obtain ⟨q5, e5⟩ := gq0 e4 (by decide)
    clear e0 e1 e2 e3 e4 e5
    refine m_copy hG (SH_i hS) hp hq hi hj hn1 (fun r2 w2 hw2 e2 => absurd (show w2 = (0 : Nat) from congrArg Prod.snd (e2.trans e.symm)) hw2) (fun r2 L2 l1 l2 e2 => ?_)
    obtain ⟨h1, h2⟩ := Prod.mk.inj (e2.trans e.symm)
    subst h1
    have ap := hS p.toNat (by omega)
    have aq := hS q.toNat (by omega)
    have hp1 : c 51 44 p.toNat = 1 := by omega
    have hq1 : c 51 44 q.toNat = 1 := by omega
    refine k2 _ _ ⟨hRR.1, hRR.2.1, SH_one (s := q.toNat) hS (fun _ _ _ => rfl) (fun _ _ _ _ _ => rfl) rfl (fun t b n1 n2 n3 => ?_) (fun t b n1 n2 n3 => ?_) ?_, hRR.2.2.2⟩
    · rw [l2 3 t b (by omega) (by omega), Lset, if_neg (by omega)]
    · rcases aq with a | a | a
      · omega
      · rw [l2 52 48 _ (by omega) (by omega), Lset, if_neg (by omega)]
      · omega
    · rcases aq with a | a | a
      · omega
      · refine Or.inr (Or.inl ⟨a.1, a.2.1, a.2.2.1, a.2.2.2.1, a.2.2.2.2.1, fun b hb2 => ?_⟩)
        rw [l2 3 q.toNat b (by omega) (by omega), Lset, if_pos ⟨rfl, rfl⟩]
        by_cases e9 : j.toNat ≤ b ∧ b < j.toNat + n1.toNat
        · rw [pk_cpy_in e9.1 e9.2]
          have := l1 (b - j.toNat) (by omega)
          rw [show 60 * q.toNat + j.toNat + (b - j.toNat) = 60 * q.toNat + b by omega, Lset, if_neg (by omega)] at this
          rw [this]
          rcases ap with a2 | a2 | a2
          · omega
          · have h9 := a2.2.2.2.2.2 (i.toNat + (b - j.toNat)) (by omega)
            rw [h9, show 60 * p.toNat + (i.toNat + (b - j.toNat)) = 60 * p.toNat + i.toNat + (b - j.toNat) by omega]
          · omega
        · rw [pk_cpy_out (by omega), l2 52 48 _ (by omega) (by omega), Lset, if_neg (by omega)]
          exact a.2.2.2.2.2 b hb2
      · omega
theorem pr_act {z : xZ} {d : Nat} {Q : tQ} {c : tC} {L : tL} {s a x : Int}  (hRR : RR c L) (hs : inR s) (ha : inR a) (hx : inR x)  (k : ∀ r c1 (L1 : tL), (∀ (d2 : Nat) (Q2 : tQ), (∀ c2 L2, RR c2 L2 → Q2 (some (.int (iI r))) c2 L2) → En z (d2 + 20) MX11_act Q2 0 [some (.ref (xad z 50 0)), some (.int (iI s)), some (.int (iI a)), some (.int (iI x))] [] c1 L1) → Q (some (.int (iI r))) c1 L1) : En z (d + 20) MX10_act Q 0 [some (.ref (xad z 0 0)), some (.int (iI s)), some (.int (iI a)), some (.int (iI x))] [] c L := by
  have hR := hRR.1
  obtain ⟨n, hn⟩ := RR_n hRR
  refine x_act hR hs ha hx (fun c1 f1 t1 t2 => k _ _ _ (fun d2 Q2 k2 => ?_))
  have u : ∀ g i j, g ≠ 33 → g ≠ 34 → c1 g i j = c g i j := fun g i j n1 n2 => by rw [f1 g n1 n2]
  have hR1 : RX c1 := RT_gen (by omega) (fun g i j n => u g i j (by unfold inT PG at n; omega) (by unfold inT PG at n; omega)) (fun j _ => u _ _ _ (by omega) (by omega)) (fun f j _ _ _ => u _ _ _ (by omega) (by omega)) hR
  refine m_act hR1 hs ha hx (fun c2 m1 m2 m3 m4 m5 => ?_)
  rw [f1 50 (by omega) (by omega), f1 51 (by omega) (by omega)] at m4 m5 ⊢
  have hl := gActL_len (c 50 0) (c 51) s a
  obtain ⟨a1, a2, a3, a4, a5, a6⟩ := hRR
  have hF : ∀ g i j, g ≠ 33 → g ≠ 34 → ¬ (g = 50 ∧ (j = 66 ∨ i ≠ 0)) → ¬ (g = 51 ∧ i = 65) → c2 g i j = c g i j := fun g i j n1 n2 n3 n4 => by
    by_cases e50 : g = 50
    · subst e50
      have hi0 : i = 0 := by omega
      subst hi0
      rw [m2 j (by omega)]
      exact u _ _ _ n1 n2
    · by_cases e51 : g = 51
      · subst e51
        rw [m3 i (by omega)]
        exact u _ _ _ n1 n2
      · rw [m1 g e50 e51]
        exact u _ _ _ n1 n2
  refine k2 _ _ ⟨?_, IM_fr a2 (fun g i j n => ?_) (hF _ _ _ (by omega) (by omega) (by omega) (by omega)) (fun j n1 n2 => hF _ _ _ (by omega) (by omega) (by omega) (by omega)) (fun j => hF _ _ _ (by omega) (by omega) (by omega) (by omega)), SH_fr a3 (fun s j n1 n2 => hF _ _ _ (by omega) (by omega) (by omega) (by omega)) (fun f s n1 n2 n3 => hF _ _ _ (by omega) (by omega) (by omega) (by omega)) (by rw [hF _ _ _ (by omega) (by omega) (by omega) (by omega)]; exact Int.le_refl _) (fun _ _ _ => rfl) (fun _ => rfl), fun k n1 n2 => ?_, ⟨?_, ?_, fun j n1 n2 => ?_⟩, ?_⟩
  · refine RT_gen (by omega) (fun g i j n => ?_) (fun j _ => hF _ _ _ (by omega) (by omega) (by omega) (by omega)) (fun f j n1 n2 _ => hF _ _ _ (by omega) (by omega) (by omega) (by omega)) a1
    unfold inT PG at n
    exact hF _ _ _ (by omega) (by omega) (by omega) (by omega)
  · unfold inT PG at n
    exact hF _ _ _ (by omega) (by omega) (by omega) (by omega)
  · rw [hF _ _ _ (by omega) (by omega) (by omega) (by omega), hF _ _ _ (by omega) (by omega) (by omega) (by omega)]; exact a4 k n1 n2
  · rw [m1 33 (by omega) (by omega), t1, m4]
  · rw [m4]; omega
  · rw [m4] at n2
    rw [m1 34 (by omega) (by omega), t2 j (by omega), m5 j (by omega)]
  · unfold FLT at *
    rw [hF _ _ _ (by omega) (by omega) (by omega) (by omega), hF _ _ _ (by omega) (by omega) (by omega) (by omega)]; exact a6
