theorem MG_of {c c2 : tC} (h4 : ∀ j, j < 8 ∨ j = 9 → c2 50 0 j = c 50 0 j) (hG : MG c) : MG c2 := by
  unfold MG RT_rng at *
  rw [h4 0 (by omega), h4 1 (by omega), h4 2 (by omega), h4 3 (by omega), h4 4 (by omega), h4 5 (by omega), h4 6 (by omega), h4 7 (by omega), h4 9 (by omega)]
  exact hG
theorem pr_source {z : xZ} {d : Nat} {Q : tQ} {c : tC} {L : tL} {kd wh t st : Int}  (hRR : RR c L) (hkd : inR kd) (hwh : inR wh) (ht : inR t) (hst : inR st)  (k : ∀ r c1 (L1 : tL), (∀ (d2 : Nat) (Q2 : tQ), (∀ c2 L2, RR c2 L2 → Q2 (some (.int (iI r))) c2 L2) → En z (d2 + 20) MX11_source Q2 0 [some (.ref (xad z 50 0)), some (.int (iI kd)), some (.int (iI wh)), some (.int (iI t)), some (.int (iI st))] [] c1 L1) → Q (some (.int (iI r))) c1 L1) : En z (d + 20) MX10_source Q 0 [some (.ref (xad z 0 0)), some (.int (iI kd)), some (.int (iI wh)), some (.int (iI t)), some (.int (iI st))] [] c L := by
  have hR := hRR.1
  obtain ⟨n, hn⟩ := RR_n hRR
  have g := R0_rng hR
  have hG := RX_MG hR
  refine x_source hR hn hkd hwh ht hst (fun r w hw e => k r _ _ (fun d2 Q2 k2 => ?_)) (fun r cx f1 f2 f3 e => k r _ _ (fun d2 Q2 k2 => ?_))
  · have hR1 := RX_xRe w hR
    refine m_source (n := n) (RX_MG hR1) hkd hwh ht hst ((xRe_ne (by decide)).trans hn) (fun r2 w2 hw2 e2 => ?_) (fun r2 e2 => ?_)
    · try rw [xRe_g (g := 51) (by decide)] at e2
      try rw [xRe_g (g := 50) (by decide)] at e2
      obtain ⟨h1, h2⟩ := Prod.mk.inj (e2.trans e.symm)
      subst h1
      subst h2
      exact k2 _ _ (RR_ref _ hRR)
    · try rw [xRe_g (g := 51) (by decide)] at e2
      try rw [xRe_g (g := 50) (by decide)] at e2
      exact absurd (show (0 : Nat) = w from congrArg Prod.snd (e2.trans e.symm)).symm hw
  · have e0 := e
    unfold gSource at e0
    obtain ⟨q1, e1⟩ := gq0 e0 (by decide)
    obtain ⟨q2, e2⟩ := gq0 e1 (by decide)
    obtain ⟨q3, e3⟩ := gq0 e2 (by decide)
    clear e1 e2 e3 e0
    have fx : ∀ g a b, ¬ (g = 13 ∧ a ≤ n) → cx g a b = c g a b := fun g a b h => (f1 g a b (by omega)).trans (uSrc_ne (by omega))
    have u50 : cu cx 8 0 2 ((n : Int) + 1) 50 = c 50 := by
      funext a b
      rw [cu_ap, if_neg (by omega)]
      exact fx 50 a b (by omega)
    have u51 : cu cx 8 0 2 ((n : Int) + 1) 51 = c 51 := by
      funext a b
      rw [cu_ap, if_neg (by omega)]
      exact fx 51 a b (by omega)
    have hG1 : MG (cu cx 8 0 2 ((n : Int) + 1)) := MG_of (fun j _ => by rw [u50]) hG
    refine m_source (n := n) hG1 hkd hwh ht hst (by rw [u50]; exact hn) (fun r2 w2 hw2 e2 => ?_) (fun r2 e2 => ?_)
    · rw [u50] at e2
      exact absurd (show w2 = (0 : Nat) from congrArg Prod.snd (e2.trans e.symm)) hw2
    · rw [u50] at e2
      obtain ⟨h1, h2⟩ := Prod.mk.inj (e2.trans e.symm)
      subst h1
      have hF : ∀ g i j, ¬ ((g = 13 ∧ i ≤ n) ∨ (g = 8 ∧ i = 0 ∧ j = 2) ∨ (g = 50 ∧ i = 0 ∧ j = 2) ∨ (g = 51 ∧ (19 ≤ i ∧ i ≤ 26) ∧ j = n)) → (cu (cu (cu (cu (cu (cu (cu (cu (cu (cu cx 8 0 2 ((n : Int) + 1)) 51 19 n kd) 51 20 n wh) 51 21 n t) 51 22 n st) 51 23 n 0) 51 24 n 23) 51 25 n 0) 51 26 n 0) 50 0 2 ((n : Int) + 1)) g i j = c g i j := fun g i j h => by
        rw [cu_ap, if_neg (by omega), cu_ap, if_neg (by omega), cu_ap, if_neg (by omega), cu_ap, if_neg (by omega), cu_ap, if_neg (by omega), cu_ap, if_neg (by omega), cu_ap, if_neg (by omega), cu_ap, if_neg (by omega), cu_ap, if_neg (by omega), cu_ap, if_neg (by omega)]
        exact fx g i j (by omega)
      have h13 : ∀ i j, (cu (cu (cu (cu (cu (cu (cu (cu (cu (cu cx 8 0 2 ((n : Int) + 1)) 51 19 n kd) 51 20 n wh) 51 21 n t) 51 22 n st) 51 23 n 0) 51 24 n 23) 51 25 n 0) 51 26 n 0) 50 0 2 ((n : Int) + 1)) 13 i j = cx 13 i j := fun i j => by
        rw [cu_ap, if_neg (by omega), cu_ap, if_neg (by omega), cu_ap, if_neg (by omega), cu_ap, if_neg (by omega), cu_ap, if_neg (by omega), cu_ap, if_neg (by omega), cu_ap, if_neg (by omega), cu_ap, if_neg (by omega), cu_ap, if_neg (by omega), cu_ap, if_neg (by omega)]
      have f10 : ∀ j, j < 7 → (cu (cu (cu (cu (cu (cu (cu (cu (cu (cu cx 8 0 2 ((n : Int) + 1)) 51 19 n kd) 51 20 n wh) 51 21 n t) 51 22 n st) 51 23 n 0) 51 24 n 23) 51 25 n 0) 51 26 n 0) 50 0 2 ((n : Int) + 1)) 13 n j = uSrc c n kd wh t st 13 n j := fun j hj => (h13 n j).trans (f1 13 n j (by omega))
      have hX := rx_source (n := n) (kd := kd) (wh := wh) (t := t) (st := st) hR hF hn (by omega) (by simp [cu_ap]) (by simp [cu_ap]) (fun i j h1 h2 => ((h13 i j).trans (f1 13 i j (by omega))).trans (uSrc_ne (by omega))) (fun i hi => (h13 i 7).trans (f3 i hi)) ((h13 n 7).trans f2) ((f10 0 (by omega)).trans (by simp [uSrc, cu_ap])) ((f10 1 (by omega)).trans (by simp [uSrc, cu_ap])) ((f10 2 (by omega)).trans (by simp [uSrc, cu_ap])) ((f10 3 (by omega)).trans (by simp [uSrc, cu_ap])) ((f10 4 (by omega)).trans (by simp [uSrc, cu_ap])) ((f10 5 (by omega)).trans (by simp [uSrc, cu_ap])) ((f10 6 (by omega)).trans (by simp [uSrc, cu_ap])) (by simp [cu_ap]) (by simp [cu_ap]) (by simp [cu_ap]) (by simp [cu_ap]) (by simp [cu_ap]) (by simp [cu_ap]) (by simp [cu_ap]) (by simp [cu_ap]) (by omega)
      refine k2 _ _ (RR_keep hRR hX ?_ (fun g i j h => hF g i j (by unfold wrT inT PG at h; omega)) (by rw [cu_ap, if_pos ⟨rfl, rfl, rfl⟩]; omega) (fun _ _ _ => rfl) (fun _ => rfl))
      unfold FLT
      rw [hF 30 0 4 (by omega), hF 50 0 8 (by omega)]
      exact hRR.2.2.2.2.2
theorem RR_prs {c c1 c2 : tC} {L : tL} {n k : Nat} {p a : Int} {l : List (Int × Int)} (hRR : RR c L) (hn : c 50 0 3 = (n : Int)) (hk : c 50 0 9 = (k : Int)) (hD : DI c c1 k (c 50 0 3) p a l) (hM : DM c1 c2 n (k : Int) p a l) (hl : n + l.length ≤ 60) (hp : 0 ≤ p ∧ p < c 50 0 1) (ha : 0 ≤ a ∧ a ≤ 63) (hv : ∀ j, j < l.length → (0 ≤ (l.getD j (0, 0)).1 ∧ (l.getD j (0, 0)).1 ≤ 239) ∧ ((l.getD j (0, 0)).2 = 0 ∨ (l.getD j (0, 0)).2 = 1)) : RR c2 L := by
  obtain ⟨d1, d2, d3, d4⟩ := hD
  obtain ⟨m1, m2, m3, m4⟩ := hM
  have hF : ∀ g i j, ¬ (((17 ≤ g ∧ g ≤ 20) ∧ i = 0 ∧ k ≤ j) ∨ (g = 16 ∧ i = 0 ∧ j ≤ 1) ∨ (g = 51 ∧ (27 ≤ i ∧ i ≤ 31) ∧ n ≤ j) ∨ (g = 50 ∧ i = 0 ∧ (j = 3 ∨ j = 9))) → c2 g i j = c g i j := fun g i j h => (m1 g i j (by omega) (by omega)).trans (d1 g i j (by omega) (by omega))
  have hX := rx_press (n := n) (k := k) (p := p) (a := a) (l := l) hRR.1 hF hn hk hl (by rw [m1 16 0 0 (by omega) (by omega), d2]; omega) (by rw [m1 16 0 1 (by omega) (by omega), d3, hn]) (by rw [m2]; omega) m3 (fun j hj => by rw [m1 17 0 _ (by omega) (by omega), m1 18 0 _ (by omega) (by omega), m1 19 0 _ (by omega) (by omega), m1 20 0 _ (by omega) (by omega)]; exact d4 j hj) m4 hp ha hv
  refine RR_keep hRR hX ?_ (fun g i j h => hF g i j (by unfold wrT inT PG at h; omega)) (by rw [hF 50 0 2 (by omega)]; exact Int.le_refl _) (fun _ _ _ => rfl) (fun _ => rfl)
  unfold FLT
  rw [hF 30 0 4 (by omega), hF 50 0 8 (by omega)]
  exact hRR.2.2.2.2.2
theorem pr_press {z : xZ} {d : Nat} {Q : tQ} {c : tC} {L : tL} {p v : Int}  (hRR : RR c L) (hp : inR p) (hv : inR v) (hv01 : v = 0 ∨ v = 1) (k : ∀ r c1 (L1 : tL), (∀ (d2 : Nat) (Q2 : tQ), (∀ c2 L2, RR c2 L2 → Q2 (some (.int (iI r))) c2 L2) → En z (d2 + 20) MX11_press Q2 0 [some (.ref (xad z 50 0)), some (.int (iI p)), some (.int (iI v))] [] c1 L1) → Q (some (.int (iI r))) c1 L1) : En z (d + 20) MX10_press Q 0 [some (.ref (xad z 0 0)), some (.int (iI p)), some (.int (iI v))] [] c L := by
  have hR := hRR.1
  obtain ⟨n, hn⟩ := RR_n hRR
  have g := R0_rng hR
  have hc := R0_scal hR
  have hG := RX_MG hR
  obtain ⟨n9, h9⟩ := Int.eq_ofNat_of_zero_le (show 0 ≤ c 50 0 9 by omega)
  obtain ⟨n3, h3⟩ := Int.eq_ofNat_of_zero_le (show 0 ≤ c 50 0 3 by omega)
  refine x_press hR hn hp hv hv01 h9 (fun r w hw e => k r _ _ (fun d2 Q2 k2 => ?_)) (fun r e => k r _ _ (fun d2 Q2 k2 => ?_))
  · have hR1 := RX_xRe w hR
    refine m_press (n := n3) (m := (n9 : Int)) (RX_MG hR1) hp hv ((xRe_ne (by decide)).trans h3) ((xRe_ne (by decide)).trans h9) hv01 (fun r2 w2 hw2 e2 => ?_) (fun r2 e2 => ?_)
    · try rw [xRe_g (g := 51) (by decide)] at e2
      try rw [xRe_g (g := 50) (by decide)] at e2
      obtain ⟨h1, h2⟩ := Prod.mk.inj (e2.trans e.symm)
      subst h1
      subst h2
      exact k2 _ _ (RR_ref _ hRR)
    · try rw [xRe_g (g := 51) (by decide)] at e2
      try rw [xRe_g (g := 50) (by decide)] at e2
      exact absurd (show (0 : Nat) = w from congrArg Prod.snd (e2.trans e.symm)).symm hw
  · have e0 := e
    unfold gPress at e0
    obtain ⟨q1, e1⟩ := gq0 e0 (by decide)
    obtain ⟨q2, e2⟩ := gq0 e1 (by decide)
    clear e0 e1 e2
    refine m_press (n := n3) (m := (n9 : Int)) hG hp hv h3 h9 hv01 (fun r2 w2 hw2 e2 => absurd (show w2 = (0 : Nat) from congrArg Prod.snd (e2.trans e.symm)) hw2) (fun r2 e2 => ?_)
    obtain ⟨h1, h2⟩ := Prod.mk.inj (e2.trans e.symm)
    subst h1
    have hD : DI c (uDia (cu c 16 0 1 (c 50 0 3 + 1)) n9 p (c 50 0 0) (c 51 14 p.toNat) v) n9 (c 50 0 3) p (c 51 14 p.toNat) [(c 50 0 0, v)] := by
      have := DI_app (h := c 50 0 0) (v := v) (DI_nil (c := c) (n := n9) (q := c 50 0 3) (p := p) (a := c 51 14 p.toNat) (by omega) (by omega))
      simpa using this
    have hM : DM (uDia (cu c 16 0 1 (c 50 0 3 + 1)) n9 p (c 50 0 0) (c 51 14 p.toNat) v) (uPrM (uDia (cu c 16 0 1 (c 50 0 3 + 1)) n9 p (c 50 0 0) (c 51 14 p.toNat) v) n3 (n9 : Int) p (c 50 0 0) (c 51 14 p.toNat) v) n3 (n9 : Int) p (c 51 14 p.toNat) [(c 50 0 0, v)] := by
      have := DM_app (h := c 50 0 0) (v := v) (DM_nil (c := uDia (cu c 16 0 1 (c 50 0 3 + 1)) n9 p (c 50 0 0) (c 51 14 p.toNat) v) (n := n3) (m := (n9 : Int)) (p := p) (a := c 51 14 p.toNat) h3 h9)
      simpa using this
    have hpp := R0_per hR p.toNat (by omega)
    refine k2 _ _ (RR_prs hRR h3 h9 hD hM (by show n3 + 1 ≤ 60; omega) (by omega) hpp.2.1 (fun j hj => ?_))
    have hj0 : j = 0 := by
      have : j < 1 := hj
      omega
    subst hj0
    exact ⟨g.1, hv01⟩
theorem gPressed_eq {c1 c : tC} {L : tL} {p s i n : Int} (h50 : c1 50 = c 50) (h51 : c1 51 = c 51) : gPressed c1 L p s i n = gPressed c L p s i n ∧ gPrs c1 L s i n = gPrs c L s i n := by
  unfold gPressed gPrs
  rw [h50, h51]
  exact ⟨rfl, rfl⟩
theorem SH_cl {c c1 : tC} {L : tL} (h : SH c L) (h2 : ∀ s j, s < 8 → j < 2 → c1 2 s j = c 2 s j) (h50 : c1 50 = c 50) (h51 : c1 51 = c 51) : SH c1 L := SH_fr h h2 (fun _ _ _ _ _ => by rw [h51]) (by rw [h50]; exact Int.le_refl _) (fun _ _ _ => rfl) (fun _ => rfl)
theorem pr_pressed {z : xZ} {d : Nat} {Q : tQ} {c : tC} {L : tL} {p s i n1 : Int}  (hRR : RR c L) (hp : inR p) (hs : inR s) (hi : inR i) (hn1 : inR n1)  (k : ∀ r c1 (L1 : tL), (∀ (d2 : Nat) (Q2 : tQ), (∀ c2 L2, RR c2 L2 → Q2 (some (.int (iI r))) c2 L2) → En z (d2 + 20) MX11_pressed_ Q2 0 [some (.ref (xad z 50 0)), some (.int (iI p)), some (.int (iI s)), some (.int (iI i)), some (.int (iI n1)), none, none, none] [] c1 L1) → Q (some (.int (iI r))) c1 L1) : En z (d + 20) MX10_pressed Q 0 [some (.ref (xad z 0 0)), some (.int (iI p)), some (.int (iI s)), some (.int (iI i)), some (.int (iI n1)), none, none] [] c L := by
  have hR := hRR.1
  obtain ⟨n, hn⟩ := RR_n hRR
  have g := R0_rng hR
  have hG := RX_MG hR
  have hS := hRR.2.2.1
  obtain ⟨n9, h9⟩ := Int.eq_ofNat_of_zero_le (show 0 ≤ c 50 0 9 by omega)
  obtain ⟨n3, h3⟩ := Int.eq_ofNat_of_zero_le (show 0 ≤ c 50 0 3 by omega)
  refine x_pressed hR hS h9 hp hs hi hn1 (fun r w hw e => k r _ _ (fun d2 Q2 k2 => ?_)) (fun r c1 hD e => k r _ _ (fun d2 Q2 k2 => ?_))
  · have hR1 := RX_xRe w hR
    have eg := gPressed_eq (c1 := xRe c w) (c := c) (L := L) (p := p) (s := s) (i := i) (n := n1) (xRe_g (by decide)) (xRe_g (by decide))
    refine m_prs (n3 := n3) (m9 := (n9 : Int)) (RX_MG hR1) (SH_cl hS (fun _ _ _ _ => xRe_ne (by decide)) (xRe_g (by decide)) (xRe_g (by decide))) ((xRe_ne (by decide)).trans h3) ((xRe_ne (by decide)).trans h9) hp hs hi hn1 (fun r2 w2 hw2 e2 => ?_) (fun r2 c2 _ e2 => ?_)
    · rw [eg.1] at e2
      obtain ⟨h1, h2⟩ := Prod.mk.inj (e2.trans e.symm)
      subst h1
      subst h2
      exact k2 _ _ (RR_ref _ hRR)
    · rw [eg.1] at e2
      exact absurd (show (0 : Nat) = w from congrArg Prod.snd (e2.trans e.symm)).symm hw
  · have u50 : c1 50 = c 50 := funext fun a => funext fun b => hD.1 50 a b (by omega) (by omega)
    have u51 : c1 51 = c 51 := funext fun a => funext fun b => hD.1 51 a b (by omega) (by omega)
    have eg := gPressed_eq (c1 := c1) (c := c) (L := L) (p := p) (s := s) (i := i) (n := n1) u50 u51
    refine m_prs (n3 := n3) (m9 := (n9 : Int)) (MG_of (fun j _ => by rw [u50]) hG) (SH_cl hS (fun s j _ _ => hD.1 2 s j (by omega) (by omega)) u50 u51) (by rw [u50]; exact h3) (by rw [u50]; exact h9) hp hs hi hn1 (fun r2 w2 hw2 e2 => ?_) (fun r2 c2 hM e2 => ?_)
    · rw [eg.1] at e2
      exact absurd (show w2 = (0 : Nat) from congrArg Prod.snd (e2.trans e.symm)) hw2
    · rw [eg.1] at e2
      rw [eg.2, u51] at hM
      obtain ⟨h1, h2⟩ := Prod.mk.inj (e2.trans e.symm)
      subst h1
      have e0 := e
      unfold gPressed at e0
      obtain ⟨q1, e1⟩ := gq0 e0 (by decide)
      by_cases hb : fBar (c 51) s = 0
      · rw [if_neg (fun h => h hb)] at e1
        obtain ⟨q3, e3⟩ := gq0 e1 (by decide)
        obtain ⟨q4, e4⟩ := gq0 e3 (by decide)
        obtain ⟨q5, e5⟩ := gq0 e4 (by decide)
        obtain ⟨q6, e6⟩ := gq0 e5 (by decide)
        have hpp := R0_per hR p.toNat (by omega)
        refine k2 _ _ (RR_prs hRR h3 h9 hD hM (by omega) (by omega) hpp.2.1 (fun j hj => ?_))
        have hm : (gPrs c L s i n1).getD j (0, 0) ∈ gPrs c L s i n1 := by
          rw [List.getD_eq_getElem?_getD, List.getElem?_eq_getElem hj]
          exact List.getElem_mem hj
        have := fPl_mem hm
        exact ⟨by omega, this.2⟩
      · rw [if_pos hb] at e1
        exact absurd (show (0 : Nat) = (-(fBar (c 51) s)).toNat from congrArg Prod.snd e1).symm (fBar_n hb)
theorem pr_match {z : xZ} {d : Nat} {Q : tQ} {c : tC} {L : tL} {p t : Int}  (hRR : RR c L) (hp : inR p) (ht : inR t)  (k : ∀ r c1 (L1 : tL), (∀ (d2 : Nat) (Q2 : tQ), (∀ c2 L2, RR c2 L2 → Q2 (some (.int (iI r))) c2 L2) → En z (d2 + 20) MX11_match Q2 0 [some (.ref (xad z 50 0)), some (.int (iI p)), some (.int (iI t))] [] c1 L1) → Q (some (.int (iI r))) c1 L1) : En z (d + 20) MX10_match Q 0 [some (.ref (xad z 0 0)), some (.int (iI p)), some (.int (iI t))] [] c L := by
  have hR := hRR.1
  obtain ⟨n, hn⟩ := RR_n hRR
  obtain ⟨n9, h9⟩ := Int.eq_ofNat_of_zero_le (show 0 ≤ c 50 0 9 by have := R0_rng hR; omega)
  obtain ⟨n4, h4⟩ := Int.eq_ofNat_of_zero_le (show 0 ≤ c 50 0 4 by have := R0_rng hR; omega)
  have g := R0_rng hR
  have hc := R0_scal hR
  have hG := RX_MG hR
  refine x_match hR hn hp ht h9 (fun r w hw e => k r _ _ (fun d2 Q2 k2 => ?_)) (fun r e => k r _ _ (fun d2 Q2 k2 => ?_))
  · have hR1 := RX_xRe w hR
    refine m_match (RX_MG hR1) hp ht ((xRe_ne (by decide)).trans h4) ((xRe_ne (by decide)).trans h9) (fun r2 w2 hw2 e2 => ?_) (fun r2 e2 => ?_)
    · try rw [xRe_g (g := 51) (by decide)] at e2
      try rw [xRe_g (g := 50) (by decide)] at e2
      obtain ⟨h1, h2⟩ := Prod.mk.inj (e2.trans e.symm)
      subst h1
      subst h2
      exact k2 _ _ (RR_ref _ hRR)
    · try rw [xRe_g (g := 51) (by decide)] at e2
      try rw [xRe_g (g := 50) (by decide)] at e2
      exact absurd (show (0 : Nat) = w from congrArg Prod.snd (e2.trans e.symm)).symm hw
  · have e0 := e
    unfold gMatch at e0
    obtain ⟨q1, e1⟩ := gq0 e0 (by decide)
    obtain ⟨q2, e2⟩ := gq0 e1 (by decide)
    obtain ⟨q3, e3⟩ := gq0 e2 (by decide)
    refine m_match hG hp ht (n := n4) (m := (n9 : Int)) h4 h9 (fun r2 w2 hw2 e2 => absurd (show w2 = (0 : Nat) from congrArg Prod.snd (e2.trans e.symm)) hw2) (fun r2 e2 => ?_)
    obtain ⟨h1, h2⟩ := Prod.mk.inj (e2.trans e.symm)
    subst h1
    refine k2 _ _ (RR_keep hRR (rx_match (n := n4) (k := n9) (p := p) (t := t) hR (fun g i j n => by simp only [uDia]; rw [cu_ap, if_neg (by omega), cu_ap, if_neg (by omega), cu_ap, if_neg (by omega), cu_ap, if_neg (by omega), cu_ap, if_neg (by omega), cu_ap, if_neg (by omega), cu_ap, if_neg (by omega), cu_ap, if_neg (by omega), cu_ap, if_neg (by omega), cu_ap, if_neg (by omega), cu_ap, if_neg (by omega)]) h4 h9 (by omega) (by simp [uDia, cu_ap]) (by simp [uDia, cu_ap, h4]) (by simp [uDia, cu_ap]) (by simp [uDia, cu_ap]) (by simp [uDia, cu_ap]) (by simp [uDia, cu_ap]) (by simp [uDia, cu_ap]) (by simp [uDia, cu_ap]) (by simp [uDia, cu_ap]) (by simp [uDia, cu_ap]) (by omega) (by omega)) ?_ (fun g i j n => by unfold wrT inT PG at n; simp only [uDia]; rw [cu_ap, if_neg (by omega), cu_ap, if_neg (by omega), cu_ap, if_neg (by omega), cu_ap, if_neg (by omega), cu_ap, if_neg (by omega), cu_ap, if_neg (by omega), cu_ap, if_neg (by omega), cu_ap, if_neg (by omega), cu_ap, if_neg (by omega), cu_ap, if_neg (by omega), cu_ap, if_neg (by omega)]) (Int.le_refl _) (fun _ _ _ => rfl) (fun _ => rfl))
    exact hRR.2.2.2.2.2
theorem pr_letter {z : xZ} {d : Nat} {Q : tQ} {c : tC} {L : tL} {p t : Int}  (hRR : RR c L) (hp : inR p) (ht : inR t)  (k : ∀ r c1 (L1 : tL), (∀ (d2 : Nat) (Q2 : tQ), (∀ c2 L2, RR c2 L2 → Q2 (some (.int (iI r))) c2 L2) → En z (d2 + 20) MX11_letter_ Q2 0 [some (.ref (xad z 50 0)), some (.int (iI p)), some (.int (iI t))] [] c1 L1) → Q (some (.int (iI r))) c1 L1) : En z (d + 20) MX10_letter Q 0 [some (.ref (xad z 0 0)), some (.int (iI p)), some (.int (iI t))] [] c L := by
  have hR := hRR.1
  obtain ⟨n, hn⟩ := RR_n hRR
  obtain ⟨n5, h5⟩ := Int.eq_ofNat_of_zero_le (show 0 ≤ c 50 0 5 by have := R0_rng hR; omega)
  have g := R0_rng hR
  have hc := R0_scal hR
  have hG := RX_MG hR
  refine x_letter hR hn hp ht h5 (fun r w hw e => k r _ _ (fun d2 Q2 k2 => ?_)) (fun r e => k r _ _ (fun d2 Q2 k2 => ?_))
  · have hR1 := RX_xRe w hR
    refine m_letter (RX_MG hR1) hp ht ((xRe_ne (by decide)).trans h5) (fun r2 w2 hw2 e2 => ?_) (fun r2 e2 => ?_)
    · try rw [xRe_g (g := 51) (by decide)] at e2
      try rw [xRe_g (g := 50) (by decide)] at e2
      obtain ⟨h1, h2⟩ := Prod.mk.inj (e2.trans e.symm)
      subst h1
      subst h2
      exact k2 _ _ (RR_ref _ hRR)
    · try rw [xRe_g (g := 51) (by decide)] at e2
      try rw [xRe_g (g := 50) (by decide)] at e2
      exact absurd (show (0 : Nat) = w from congrArg Prod.snd (e2.trans e.symm)).symm hw
  · have e0 := e
    unfold gLetter at e0
    obtain ⟨q1, e1⟩ := gq0 e0 (by decide)
    obtain ⟨q2, e2⟩ := gq0 e1 (by decide)
    obtain ⟨q3, e3⟩ := gq0 e2 (by decide)
    refine m_letter hG hp ht (n := n5) h5 (fun r2 w2 hw2 e2 => absurd (show w2 = (0 : Nat) from congrArg Prod.snd (e2.trans e.symm)) hw2) (fun r2 e2 => ?_)
    obtain ⟨h1, h2⟩ := Prod.mk.inj (e2.trans e.symm)
    subst h1
    refine k2 _ _ (RR_keep hRR (rx_letter (n := n5) (p := p) (y := c 50 0 0) (t := t) hR (fun g i j n => by rw [cu_ap, if_neg (by omega), cu_ap, if_neg (by omega), cu_ap, if_neg (by omega), cu_ap, if_neg (by omega), cu_ap, if_neg (by omega), cu_ap, if_neg (by omega), cu_ap, if_neg (by omega), cu_ap, if_neg (by omega)]) h5 (by omega) (by simp [cu_ap]) (by simp [cu_ap]) (by simp [cu_ap]) (by simp [cu_ap]) (by simp [cu_ap]) (by simp [cu_ap]) (by simp [cu_ap]) (by simp [cu_ap]) (by omega) g.1 (by omega)) ?_ (fun g i j n => by unfold wrT inT PG at n; rw [cu_ap, if_neg (by omega), cu_ap, if_neg (by omega), cu_ap, if_neg (by omega), cu_ap, if_neg (by omega), cu_ap, if_neg (by omega), cu_ap, if_neg (by omega), cu_ap, if_neg (by omega), cu_ap, if_neg (by omega)]) (Int.le_refl _) (fun _ _ _ => rfl) (fun _ => rfl))
    exact hRR.2.2.2.2.2
