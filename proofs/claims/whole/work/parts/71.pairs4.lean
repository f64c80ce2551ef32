theorem fl_eq {c1 c : tC} {L : tL} {s o : Int} (h50 : c1 50 = c 50) (h51 : c1 51 = c 51) : (flLaws c1 L s o = flLaws c L s o ∧ gLaws c1 L s = gLaws c L s ∧ rLaws c1 L s = rLaws c L s) ∧ flPlan c1 L s o = flPlan c L s o ∧ gPlan c1 L s = gPlan c L s ∧ rPlan c1 L s = rPlan c L s := by
  unfold flLaws gLaws flPlan gPlan rLaws rPlan
  rw [h50, h51]
  exact ⟨⟨rfl, rfl, rfl⟩, rfl, rfl, rfl⟩
theorem lw_ok {c : tC} (h : RX c) : ∀ j, j < 6 → lwl j ≤ c 51 11 j ∧ c 51 11 j ≤ lwh j := fun j hj => by
  have q := (R0_law h).2
  rcases (show j = 0 ∨ j = 1 ∨ j = 2 ∨ j = 3 ∨ j = 4 ∨ j = 5 by omega) with e | e | e | e | e | e
  · rw [e]; exact q.1
  · rw [e]; exact q.2.1
  · rw [e]; exact q.2.2.1
  · rw [e]; exact q.2.2.2.1
  · rw [e]; exact q.2.2.2.2.1
  · rw [e]; exact q.2.2.2.2.2
theorem lw_cl {c : tC} (h : RX c) : ∀ j, j < 6 → c 27 0 j = c 51 11 j := fun j hj => by
  have q := (R0_law h).1
  rcases (show j = 0 ∨ j = 1 ∨ j = 2 ∨ j = 3 ∨ j = 4 ∨ j = 5 by omega) with e | e | e | e | e | e
  · rw [e]; exact q.1
  · rw [e]; exact q.2.1
  · rw [e]; exact q.2.2.1
  · rw [e]; exact q.2.2.2.1
  · rw [e]; exact q.2.2.2.2.1
  · rw [e]; exact q.2.2.2.2.2
theorem pr_laws {z : xZ} {d : Nat} {Q : tQ} {c : tC} {L : tL} {s : Int}  (hRR : RR c L) (hs : inR s) (hz : zF z) (k : ∀ r c1 (L1 : tL), (∀ (d2 : Nat) (Q2 : tQ), (∀ c2 L2, RR c2 L2 → Q2 (some (.int (iI r))) c2 L2) → En z (d2 + 20) MX11_laws Q2 0 [some (.ref (xad z 50 0)), some (.int (iI s)), none, none] [] c1 L1) → Q (some (.int (iI r))) c1 L1) : En z (d + 20) MX10_laws Q 0 [some (.ref (xad z 0 0)), some (.int (iI s)), none] [] c L := by
  have hR := hRR.1
  obtain ⟨n, hn⟩ := RR_n hRR
  have hG := RX_MG hR
  have hS := hRR.2.2.1
  have hL := hRR.2.2.2.2.2
  refine x_laws hz hG hS hs (fun r w c2 f1 f2 f3 e => k r _ _ (fun d2 Q2 k2 => ?_))
  have u50 : xRe c2 w 50 = c 50 := funext fun a => funext fun b => (xRe_ne (by decide)).trans (f1 50 a b (by omega) (by omega))
  have u51 : xRe c2 w 51 = c 51 := funext fun a => funext fun b => (xRe_ne (by decide)).trans (f1 51 a b (by omega) (by omega))
  have hg1 : MG (xRe c2 w) := MG_of (fun j _ => by rw [u50]) hG
  have hs1 : SH (xRe c2 w) L := SH_cl hS (fun s j _ _ => (xRe_ne (by decide)).trans (f1 2 s j (by omega) (by omega))) u50 u51
  refine m_laws hg1 hs1 hs (fun r2 w2 c3 m1 m2 m3 e2 => ?_)
  have eq1 := fl_eq (c1 := xRe c2 w) (c := c) (L := L) (s := s) (o := xRe c2 w 50 0 8) u50 u51
  rw [eq1.1.2.1] at e2
  rw [eq1.1.1, u50] at m2
  rw [eq1.1.2.2, u51] at m3
  obtain ⟨h1, h2⟩ := Prod.mk.inj (e2.trans e.symm)
  subst h1
  subst h2
  have hFL : FLT c3 := by
    unfold FLT at *
    rw [m1 30 0 4 (by omega) (by omega) (by omega), xRe_ne (by decide), f2, m2, hL]
  have hW : ∀ g i j, ¬ ((g = 27 ∧ i = 0 ∧ j < 6) ∨ (g = 51 ∧ i = 11 ∧ j < 6) ∨ (30 ≤ g ∧ g ≤ 32) ∨ (i = 16 ∧ PG g) ∨ (g = 50 ∧ i = 0 ∧ (j = 8 ∨ (50 ≤ j ∧ j ≤ 56))) ∨ (g = 51 ∧ 57 ≤ i ∧ i ≤ 63)) → c3 g i j = xRe c w2 g i j := fun g i j h => by
    rw [m1 g i j (by omega) (by omega) (by omega), xRe_at, xRe_at, f1 35 0 w2 (by omega) (by omega), f1 g i j (by omega) (by omega)]
  have hR1 := RX_xRe w2 hR
  refine k2 _ _ (RR_refK (L2 := L) w2 hRR ?_ hFL (fun g i j h => hW g i j (by unfold wrT inT PG at h; omega)) (by rw [hW 50 0 2 (by omega), xRe_ne (by decide)]; exact Int.le_refl _) (fun _ _ _ => rfl) (fun _ => rfl))
  by_cases q : w2 = 0
  · refine rx_laws (f := fFo (c 51 11) (rLaws c L s).2.1) hR1 hW (fun j hj => ?_) (fun j hj => ?_) ?_
    · rw [m1 27 0 j (by omega) (by omega) (by omega), xRe_ne (by decide), f3 j hj, if_pos q]
      exact fFo_eq (lw_cl hR j hj)
    · rw [m3 j hj, if_pos q]
    · have hrn := (tLaws_rng (T := eT L s.toNat) (e := (c 51 46 s.toNat).toNat) 61 0 [] (Nat.zero_le _) (fun x hx => absurd hx List.not_mem_nil) (Nat.zero_le _)).2.1
      exact fFo_rng hrn (lw_ok hR)
  · refine rx_text hR1 (fun g i j h => ?_)
    by_cases q27 : g = 27 ∧ i = 0 ∧ j < 6
    · obtain ⟨z1, z2, z3⟩ := q27
      subst z1
      subst z2
      rw [m1 27 0 j (by omega) (by omega) (by omega), xRe_ne (by decide), f3 j z3, if_neg q, xRe_ne (by decide)]
    · by_cases q51 : g = 51 ∧ i = 11 ∧ j < 6
      · obtain ⟨z1, z2, z3⟩ := q51
        subst z1
        subst z2
        rw [m3 j z3, if_neg q, xRe_ne (by decide)]
      · exact hW g i j (by omega)
theorem pr_plan {z : xZ} {d : Nat} {Q : tQ} {c : tC} {L : tL} {s : Int}  (hRR : RR c L) (hs : inR s) (hz : zF z) (k : ∀ r c1 (L1 : tL), (∀ (d2 : Nat) (Q2 : tQ), (∀ c2 L2, RR c2 L2 → Q2 (some (.int (iI r))) c2 L2) → En z (d2 + 20) MX11_plan Q2 0 [some (.ref (xad z 50 0)), some (.int (iI s)), none, none, none] [] c1 L1) → Q (some (.int (iI r))) c1 L1) : En z (d + 20) MX10_plan Q 0 [some (.ref (xad z 0 0)), some (.int (iI s)), none] [] c L := by
  have hR := hRR.1
  obtain ⟨n, hn⟩ := RR_n hRR
  have hG := RX_MG hR
  have hS := hRR.2.2.1
  have hL := hRR.2.2.2.2.2
  have g9 := R0_rng hR
  refine x_plan hz hR hS hs (fun r w c2 f1 f2 f3 e => k r _ _ (fun d2 Q2 k2 => ?_))
  have u50 : xRe c2 w 50 = c 50 := funext fun a => funext fun b => (xRe_ne (by decide)).trans (f1 50 a b (by omega) (by omega) (by omega) (by omega))
  have u51 : xRe c2 w 51 = c 51 := funext fun a => funext fun b => (xRe_ne (by decide)).trans (f1 51 a b (by omega) (by omega) (by omega) (by omega))
  have hg1 : MG (xRe c2 w) := MG_of (fun j _ => by rw [u50]) hG
  have hs1 : SH (xRe c2 w) L := SH_cl hS (fun s j _ _ => (xRe_ne (by decide)).trans (f1 2 s j (by omega) (by omega) (by omega) (by omega))) u50 u51
  refine m_plan hg1 hs1 hs (fun r2 w2 c3 m1 m2 m3 e2 => ?_)
  have eq1 := fl_eq (c1 := xRe c2 w) (c := c) (L := L) (s := s) (o := xRe c2 w 50 0 8) u50 u51
  rw [eq1.2.2.1] at e2
  rw [eq1.2.1, u50] at m2
  rw [eq1.2.2.2, u50] at m3
  rw [u50] at m1
  obtain ⟨h1, h2⟩ := Prod.mk.inj (e2.trans e.symm)
  subst h1
  subst h2
  have hFL : FLT c3 := by
    unfold FLT at *
    rw [m1 30 0 4 (by omega) (by omega) (by omega), xRe_ne (by decide), f2, m2, hL]
  have hR1 := RX_xRe w2 hR
  by_cases q : w2 = 0
  · have hW : ∀ g i j, ¬ ((PG g ∧ i = (c 50 0 6).toNat) ∨ (g = 8 ∧ i = 0 ∧ j = 3) ∨ (g = 50 ∧ i = 0 ∧ j = 6) ∨ (g = 51 ∧ i = 38 ∧ j = (c 50 0 6).toNat) ∨ (g = 51 ∧ (39 ≤ i ∧ i ≤ 43) ∧ 8 * (c 50 0 6).toNat ≤ j ∧ j < 8 * (c 50 0 6).toNat + 8) ∨ (30 ≤ g ∧ g ≤ 32) ∨ (i = 16 ∧ PG g) ∨ (g = 50 ∧ i = 0 ∧ (j = 8 ∨ (50 ≤ j ∧ j ≤ 56))) ∨ (g = 51 ∧ 57 ≤ i ∧ i ≤ 63)) → c3 g i j = xRe c w2 g i j := fun g i j h => by
      rw [m1 g i j (by omega) (by omega) (by omega), xRe_at, xRe_at, f1 35 0 w2 (by omega) (by omega) (by omega) (by omega), f1 g i j (by omega) (by omega) (by omega) (by omega)]
    have e0 := e
    unfold gPlan at e0
    rw [q] at e0
    have hb : fBar (c 51) s = 0 := by
      by_cases hb : fBar (c 51) s = 0
      · exact hb
      · rw [if_pos hb] at e0
        exact absurd (show (0 : Nat) = (-(fBar (c 51) s)).toNat from congrArg Prod.snd e0).symm (fBar_n hb)
    rw [if_neg (fun h => h hb)] at e0
    obtain ⟨q1, e1⟩ := gq1 e0 (by decide)
    obtain ⟨q2, e2⟩ := gq0 e1 (by decide)
    obtain ⟨m, hm⟩ := Int.eq_ofNat_of_zero_le (show 0 ≤ c 50 0 6 by omega)
    have hrn := tItems_rng (T := eT L s.toNat) (e := (c 51 46 s.toNat).toNat) (n := c 50 0 2) 8 0 [] (Nat.zero_le _) (fun x hx => absurd hx List.not_mem_nil)
    have hrl : rPlan c L s = tItems (eT L s.toNat) (c 51 46 s.toNat).toNat (c 50 0 2) 8 0 [] := rfl
    rw [← hrl] at hrn
    have hl8 : (rPlan c L s).2.1.length ≤ 8 := by
      have : ([] : List tI).length = 0 := rfl
      omega
    have f4 := f3 q
    have m4 := m3 q
    refine k2 _ _ (RR_refK (L2 := L) w2 hRR ?_ hFL (fun g i j h => hW g i j (by unfold wrT inT PG at h; unfold PG; omega)) (by rw [hW 50 0 2 (by omega), xRe_ne (by decide)]; exact Int.le_refl _) (fun _ _ _ => rfl) (fun _ => rfl))
    have hmm : (c 50 0 6).toNat = m := by omega
    rw [hmm] at hW f4 m4
    have gp : ∀ i j, c3 14 i j = c2 14 i j := fun i j => by rw [m1 14 i j (by omega) (by omega) (by omega), xRe_ne (by decide)]
    have gp2 : ∀ g i j, 41 ≤ g → g ≤ 45 → c3 g i j = c2 g i j := fun g i j h3 h4 => by rw [m1 g i j (by omega) (by omega) (by omega), xRe_ne (by omega)]
    refine rx_plan (m := m) (l := (rPlan c L s).2.1) hR1 hW ((xRe_ne (by decide)).trans hm) (by omega) hl8 ?_ ?_ ⟨?_, fun j hj => ?_⟩ m4.2 (fun j hj => ?_)
    · rw [m1 8 0 3 (by omega) (by omega) (by omega), xRe_ne (by decide), f4.1, hm]
    · rw [m4.1, hm]
    · rw [gp]; exact f4.2.1
    · rw [gp2 45 m j (by omega) (by omega), gp2 41 m j (by omega) (by omega), gp2 42 m j (by omega) (by omega), gp2 43 m j (by omega) (by omega), gp2 44 m j (by omega) (by omega)]
      exact f4.2.2 j hj
    · rw [xRe_ne (by decide)]
      refine hrn.2.1 _ ?_
      rw [List.getD_eq_getElem?_getD, List.getElem?_eq_getElem hj]
      exact List.getElem_mem hj
  · have hW : ∀ g i j, ¬ ((30 ≤ g ∧ g ≤ 32) ∨ (i = 16 ∧ PG g) ∨ (g = 50 ∧ i = 0 ∧ (j = 8 ∨ (50 ≤ j ∧ j ≤ 56))) ∨ (g = 51 ∧ 57 ≤ i ∧ i ≤ 63)) → c3 g i j = xRe c w2 g i j := fun g i j h => by
      rw [m1 g i j (by omega) (by omega) (by omega), xRe_at, xRe_at, f1 35 0 w2 (by omega) (by omega) (by omega) (by omega), f1 g i j (by omega) (by omega) (by omega) (by omega)]
    exact k2 _ _ (RR_refK (L2 := L) w2 hRR (rx_text hR1 hW) hFL (fun g i j h => hW g i j (by unfold wrT inT PG at h; unfold PG; omega)) (by rw [hW 50 0 2 (by omega), xRe_ne (by decide)]; exact Int.le_refl _) (fun _ _ _ => rfl) (fun _ => rfl))
