/-! the image kept and taken back, by both -/
theorem pr_image {z : xZ} {d : Nat} {Q : tQ} {c : tC} {L : tL}   (hRR : RR c L)   (k : ∀ r c1 (L1 : tL), (∀ (d2 : Nat) (Q2 : tQ), (∀ c2 L2, RR c2 L2 → Q2 (some (.int (iI r))) c2 L2) → En z (d2 + 20) MX11_image Q2 0 [some (.ref (xad z 50 0))] [] c1 L1) → Q (some (.int (iI r))) c1 L1) : En z (d + 20) MX10_image Q 0 [some (.ref (xad z 0 0))] [] c L := by
  have hR := hRR.1
  obtain ⟨n, hn⟩ := RR_n hRR
  have g := R0_rng hR
  have sc := R0_scal hR
  have hM := hRR.2.1
  refine x_image (np := (c 8 0 1).toNat) (ns := (c 8 0 2).toNat) (nl := (c 8 0 3).toNat) (by omega) (by omega) (by omega) (by omega) (by omega) (by omega) (fun i hi => (R0_per hR i (by omega)).2.2.2.2.2 |> fun q => by rw [(R0_per hR i (by omega)).1.2.2.2.2]; exact q) (fun c1 f1 t1 o1 => k _ _ _ (fun d2 Q2 k2 => ?_))
  have u50 : ∀ j, c1 50 0 j = c 50 0 j := fun j => f1 50 0 j (by unfold inT PG; omega) (by omega)
  have u51 : ∀ f j, c1 51 f j = c 51 f j := fun f j => f1 51 f j (by unfold inT PG; omega) (by omega)
  refine m_image (fun c2 f2 a2 b2 e2 => ?_)
  rw [u50 0, ← sc.1]
  have hF : ∀ g i j, ¬ inT 1 g i → ¬ (g = 0 ∧ i = 0 ∧ j = 7) → ¬ (g = 50 ∧ i = 0 ∧ 67 ≤ j ∧ j ≤ 75) → ¬ (g = 51 ∧ i = 76) → c2 g i j = c g i j := fun g i j n1 n2 n3 n4 => (f2 g i j n3 n4).trans (f1 g i j n1 n2)
  have w1 : ∀ j, 67 > j ∨ j > 75 → c2 50 0 j = c 50 0 j := fun j n => hF 50 0 j (by unfold inT PG; omega) (by omega) (by omega) (by omega)
  have w2 : ∀ f j, f ≠ 76 → c2 51 f j = c 51 f j := fun f j n => hF 51 f j (by unfold inT PG; omega) (by omega) (by omega) (by omega)
  have w3 : ∀ g i j, (g = 2 ∨ g = 30 ∨ (33 ≤ g ∧ g ≤ 35)) → c2 g i j = c g i j := fun g i j n => hF g i j (by unfold inT PG; omega) (by omega) (by omega) (by omega)
  refine k2 _ _ ⟨?_, Or.inr ⟨?_, ?_⟩, ?_, ?_, ?_, ?_⟩
  · exact RT_gen (by omega) (fun g i j n => hF g i j (by unfold inT PG at *; omega) (by unfold inT PG at n; omega) (by unfold inT PG at n; omega) (by unfold inT PG at n; omega)) (fun j n => w1 j (by omega)) (fun f j n1 n2 _ => w2 f j (by omega)) hR
  · rw [f2 0 0 7 (by omega) (by omega)]; exact o1
  · refine RT_map (t := 1) (u := 0) (by omega) (by omega) (TL_fr t1 (fun g i j n1 n2 => f2 g i j (by omega) (by omega))) (fun j n => ?_) (fun f j n1 n2 n3 => ?_) hR
    · unfold imS
      split
      · rename_i h9
        rw [b2, u50 9, h9]
      · rw [a2 j (by omega), u50 j]
    · unfold imA
      rw [e2 f j n2 n1 n3, u51 f j]
  · exact SH_fr hRR.2.2.1 (fun s j _ _ => w3 _ _ _ (by omega)) (fun f s n1 n2 _ => w2 _ _ (by omega)) (by rw [w1 2 (by omega)]; exact Int.le_refl _) (fun _ _ _ => rfl) (fun _ => rfl)
  · intro q n1 n2
    rw [w3 _ _ _ (by omega), w2 _ _ (by omega)]
    exact hRR.2.2.2.1 q n1 n2
  · obtain ⟨p1, p2, p3⟩ := hRR.2.2.2.2.1
    refine ⟨by rw [w3 _ _ _ (by omega), w1 _ (by omega)]; exact p1, by rw [w1 _ (by omega)]; exact p2, fun j n1 n2 => ?_⟩
    rw [w1 _ (by omega)] at n2
    rw [w3 _ _ _ (by omega), w2 _ _ (by omega)]
    exact p3 j n1 n2
  · unfold FLT
    rw [w3 _ _ _ (by omega), w1 _ (by omega)]
    exact hRR.2.2.2.2.2
theorem pr_restore {z : xZ} {d : Nat} {Q : tQ} {c : tC} {L : tL}   (hRR : RR c L)   (k : ∀ r c1 (L1 : tL), (∀ (d2 : Nat) (Q2 : tQ), (∀ c2 L2, RR c2 L2 → Q2 (some (.int (iI r))) c2 L2) → En z (d2 + 20) MX11_restore Q2 0 [some (.ref (xad z 50 0)), none] [] c1 L1) → Q (some (.int (iI r))) c1 L1) : En z (d + 20) MX10_restore Q 0 [some (.ref (xad z 0 0)), none] [] c L := by
  have hR := hRR.1
  obtain ⟨n, hn⟩ := RR_n hRR
  have g := R0_rng hR
  have hG := RX_MG hR
  have hS := hRR.2.2.1
  have hM := hRR.2.1
  have hh : ∀ s : Nat, s < 8 → (0 ≤ c 51 44 s ∧ c 51 44 s ≤ 2) ∧ (c 51 44 s = 2 → 0 ≤ c 51 47 s ∧ c 51 47 s ≤ 14) := fun s hs => by
    rcases hS s hs with a | a | a
    · omega
    · omega
    · omega
  have hi7 : c 0 0 7 = 0 ∨ c 0 0 7 = 1 := by
    rcases hM with a | a
    · exact Or.inl a.1
    · exact Or.inr a.1
  have h67 : -1 ≤ c 50 0 67 ∧ c 50 0 67 ≤ 239 := by
    rcases hM with a | a
    · omega
    · have r := a.2.2.1
      unfold RT_rng at r
      have e0 : imS c 0 = c 50 0 67 := rfl
      omega
  have h69 : c 50 0 67 ≠ -1 → 0 ≤ c 50 0 69 ∧ c 50 0 69 ≤ 14 := fun n => by
    rcases hM with a | a
    · omega
    · have r := a.2.2.1
      unfold RT_rng at r
      have e0 : imS c 2 = c 50 0 69 := rfl
      omega
  have hr1 : c 0 0 7 = 1 → RT c 1 (imS c) (imA c) := fun n => by
    rcases hM with a | a
    · omega
    · exact a.2
  refine x_restore (np := (c 8 1 1).toNat) (ns := (c 8 1 2).toNat) (nl := (c 8 1 3).toNat) hi7 hG (fun s hs => SH_i hS s hs) (fun n => ?_) (fun n => k _ _ _ (fun d2 Q2 k2 => ?_)) (fun n c1 f1 t1 s1 => k _ _ _ (fun d2 Q2 k2 => ?_))
  · have r := hr1 n
    have r2 := r.2.1
    have r1 := r.1
    unfold RT_rng at r2
    unfold RT_scal at r1
    refine ⟨by omega, by omega, fun i hi => ?_⟩
    have rp := r.2.2.1 i (by omega)
    rw [tp_eq (by omega)] at rp
    rw [rp.1.2.2.2.2]
    exact rp.2.2.2.2.2
  · have e67 : c 50 0 67 = -1 := by
      rcases hM with a | a
      · exact a.2
      · omega
    refine m_restore (fun s hs => ?_) ?_ (fun _ => ?_) (fun _ => ?_) (fun w => ?_)
    · rw [xRe_g (g := 51) (by decide)]; exact hh s hs
    · rw [xRe_g (g := 50) (by decide)]; exact h67
    · rename_i w
      rw [xRe_g (g := 50) (by decide)] at w
      exact absurd e67 w
    · exact k2 _ _ (RR_ref 6 hRR)
    · rw [xRe_g (g := 50) (by decide)] at w
      exact absurd e67 w
  · have r := hr1 n
    have r2 := r.2.1
    have r1 := r.1
    unfold RT_rng at r2
    unfold RT_scal at r1
    have e0 : imS c 0 = c 50 0 67 := rfl
    have e2' : imS c 2 = c 50 0 69 := rfl
    have u50 : ∀ j, c1 50 0 j = c 50 0 j := fun j => f1 50 0 j (by unfold inT PG; omega) (by omega)
    have u51 : ∀ f j, c1 51 f j = c 51 f j := fun f j => f1 51 f j (by unfold inT PG; omega) (by omega)
    refine m_restore (fun s hs => ?_) ?_ (fun w => ?_) (fun w => ?_) (fun w c2 f2 a2 b2 i2 s2 => ?_)
    · rw [u51 44 s, u51 47 s]; exact hh s hs
    · rw [u50 67]; exact h67
    · rw [u50 67] at w
      rw [u50 69]; exact h69 w
    · rw [u50 67] at w
      omega
    · rw [u50 67, show c 50 0 67 = c 8 1 0 by omega]
      have hF : ∀ g i j, ¬ inT 0 g i → ¬ (g = 2 ∧ i < 8 ∧ j < 2) → ¬ (g = 50 ∧ i = 0 ∧ (j < 8 ∨ j = 9)) → ¬ (g = 51 ∧ 11 ≤ i ∧ i ≤ 44) → c2 g i j = c g i j := fun g i j n1 n2 n3 n4 => (f2 g i j n3 n4).trans (f1 g i j n1 n2)
      have w1 : ∀ j, ¬ (j < 8 ∨ j = 9) → c2 50 0 j = c 50 0 j := fun j n => hF 50 0 j (by unfold inT PG; omega) (by omega) (by omega) (by omega)
      have w2 : ∀ f j, ¬ (11 ≤ f ∧ f ≤ 44) → c2 51 f j = c 51 f j := fun f j n => hF 51 f j (by unfold inT PG; omega) (by omega) (by omega) (by omega)
      have w3 : ∀ g i j, (g = 30 ∨ (33 ≤ g ∧ g ≤ 35)) → c2 g i j = c g i j := fun g i j n => hF g i j (by unfold inT PG; omega) (by omega) (by omega) (by omega)
      refine k2 _ _ ⟨?_, ?_, fun s hs => ?_, ?_, ?_, ?_⟩
      · refine RT_map (t := 0) (u := 1) (by omega) (by omega) (TL_fr t1 (fun g i j n1 n2 => f2 g i j (by omega) (by omega))) (fun j n => ?_) (fun f j n1 n2 n3 => ?_) r
        · unfold imS
          split
          · rename_i h9
            rw [h9, b2, u50 75]
          · rw [a2 j (by omega), u50]
        · unfold imA
          rw [i2 f j n2 n1 n3, u51]
      · exact IM_fr hM (fun g i j n => hF g i j (by unfold inT PG at *; omega) (by unfold inT PG at n; omega) (by unfold inT PG at n; omega) (by unfold inT PG at n; omega)) (hF _ _ _ (by unfold inT PG; omega) (by omega) (by omega) (by omega)) (fun j n1 n2 => w1 j (by omega)) (fun j => w2 _ _ (by omega))
      · have q := hS s hs
        have qs := s1 s hs
        have qm := s2 s hs
        rw [u51 44 s, u51 47 s, u50 69] at qm
        have q2 : c2 50 0 2 = c 50 0 69 := (a2 2 (by omega)).trans (u50 69)
        rw [w2 45 s (by omega), w2 46 s (by omega), w2 47 s (by omega)]
        rw [f2 2 s 0 (by omega) (by omega), f2 2 s 1 (by omega) (by omega)]
        by_cases y : c 51 44 s = 2 ∧ c 50 0 69 ≤ c 51 47 s
        · rw [if_pos y] at qm
          have := qs.1 (by omega)
          exact Or.inl ⟨qm, this.1, this.2⟩
        · rw [if_neg y] at qm
          have z9 := qs.2 (by omega)
          rw [z9.1, z9.2, qm]
          rcases q with a | a | a
          · exact Or.inl a
          · exact Or.inr (Or.inl a)
          · exact Or.inr (Or.inr ⟨a.1, a.2.1, by omega, a.2.2.2⟩)
      · intro q n1 n2
        rw [w3 _ _ _ (by omega), w2 _ _ (by omega)]
        exact hRR.2.2.2.1 q n1 n2
      · obtain ⟨p1, p2, p3⟩ := hRR.2.2.2.2.1
        refine ⟨by rw [w3 _ _ _ (by omega), w1 _ (by omega)]; exact p1, by rw [w1 _ (by omega)]; exact p2, fun j n1 n2 => ?_⟩
        rw [w1 _ (by omega)] at n2
        rw [w3 _ _ _ (by omega), w2 _ _ (by omega)]
        exact p3 j n1 n2
      · unfold FLT
        rw [w3 _ _ _ (by omega), w1 _ (by omega)]
        exact hRR.2.2.2.2.2
