theorem rx_source {c c2 : tC} {n : Nat} {kd wh t st : Int} (h : RX c) (hF : ∀ g i j, ¬ ((g = 13 ∧ i ≤ n) ∨ (g = 8 ∧ i = 0 ∧ j = 2) ∨ (g = 50 ∧ i = 0 ∧ j = 2) ∨ (g = 51 ∧ (19 ≤ i ∧ i ≤ 26) ∧ j = n)) → c2 g i j = c g i j) (hn : c 50 0 2 = (n : Int)) (hn14 : n < 14) (v1 : c2 8 0 2 = (n : Int) + 1) (v2 : c2 50 0 2 = (n : Int) + 1) (o1 : ∀ i j, i < n → j < 7 → c2 13 i j = c 13 i j) (o2 : ∀ i, i < n → c2 13 i 7 = ((mkN (fun q => fBeat (c 51 21 i) (if q = n then t else c 51 21 q)) (n + 1) : Nat) : Int)) (o3 : c2 13 n 7 = ((mkN (fun j => fBeat t (c 51 21 j)) n : Nat) : Int)) (w0 : c2 13 n 0 = kd) (w1 : c2 13 n 1 = wh) (w2 : c2 13 n 2 = t) (w3 : c2 13 n 3 = st) (w4 : c2 13 n 4 = 0) (w5 : c2 13 n 5 = 23) (w6 : c2 13 n 6 = 0) (x0 : c2 51 19 n = kd) (x1 : c2 51 20 n = wh) (x2 : c2 51 21 n = t) (x3 : c2 51 22 n = st) (x4 : c2 51 23 n = 0) (x5 : c2 51 24 n = 23) (x6 : c2 51 25 n = 0) (x7 : c2 51 26 n = 0) (hv : (1 ≤ kd ∧ kd ≤ 7) ∧ (0 ≤ wh ∧ wh ≤ 63) ∧ (kd = 4 → wh < c 50 0 1) ∧ (20 ≤ t ∧ t ≤ 99) ∧ (1 ≤ st ∧ st ≤ 99)) : RX c2 := by
  have g := R0_rng h
  refine ⟨?_, ?_, tr_per (by intros; exact hF _ _ _ (by omega)) (by intros; exact hF _ _ _ (by omega)) (by intros; exact hF _ _ _ (by omega)) h, ?_, ?_, ?_, tr_law (by intros; exact hF _ _ _ (by omega)) (by intros; exact hF _ _ _ (by omega)) h, tr_size (by intros; exact hF _ _ _ (by omega)) (by intros; exact hF _ _ _ (by omega)) h, tr_storm (by intros; exact hF _ _ _ (by omega)) (by intros; exact hF _ _ _ (by omega)) h, tr_plan (by intros; exact hF _ _ _ (by omega)) (by intros; exact hF _ _ _ (by omega)) (by intros; exact hF _ _ _ (by omega)) (by first | (rw [hF _ _ _ (by omega)]; exact Int.le_refl _) | omega) (by intros; exact hF _ _ _ (by omega)) (by intros; exact hF _ _ _ (by omega)) h, tr_press (by intros; exact hF _ _ _ (by omega)) (by intros; exact hF _ _ _ (by omega)) (by first | (rw [hF _ _ _ (by omega)]; exact Int.le_refl _) | omega) (by first | (rw [hF _ _ _ (by omega)]; exact Int.le_refl _) | omega) (by intros; exact hF _ _ _ (by omega)) h, tr_pmon (by intros; exact hF _ _ _ (by omega)) (by intros; exact hF _ _ _ (by omega)) h, tr_match (by intros; exact hF _ _ _ (by omega)) (by intros; exact hF _ _ _ (by omega)) (by first | (rw [hF _ _ _ (by omega)]; exact Int.le_refl _) | omega) (by first | (rw [hF _ _ _ (by omega)]; exact Int.le_refl _) | omega) (by intros; exact hF _ _ _ (by omega)) h, tr_mmon (by intros; exact hF _ _ _ (by omega)) (by intros; exact hF _ _ _ (by omega)) h, tr_came (by intros; exact hF _ _ _ (by omega)) (by intros; exact hF _ _ _ (by omega)) (by intros; exact hF _ _ _ (by omega)) (by intros; exact hF _ _ _ (by omega)) (by intros; exact hF _ _ _ (by omega)) h, tr_let (by intros; exact hF _ _ _ (by omega)) (by intros; exact hF _ _ _ (by omega)) (by first | (rw [hF _ _ _ (by omega)]; exact Int.le_refl _) | omega) (by intros; exact hF _ _ _ (by omega)) h⟩
  · have q := R0_scal h
    unfold RT_scal
    rw [v1, v2, hF 8 0 0 (by omega), hF 8 0 1 (by omega), hF 8 0 3 (by omega), hF 8 0 4 (by omega), hF 16 0 0 (by omega), hF 16 0 1 (by omega), hF 16 0 2 (by omega), hF 21 0 0 (by omega), hF 50 0 0 (by omega), hF 50 0 1 (by omega), hF 50 0 3 (by omega), hF 50 0 4 (by omega), hF 50 0 5 (by omega), hF 50 0 6 (by omega), hF 50 0 7 (by omega), hF 50 0 9 (by omega)]
    exact ⟨q.1, q.2.1, rfl, q.2.2.2⟩
  · unfold RT_rng
    rw [v2, hF 50 0 0 (by omega), hF 50 0 1 (by omega), hF 50 0 3 (by omega), hF 50 0 4 (by omega), hF 50 0 5 (by omega), hF 50 0 6 (by omega), hF 50 0 7 (by omega), hF 50 0 9 (by omega)]
    omega
  · intro i hi
    rw [v2] at hi
    show (c2 13 i 0 = _ ∧ c2 13 i 1 = _ ∧ c2 13 i 2 = _ ∧ c2 13 i 3 = _ ∧ c2 13 i 4 = _ ∧ c2 13 i 5 = _ ∧ c2 13 i 6 = _) ∧ _
    rw [hF 50 0 1 (by omega)]
    by_cases e : i = n
    · subst e
      rw [w0, w1, w2, w3, w4, w5, w6, x0, x1, x2, x3, x4, x5, x6, x7]
      exact ⟨⟨rfl, rfl, rfl, rfl, rfl, rfl, rfl⟩, hv.1, hv.2.1, hv.2.2.1, hv.2.2.2.1, hv.2.2.2.2, by decide, by decide, by decide, Or.inl rfl⟩
    · have q := R0_src h i (by omega)
      rw [o1 i 0 (by omega) (by omega), o1 i 1 (by omega) (by omega), o1 i 2 (by omega) (by omega), o1 i 3 (by omega) (by omega), o1 i 4 (by omega) (by omega), o1 i 5 (by omega) (by omega), o1 i 6 (by omega) (by omega), hF 51 19 i (by omega), hF 51 20 i (by omega), hF 51 21 i (by omega), hF 51 22 i (by omega), hF 51 23 i (by omega), hF 51 24 i (by omega), hF 51 25 i (by omega), hF 51 26 i (by omega)]
      exact q
  · have q := R0_off h
    rw [hn, Int.toNat_natCast] at q
    unfold RT_off
    rw [hF 8 0 5 (by omega), v2, q, show ((n : Int) + 1).toNat = n + 1 by omega]
    have e1 : mkN (fHand (c 51)) n = mkN (fHand (c2 51)) n := mkN_ext fun s hs => by
      unfold fHand
      rw [hF 51 26 s (by omega)]
    rw [e1]
    exact mkN_skip rfl (by unfold fHand; rw [x7]; rfl)
  · have e1 : ∀ q, q < n + 1 → c2 51 21 q = if q = n then t else c 51 21 q := fun q hq => by
      by_cases e : q = n
      · rw [if_pos e, e, x2]
      · rw [if_neg e, hF 51 21 q (by omega)]
    intro i hi
    rw [v2] at hi
    show c2 13 i 7 = _
    rw [v2, show ((n : Int) + 1).toNat = n + 1 by omega]
    by_cases e : i = n
    · subst e
      rw [o3, x2]
      have e2 : mkN (fun j => fBeat t (c 51 21 j)) i = mkN (fun j => fBeat t (c2 51 21 j)) i := mkN_ext fun s hs => by
        rw [hF 51 21 s (by omega)]
      rw [e2]
      refine mkN_skip rfl ?_
      show fBeat t (c2 51 21 i) = false
      rw [x2]
      exact decide_eq_false (by omega)
    · rw [o2 i (by omega), hF 51 21 i (by omega)]
      refine congrArg Nat.cast (mkN_ext fun s hs => ?_)
      rw [e1 s hs]
theorem rx_press {c c2 : tC} {n k : Nat} {p a : Int} {l : List (Int × Int)} (h : RX c) (hF : ∀ g i j, ¬ (((17 ≤ g ∧ g ≤ 20) ∧ i = 0 ∧ k ≤ j) ∨ (g = 16 ∧ i = 0 ∧ j ≤ 1) ∨ (g = 51 ∧ (27 ≤ i ∧ i ≤ 31) ∧ n ≤ j) ∨ (g = 50 ∧ i = 0 ∧ (j = 3 ∨ j = 9))) → c2 g i j = c g i j) (hn : c 50 0 3 = (n : Int)) (hk : c 50 0 9 = (k : Int)) (hl : n + l.length ≤ 60) (v1 : c2 16 0 0 = (k : Int) + ((l.length : Nat) : Int)) (v2 : c2 16 0 1 = (n : Int) + ((l.length : Nat) : Int)) (v3 : c2 50 0 3 = (n : Int) + ((l.length : Nat) : Int)) (v4 : c2 50 0 9 = (k : Int) + ((l.length : Nat) : Int)) (w : ∀ j, j < l.length → c2 17 0 (k + j) = p ∧ c2 18 0 (k + j) = (l.getD j (0, 0)).1 ∧ c2 19 0 (k + j) = a ∧ c2 20 0 (k + j) = (l.getD j (0, 0)).2) (x : ∀ j, j < l.length → c2 51 27 (n + j) = p ∧ c2 51 28 (n + j) = (l.getD j (0, 0)).1 ∧ c2 51 29 (n + j) = a ∧ c2 51 30 (n + j) = (l.getD j (0, 0)).2 ∧ c2 51 31 (n + j) = (k : Int) + (j : Int)) (hp : 0 ≤ p ∧ p < c 50 0 1) (ha : 0 ≤ a ∧ a ≤ 63) (hv : ∀ j, j < l.length → (0 ≤ (l.getD j (0, 0)).1 ∧ (l.getD j (0, 0)).1 ≤ 239) ∧ ((l.getD j (0, 0)).2 = 0 ∨ (l.getD j (0, 0)).2 = 1)) : RX c2 := by
  have g := R0_rng h
  refine ⟨?_, ?_, tr_per (by intros; exact hF _ _ _ (by omega)) (by intros; exact hF _ _ _ (by omega)) (by intros; exact hF _ _ _ (by omega)) h, tr_src (by intros; exact hF _ _ _ (by omega)) (by intros; exact hF _ _ _ (by omega)) (by first | (rw [hF _ _ _ (by omega)]; exact Int.le_refl _) | omega) (by intros; exact hF _ _ _ (by omega)) h, tr_off (by intros; exact hF _ _ _ (by omega)) (by intros; exact hF _ _ _ (by omega)) (by intros; exact hF _ _ _ (by omega)) h, tr_beat (by intros; exact hF _ _ _ (by omega)) (by intros; exact hF _ _ _ (by omega)) (by intros; exact hF _ _ _ (by omega)) h, tr_law (by intros; exact hF _ _ _ (by omega)) (by intros; exact hF _ _ _ (by omega)) h, tr_size (by intros; exact hF _ _ _ (by omega)) (by intros; exact hF _ _ _ (by omega)) h, tr_storm (by intros; exact hF _ _ _ (by omega)) (by intros; exact hF _ _ _ (by omega)) h, tr_plan (by intros; exact hF _ _ _ (by omega)) (by intros; exact hF _ _ _ (by omega)) (by intros; exact hF _ _ _ (by omega)) (by first | (rw [hF _ _ _ (by omega)]; exact Int.le_refl _) | omega) (by intros; exact hF _ _ _ (by omega)) (by intros; exact hF _ _ _ (by omega)) h, ?_, ?_, tr_match (by intros; exact hF _ _ _ (by omega)) (by intros; exact hF _ _ _ (by omega)) (by first | (rw [hF _ _ _ (by omega)]; exact Int.le_refl _) | omega) (by first | (rw [hF _ _ _ (by omega)]; exact Int.le_refl _) | omega) (by intros; exact hF _ _ _ (by omega)) h, tr_mmon (by intros; exact hF _ _ _ (by omega)) (by intros; exact hF _ _ _ (by omega)) h, ?_, tr_let (by intros; exact hF _ _ _ (by omega)) (by intros; exact hF _ _ _ (by omega)) (by first | (rw [hF _ _ _ (by omega)]; exact Int.le_refl _) | omega) (by intros; exact hF _ _ _ (by omega)) h⟩
  · have q := R0_scal h
    unfold RT_scal
    rw [v1, v2, v3, v4, hF 8 0 0 (by omega), hF 8 0 1 (by omega), hF 8 0 2 (by omega), hF 8 0 3 (by omega), hF 8 0 4 (by omega), hF 16 0 2 (by omega), hF 21 0 0 (by omega), hF 50 0 0 (by omega), hF 50 0 1 (by omega), hF 50 0 2 (by omega), hF 50 0 4 (by omega), hF 50 0 5 (by omega), hF 50 0 6 (by omega), hF 50 0 7 (by omega)]
    exact ⟨q.1, q.2.1, q.2.2.1, q.2.2.2.1, q.2.2.2.2.1, rfl, rfl, q.2.2.2.2.2.2.2⟩
  · unfold RT_rng
    rw [v3, v4, hF 50 0 0 (by omega), hF 50 0 1 (by omega), hF 50 0 2 (by omega), hF 50 0 4 (by omega), hF 50 0 5 (by omega), hF 50 0 6 (by omega), hF 50 0 7 (by omega)]
    omega
  · intro i hi
    rw [v3] at hi
    rw [hF 50 0 1 (by omega), v4]
    by_cases e : i < n
    · have q := R0_press h i (by omega)
      have b : (c 51 31 i).toNat < k := by omega
      rw [hF 51 27 i (by omega), hF 51 28 i (by omega), hF 51 29 i (by omega), hF 51 30 i (by omega), hF 51 31 i (by omega), hF 17 0 _ (by omega), hF 18 0 _ (by omega), hF 19 0 _ (by omega), hF 20 0 _ (by omega)]
      exact ⟨q.1, ⟨q.2.1.1, by omega⟩, q.2.2⟩
    · obtain ⟨j, rfl⟩ : ∃ j, i = n + j := ⟨i - n, by omega⟩
      have hj : j < l.length := by omega
      have wj := w j hj
      have xj := x j hj
      have vj := hv j hj
      rw [xj.1, xj.2.1, xj.2.2.1, xj.2.2.2.1, xj.2.2.2.2, show ((k : Int) + (j : Int)).toNat = k + j by omega, wj.1, wj.2.1, wj.2.2.1, wj.2.2.2]
      exact ⟨⟨rfl, rfl, rfl, rfl⟩, ⟨by omega, by omega⟩, hp, vj.1, ha, vj.2⟩
  · intro i j hij hj
    rw [v3] at hj
    by_cases e : j < n
    · rw [hF 51 31 i (by omega), hF 51 31 j (by omega)]
      exact R0_pmon h i j hij (by omega)
    · obtain ⟨b, rfl⟩ : ∃ b, j = n + b := ⟨j - n, by omega⟩
      rw [(x b (by omega)).2.2.2.2]
      by_cases e2 : i < n
      · have q := R0_press h i (by omega)
        rw [hF 51 31 i (by omega)]
        omega
      · obtain ⟨a2, rfl⟩ : ∃ a2, i = n + a2 := ⟨i - n, by omega⟩
        rw [(x a2 (by omega)).2.2.2.2]
        omega
  · intro y hy hy2
    rw [v4] at hy2
    rw [v3, hF 50 0 4 (by omega)]
    by_cases e : y < (k : Int)
    · rcases R0_came h y hy (by omega) with ⟨i, a1, b1⟩ | ⟨i, a1, b1⟩
      · exact Or.inl ⟨i, by omega, by rw [hF 51 31 i (by omega)]; exact b1⟩
      · exact Or.inr ⟨i, a1, by rw [hF 51 34 i (by omega)]; exact b1⟩
    · refine Or.inl ⟨n + (y - k).toNat, by omega, ?_⟩
      rw [(x (y - k).toNat (by omega)).2.2.2.2]
      omega
theorem rx_match {c c2 : tC} {n k : Nat} {p t : Int} (h : RX c) (hF : ∀ g i j, ¬ (((17 ≤ g ∧ g ≤ 20) ∧ i = 0 ∧ j = k) ∨ (g = 16 ∧ i = 0 ∧ (j = 0 ∨ j = 2)) ∨ (g = 51 ∧ (32 ≤ i ∧ i ≤ 34) ∧ j = n) ∨ (g = 50 ∧ i = 0 ∧ (j = 4 ∨ j = 9))) → c2 g i j = c g i j) (hn : c 50 0 4 = (n : Int)) (hk : c 50 0 9 = (k : Int)) (hl : n < 20) (v1 : c2 16 0 0 = (k : Int) + 1) (v2 : c2 16 0 2 = (n : Int) + 1) (v3 : c2 50 0 4 = (n : Int) + 1) (v4 : c2 50 0 9 = (k : Int) + 1) (w0 : c2 17 0 k = p) (w1 : c2 18 0 k = -1) (w2 : c2 20 0 k = t) (x0 : c2 51 32 n = p) (x1 : c2 51 33 n = t) (x2 : c2 51 34 n = (k : Int)) (hp : 0 ≤ p ∧ p < c 50 0 1) (ht : 20 ≤ t ∧ t ≤ 99) : RX c2 := by
  have g := R0_rng h
  refine ⟨?_, ?_, tr_per (by intros; exact hF _ _ _ (by omega)) (by intros; exact hF _ _ _ (by omega)) (by intros; exact hF _ _ _ (by omega)) h, tr_src (by intros; exact hF _ _ _ (by omega)) (by intros; exact hF _ _ _ (by omega)) (by first | (rw [hF _ _ _ (by omega)]; exact Int.le_refl _) | omega) (by intros; exact hF _ _ _ (by omega)) h, tr_off (by intros; exact hF _ _ _ (by omega)) (by intros; exact hF _ _ _ (by omega)) (by intros; exact hF _ _ _ (by omega)) h, tr_beat (by intros; exact hF _ _ _ (by omega)) (by intros; exact hF _ _ _ (by omega)) (by intros; exact hF _ _ _ (by omega)) h, tr_law (by intros; exact hF _ _ _ (by omega)) (by intros; exact hF _ _ _ (by omega)) h, tr_size (by intros; exact hF _ _ _ (by omega)) (by intros; exact hF _ _ _ (by omega)) h, tr_storm (by intros; exact hF _ _ _ (by omega)) (by intros; exact hF _ _ _ (by omega)) h, tr_plan (by intros; exact hF _ _ _ (by omega)) (by intros; exact hF _ _ _ (by omega)) (by intros; exact hF _ _ _ (by omega)) (by first | (rw [hF _ _ _ (by omega)]; exact Int.le_refl _) | omega) (by intros; exact hF _ _ _ (by omega)) (by intros; exact hF _ _ _ (by omega)) h, tr_press (by intros; exact hF _ _ _ (by omega)) (by intros; exact hF _ _ _ (by omega)) (by first | (rw [hF _ _ _ (by omega)]; exact Int.le_refl _) | omega) (by first | (rw [hF _ _ _ (by omega)]; exact Int.le_refl _) | omega) (by intros; exact hF _ _ _ (by omega)) h, tr_pmon (by intros; exact hF _ _ _ (by omega)) (by intros; exact hF _ _ _ (by omega)) h, ?_, ?_, ?_, tr_let (by intros; exact hF _ _ _ (by omega)) (by intros; exact hF _ _ _ (by omega)) (by first | (rw [hF _ _ _ (by omega)]; exact Int.le_refl _) | omega) (by intros; exact hF _ _ _ (by omega)) h⟩
  · have q := R0_scal h
    unfold RT_scal
    rw [v1, v2, v3, v4, hF 8 0 0 (by omega), hF 8 0 1 (by omega), hF 8 0 2 (by omega), hF 8 0 3 (by omega), hF 8 0 4 (by omega), hF 16 0 1 (by omega), hF 21 0 0 (by omega), hF 50 0 0 (by omega), hF 50 0 1 (by omega), hF 50 0 2 (by omega), hF 50 0 3 (by omega), hF 50 0 5 (by omega), hF 50 0 6 (by omega), hF 50 0 7 (by omega)]
    exact ⟨q.1, q.2.1, q.2.2.1, q.2.2.2.1, q.2.2.2.2.1, rfl, q.2.2.2.2.2.2.1, rfl, q.2.2.2.2.2.2.2.2⟩
  · unfold RT_rng
    rw [v3, v4, hF 50 0 0 (by omega), hF 50 0 1 (by omega), hF 50 0 2 (by omega), hF 50 0 3 (by omega), hF 50 0 5 (by omega), hF 50 0 6 (by omega), hF 50 0 7 (by omega)]
    omega
  · intro i hi
    rw [v3] at hi
    rw [hF 50 0 1 (by omega), v4]
    by_cases e : i = n
    · rw [e, x0, x1, x2, Int.toNat_natCast, w0, w1, w2]
      exact ⟨⟨rfl, rfl, rfl⟩, ⟨by omega, by omega⟩, hp, ht⟩
    · have q := R0_match h i (by omega)
      have b : (c 51 34 i).toNat < k := by omega
      rw [hF 51 32 i (by omega), hF 51 33 i (by omega), hF 51 34 i (by omega), hF 17 0 _ (by omega), hF 18 0 _ (by omega), hF 20 0 _ (by omega)]
      exact ⟨q.1, ⟨q.2.1.1, by omega⟩, q.2.2⟩
  · intro i j hij hj
    rw [v3] at hj
    rw [hF 51 34 i (by omega)]
    by_cases e : j = n
    · have q := R0_match h i (by omega)
      rw [e, x2]
      omega
    · rw [hF 51 34 j (by omega)]
      exact R0_mmon h i j hij (by omega)
  · intro y hy hy2
    rw [v4] at hy2
    rw [v3, hF 50 0 3 (by omega)]
    by_cases e : y < (k : Int)
    · rcases R0_came h y hy (by omega) with ⟨i, a1, b1⟩ | ⟨i, a1, b1⟩
      · exact Or.inl ⟨i, a1, by rw [hF 51 31 i (by omega)]; exact b1⟩
      · exact Or.inr ⟨i, by omega, by rw [hF 51 34 i (by omega)]; exact b1⟩
    · exact Or.inr ⟨n, by omega, by rw [x2]; omega⟩
theorem rx_letter {c c2 : tC} {n : Nat} {p y t : Int} (h : RX c) (hF : ∀ g i j, ¬ (((22 ≤ g ∧ g ≤ 24) ∧ i = 0 ∧ j = n) ∨ (g = 21 ∧ i = 0 ∧ j = 0) ∨ (g = 51 ∧ (35 ≤ i ∧ i ≤ 37) ∧ j = n) ∨ (g = 50 ∧ i = 0 ∧ j = 5)) → c2 g i j = c g i j) (hn : c 50 0 5 = (n : Int)) (hl : n < 30) (v1 : c2 21 0 0 = (n : Int) + 1) (v3 : c2 50 0 5 = (n : Int) + 1) (w0 : c2 22 0 n = p) (w1 : c2 23 0 n = y) (w2 : c2 24 0 n = t) (x0 : c2 51 35 n = p) (x1 : c2 51 36 n = y) (x2 : c2 51 37 n = t) (hp : 0 ≤ p ∧ p < c 50 0 1) (hy : 0 ≤ y ∧ y ≤ 239) (ht : 0 ≤ t ∧ t ≤ y) : RX c2 := by
  have g := R0_rng h
  refine ⟨?_, ?_, tr_per (by intros; exact hF _ _ _ (by omega)) (by intros; exact hF _ _ _ (by omega)) (by intros; exact hF _ _ _ (by omega)) h, tr_src (by intros; exact hF _ _ _ (by omega)) (by intros; exact hF _ _ _ (by omega)) (by first | (rw [hF _ _ _ (by omega)]; exact Int.le_refl _) | omega) (by intros; exact hF _ _ _ (by omega)) h, tr_off (by intros; exact hF _ _ _ (by omega)) (by intros; exact hF _ _ _ (by omega)) (by intros; exact hF _ _ _ (by omega)) h, tr_beat (by intros; exact hF _ _ _ (by omega)) (by intros; exact hF _ _ _ (by omega)) (by intros; exact hF _ _ _ (by omega)) h, tr_law (by intros; exact hF _ _ _ (by omega)) (by intros; exact hF _ _ _ (by omega)) h, tr_size (by intros; exact hF _ _ _ (by omega)) (by intros; exact hF _ _ _ (by omega)) h, tr_storm (by intros; exact hF _ _ _ (by omega)) (by intros; exact hF _ _ _ (by omega)) h, tr_plan (by intros; exact hF _ _ _ (by omega)) (by intros; exact hF _ _ _ (by omega)) (by intros; exact hF _ _ _ (by omega)) (by first | (rw [hF _ _ _ (by omega)]; exact Int.le_refl _) | omega) (by intros; exact hF _ _ _ (by omega)) (by intros; exact hF _ _ _ (by omega)) h, tr_press (by intros; exact hF _ _ _ (by omega)) (by intros; exact hF _ _ _ (by omega)) (by first | (rw [hF _ _ _ (by omega)]; exact Int.le_refl _) | omega) (by first | (rw [hF _ _ _ (by omega)]; exact Int.le_refl _) | omega) (by intros; exact hF _ _ _ (by omega)) h, tr_pmon (by intros; exact hF _ _ _ (by omega)) (by intros; exact hF _ _ _ (by omega)) h, tr_match (by intros; exact hF _ _ _ (by omega)) (by intros; exact hF _ _ _ (by omega)) (by first | (rw [hF _ _ _ (by omega)]; exact Int.le_refl _) | omega) (by first | (rw [hF _ _ _ (by omega)]; exact Int.le_refl _) | omega) (by intros; exact hF _ _ _ (by omega)) h, tr_mmon (by intros; exact hF _ _ _ (by omega)) (by intros; exact hF _ _ _ (by omega)) h, tr_came (by intros; exact hF _ _ _ (by omega)) (by intros; exact hF _ _ _ (by omega)) (by intros; exact hF _ _ _ (by omega)) (by intros; exact hF _ _ _ (by omega)) (by intros; exact hF _ _ _ (by omega)) h, ?_⟩
  · have q := R0_scal h
    unfold RT_scal
    rw [v1, v3, hF 8 0 0 (by omega), hF 8 0 1 (by omega), hF 8 0 2 (by omega), hF 8 0 3 (by omega), hF 8 0 4 (by omega), hF 16 0 0 (by omega), hF 16 0 1 (by omega), hF 16 0 2 (by omega), hF 50 0 0 (by omega), hF 50 0 1 (by omega), hF 50 0 2 (by omega), hF 50 0 3 (by omega), hF 50 0 4 (by omega), hF 50 0 6 (by omega), hF 50 0 7 (by omega), hF 50 0 9 (by omega)]
    exact ⟨q.1, q.2.1, q.2.2.1, q.2.2.2.1, q.2.2.2.2.1, q.2.2.2.2.2.1, q.2.2.2.2.2.2.1, q.2.2.2.2.2.2.2.1, rfl⟩
  · unfold RT_rng
    rw [v3, hF 50 0 0 (by omega), hF 50 0 1 (by omega), hF 50 0 2 (by omega), hF 50 0 3 (by omega), hF 50 0 4 (by omega), hF 50 0 6 (by omega), hF 50 0 7 (by omega), hF 50 0 9 (by omega)]
    omega
  · intro i hi
    rw [v3] at hi
    rw [hF 50 0 1 (by omega)]
    by_cases e : i = n
    · rw [e, w0, w1, w2, x0, x1, x2]
      exact ⟨⟨rfl, rfl, rfl⟩, hp, hy, ht⟩
    · have q := R0_let h i (by omega)
      rw [hF 22 0 i (by omega), hF 23 0 i (by omega), hF 24 0 i (by omega), hF 51 35 i (by omega), hF 51 36 i (by omega), hF 51 37 i (by omega)]
      exact q
theorem fFo_rng {l : List (Nat × Int)} : ∀ {f : Nat → Int}, (∀ x ∈ l, x.1 < 6 ∧ lwl x.1 ≤ x.2 ∧ x.2 ≤ lwh x.1) → (∀ j, j < 6 → lwl j ≤ f j ∧ f j ≤ lwh j) → ∀ j, j < 6 → lwl j ≤ fFo f l j ∧ fFo f l j ≤ lwh j := by
  induction l with
  | nil => intro f _ hf j hj; exact hf j hj
  | cons x l ih =>
    intro f hl hf j hj
    refine ih (f := fun j => if j = x.1 then x.2 else f j) (fun y hy => hl y (List.mem_cons_of_mem _ hy)) (fun i hi => ?_) j hj
    have hx := hl x List.mem_cons_self
    show lwl i ≤ (if i = x.1 then x.2 else f i) ∧ (if i = x.1 then x.2 else f i) ≤ lwh i
    by_cases e : i = x.1
    · rw [if_pos e, e]; exact hx.2
    · rw [if_neg e]; exact hf i hi
theorem fFo_eq {l : List (Nat × Int)} {j : Nat} : ∀ {f g : Nat → Int}, f j = g j → fFo f l j = fFo g l j := by
  induction l with
  | nil => intro f g h; exact h
  | cons x l ih =>
    intro f g h
    refine ih (f := fun j => if j = x.1 then x.2 else f j) (g := fun j => if j = x.1 then x.2 else g j) ?_
    show (if j = x.1 then x.2 else f j) = if j = x.1 then x.2 else g j
    rw [h]
theorem rx_laws {c c2 : tC} {f : Nat → Int} (h : RX c) (hF : ∀ g i j, ¬ ((g = 27 ∧ i = 0 ∧ j < 6) ∨ (g = 51 ∧ i = 11 ∧ j < 6) ∨ (30 ≤ g ∧ g ≤ 32) ∨ (i = 16 ∧ PG g) ∨ (g = 50 ∧ i = 0 ∧ (j = 8 ∨ (50 ≤ j ∧ j ≤ 56))) ∨ (g = 51 ∧ 57 ≤ i ∧ i ≤ 63)) → c2 g i j = c g i j) (v1 : ∀ j, j < 6 → c2 27 0 j = f j) (v2 : ∀ j, j < 6 → c2 51 11 j = f j) (hv : ∀ j, j < 6 → lwl j ≤ f j ∧ f j ≤ lwh j) : RX c2 := by
  have g := R0_rng h
  refine ⟨tr_scal (by intros; exact hF _ _ _ (by omega)) (by intros; exact hF _ _ _ (by omega)) (by intros; exact hF _ _ _ (by omega)) (by intros; exact hF _ _ _ (by omega)) h, tr_rng (by intros; exact hF _ _ _ (by omega)) h, tr_per (by intros; exact hF _ _ _ (by omega)) (by intros; exact hF _ _ _ (by omega)) (by intros; exact hF _ _ _ (by omega)) h, tr_src (by intros; exact hF _ _ _ (by omega)) (by intros; exact hF _ _ _ (by omega)) (by first | (rw [hF _ _ _ (by omega)]; exact Int.le_refl _) | omega) (by intros; exact hF _ _ _ (by omega)) h, tr_off (by intros; exact hF _ _ _ (by omega)) (by intros; exact hF _ _ _ (by omega)) (by intros; exact hF _ _ _ (by omega)) h, tr_beat (by intros; exact hF _ _ _ (by omega)) (by intros; exact hF _ _ _ (by omega)) (by intros; exact hF _ _ _ (by omega)) h, ?_, tr_size (by intros; exact hF _ _ _ (by omega)) (by intros; exact hF _ _ _ (by omega)) h, tr_storm (by intros; exact hF _ _ _ (by omega)) (by intros; exact hF _ _ _ (by omega)) h, tr_plan (by intros; exact hF _ _ _ (by omega)) (by intros; exact hF _ _ _ (by omega)) (by intros; exact hF _ _ _ (by omega)) (by first | (rw [hF _ _ _ (by omega)]; exact Int.le_refl _) | omega) (by intros; exact hF _ _ _ (by omega)) (by intros; exact hF _ _ _ (by omega)) h, tr_press (by intros; exact hF _ _ _ (by omega)) (by intros; exact hF _ _ _ (by omega)) (by first | (rw [hF _ _ _ (by omega)]; exact Int.le_refl _) | omega) (by first | (rw [hF _ _ _ (by omega)]; exact Int.le_refl _) | omega) (by intros; exact hF _ _ _ (by omega)) h, tr_pmon (by intros; exact hF _ _ _ (by omega)) (by intros; exact hF _ _ _ (by omega)) h, tr_match (by intros; exact hF _ _ _ (by omega)) (by intros; exact hF _ _ _ (by omega)) (by first | (rw [hF _ _ _ (by omega)]; exact Int.le_refl _) | omega) (by first | (rw [hF _ _ _ (by omega)]; exact Int.le_refl _) | omega) (by intros; exact hF _ _ _ (by omega)) h, tr_mmon (by intros; exact hF _ _ _ (by omega)) (by intros; exact hF _ _ _ (by omega)) h, tr_came (by intros; exact hF _ _ _ (by omega)) (by intros; exact hF _ _ _ (by omega)) (by intros; exact hF _ _ _ (by omega)) (by intros; exact hF _ _ _ (by omega)) (by intros; exact hF _ _ _ (by omega)) h, tr_let (by intros; exact hF _ _ _ (by omega)) (by intros; exact hF _ _ _ (by omega)) (by first | (rw [hF _ _ _ (by omega)]; exact Int.le_refl _) | omega) (by intros; exact hF _ _ _ (by omega)) h⟩
  · unfold RT_law
    rw [v1 0 (by omega), v1 1 (by omega), v1 2 (by omega), v1 3 (by omega), v1 4 (by omega), v1 5 (by omega), v2 0 (by omega), v2 1 (by omega), v2 2 (by omega), v2 3 (by omega), v2 4 (by omega), v2 5 (by omega)]
    exact ⟨⟨rfl, rfl, rfl, rfl, rfl, rfl⟩, hv 0 (by omega), hv 1 (by omega), hv 2 (by omega), hv 3 (by omega), hv 4 (by omega), hv 5 (by omega)⟩
theorem rx_text {c c2 : tC}  (h : RX c) (hF : ∀ g i j, ¬ ((30 ≤ g ∧ g ≤ 32) ∨ (i = 16 ∧ PG g) ∨ (g = 50 ∧ i = 0 ∧ (j = 8 ∨ (50 ≤ j ∧ j ≤ 56))) ∨ (g = 51 ∧ 57 ≤ i ∧ i ≤ 63)) → c2 g i j = c g i j)  : RX c2 := by
  have g := R0_rng h
  refine ⟨tr_scal (by intros; exact hF _ _ _ (by omega)) (by intros; exact hF _ _ _ (by omega)) (by intros; exact hF _ _ _ (by omega)) (by intros; exact hF _ _ _ (by omega)) h, tr_rng (by intros; exact hF _ _ _ (by omega)) h, tr_per (by intros; exact hF _ _ _ (by omega)) (by intros; exact hF _ _ _ (by omega)) (by intros; exact hF _ _ _ (by omega)) h, tr_src (by intros; exact hF _ _ _ (by omega)) (by intros; exact hF _ _ _ (by omega)) (by first | (rw [hF _ _ _ (by omega)]; exact Int.le_refl _) | omega) (by intros; exact hF _ _ _ (by omega)) h, tr_off (by intros; exact hF _ _ _ (by omega)) (by intros; exact hF _ _ _ (by omega)) (by intros; exact hF _ _ _ (by omega)) h, tr_beat (by intros; exact hF _ _ _ (by omega)) (by intros; exact hF _ _ _ (by omega)) (by intros; exact hF _ _ _ (by omega)) h, tr_law (by intros; exact hF _ _ _ (by omega)) (by intros; exact hF _ _ _ (by omega)) h, tr_size (by intros; exact hF _ _ _ (by omega)) (by intros; exact hF _ _ _ (by omega)) h, tr_storm (by intros; exact hF _ _ _ (by omega)) (by intros; exact hF _ _ _ (by omega)) h, tr_plan (by intros; exact hF _ _ _ (by omega)) (by intros; exact hF _ _ _ (by omega)) (by intros; exact hF _ _ _ (by omega)) (by first | (rw [hF _ _ _ (by omega)]; exact Int.le_refl _) | omega) (by intros; exact hF _ _ _ (by omega)) (by intros; exact hF _ _ _ (by omega)) h, tr_press (by intros; exact hF _ _ _ (by omega)) (by intros; exact hF _ _ _ (by omega)) (by first | (rw [hF _ _ _ (by omega)]; exact Int.le_refl _) | omega) (by first | (rw [hF _ _ _ (by omega)]; exact Int.le_refl _) | omega) (by intros; exact hF _ _ _ (by omega)) h, tr_pmon (by intros; exact hF _ _ _ (by omega)) (by intros; exact hF _ _ _ (by omega)) h, tr_match (by intros; exact hF _ _ _ (by omega)) (by intros; exact hF _ _ _ (by omega)) (by first | (rw [hF _ _ _ (by omega)]; exact Int.le_refl _) | omega) (by first | (rw [hF _ _ _ (by omega)]; exact Int.le_refl _) | omega) (by intros; exact hF _ _ _ (by omega)) h, tr_mmon (by intros; exact hF _ _ _ (by omega)) (by intros; exact hF _ _ _ (by omega)) h, tr_came (by intros; exact hF _ _ _ (by omega)) (by intros; exact hF _ _ _ (by omega)) (by intros; exact hF _ _ _ (by omega)) (by intros; exact hF _ _ _ (by omega)) (by intros; exact hF _ _ _ (by omega)) h, tr_let (by intros; exact hF _ _ _ (by omega)) (by intros; exact hF _ _ _ (by omega)) (by first | (rw [hF _ _ _ (by omega)]; exact Int.le_refl _) | omega) (by intros; exact hF _ _ _ (by omega)) h⟩
theorem rx_plan {c c2 : tC} {m : Nat} {l : List tI} (h : RX c) (hF : ∀ g i j, ¬ ((PG g ∧ i = m) ∨ (g = 8 ∧ i = 0 ∧ j = 3) ∨ (g = 50 ∧ i = 0 ∧ j = 6) ∨ (g = 51 ∧ i = 38 ∧ j = m) ∨ (g = 51 ∧ (39 ≤ i ∧ i ≤ 43) ∧ 8 * m ≤ j ∧ j < 8 * m + 8) ∨ (30 ≤ g ∧ g ≤ 32) ∨ (i = 16 ∧ PG g) ∨ (g = 50 ∧ i = 0 ∧ (j = 8 ∨ (50 ≤ j ∧ j ≤ 56))) ∨ (g = 51 ∧ 57 ≤ i ∧ i ≤ 63)) → c2 g i j = c g i j) (hm : c 50 0 6 = (m : Int)) (hm8 : m < 8) (hl : l.length ≤ 8) (v1 : c2 8 0 3 = (m : Int) + 1) (v2 : c2 50 0 6 = (m : Int) + 1) (w : PK c2 m l) (x : PM c2 m l) (hv : ∀ j, j < l.length → xOk (c 50 0 2) (l.getD j (0, 0, 0, 0, 0))) : RX c2 := by
  have g := R0_rng h
  refine ⟨?_, ?_, tr_per (by intros; exact hF _ _ _ (by omega)) (by intros; exact hF _ _ _ (by omega)) (by intros; exact hF _ _ _ (by omega)) h, tr_src (by intros; exact hF _ _ _ (by omega)) (by intros; exact hF _ _ _ (by omega)) (by first | (rw [hF _ _ _ (by omega)]; exact Int.le_refl _) | omega) (by intros; exact hF _ _ _ (by omega)) h, tr_off (by intros; exact hF _ _ _ (by omega)) (by intros; exact hF _ _ _ (by omega)) (by intros; exact hF _ _ _ (by omega)) h, tr_beat (by intros; exact hF _ _ _ (by omega)) (by intros; exact hF _ _ _ (by omega)) (by intros; exact hF _ _ _ (by omega)) h, tr_law (by intros; exact hF _ _ _ (by omega)) (by intros; exact hF _ _ _ (by omega)) h, tr_size (by intros; exact hF _ _ _ (by omega)) (by intros; exact hF _ _ _ (by omega)) h, tr_storm (by intros; exact hF _ _ _ (by omega)) (by intros; exact hF _ _ _ (by omega)) h, ?_, tr_press (by intros; exact hF _ _ _ (by omega)) (by intros; exact hF _ _ _ (by omega)) (by first | (rw [hF _ _ _ (by omega)]; exact Int.le_refl _) | omega) (by first | (rw [hF _ _ _ (by omega)]; exact Int.le_refl _) | omega) (by intros; exact hF _ _ _ (by omega)) h, tr_pmon (by intros; exact hF _ _ _ (by omega)) (by intros; exact hF _ _ _ (by omega)) h, tr_match (by intros; exact hF _ _ _ (by omega)) (by intros; exact hF _ _ _ (by omega)) (by first | (rw [hF _ _ _ (by omega)]; exact Int.le_refl _) | omega) (by first | (rw [hF _ _ _ (by omega)]; exact Int.le_refl _) | omega) (by intros; exact hF _ _ _ (by omega)) h, tr_mmon (by intros; exact hF _ _ _ (by omega)) (by intros; exact hF _ _ _ (by omega)) h, tr_came (by intros; exact hF _ _ _ (by omega)) (by intros; exact hF _ _ _ (by omega)) (by intros; exact hF _ _ _ (by omega)) (by intros; exact hF _ _ _ (by omega)) (by intros; exact hF _ _ _ (by omega)) h, tr_let (by intros; exact hF _ _ _ (by omega)) (by intros; exact hF _ _ _ (by omega)) (by first | (rw [hF _ _ _ (by omega)]; exact Int.le_refl _) | omega) (by intros; exact hF _ _ _ (by omega)) h⟩
  · have q := R0_scal h
    unfold RT_scal
    rw [v1, v2, hF 8 0 0 (by omega), hF 8 0 1 (by omega), hF 8 0 2 (by omega), hF 8 0 4 (by omega), hF 16 0 0 (by omega), hF 16 0 1 (by omega), hF 16 0 2 (by omega), hF 21 0 0 (by omega), hF 50 0 0 (by omega), hF 50 0 1 (by omega), hF 50 0 2 (by omega), hF 50 0 3 (by omega), hF 50 0 4 (by omega), hF 50 0 5 (by omega), hF 50 0 7 (by omega), hF 50 0 9 (by omega)]
    exact ⟨q.1, q.2.1, q.2.2.1, rfl, q.2.2.2.2⟩
  · unfold RT_rng
    rw [v2, hF 50 0 0 (by omega), hF 50 0 1 (by omega), hF 50 0 2 (by omega), hF 50 0 3 (by omega), hF 50 0 4 (by omega), hF 50 0 5 (by omega), hF 50 0 7 (by omega), hF 50 0 9 (by omega)]
    omega
  · intro p hp
    rw [v2] at hp
    show c2 14 p 0 = _ ∧ _
    by_cases e : p = m
    · subst e
      refine ⟨w.1.trans x.1.symm, by rw [x.1]; omega, fun k hk => ?_⟩
      rw [x.1] at hk
      have wk := w.2 k (by omega)
      have xk := x.2 k (by omega)
      obtain ⟨a1, a2, a3, a4⟩ := hv k (by omega)
      show (c2 41 p k = _ ∧ c2 42 p k = _ ∧ c2 43 p k = _ ∧ c2 44 p k = _ ∧ c2 45 p k = _) ∧ _
      rw [wk.1, wk.2.1, wk.2.2.1, wk.2.2.2.1, wk.2.2.2.2, xk.1, xk.2.1, xk.2.2.1, xk.2.2.2.1, xk.2.2.2.2, hF 50 0 2 (by omega)]
      exact ⟨⟨rfl, rfl, rfl, rfl, rfl⟩, a2, a3, a4, a1⟩
    · exact tr_plan1 (p := p) (hF 14 p 0 (by omega)) (fun g j a b d => hF g p j (by omega)) (by omega) (by rw [hF 50 0 2 (by omega)]; exact Int.le_refl _) (hF 51 38 p (by omega)) (fun f j a b d e2 => hF 51 f j (by omega)) h
