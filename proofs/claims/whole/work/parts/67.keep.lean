/-! ===== what each part of the relation rests on ===== -/
abbrev sm (c c2 : tC) : Prop := ∀ j, j < 8 ∨ j = 9 → c2 50 0 j = c 50 0 j
theorem tr_scal {c c2 : tC} (h1 : ∀ j, j < 5 → c2 8 0 j = c 8 0 j) (h2 : ∀ j, j < 3 → c2 16 0 j = c 16 0 j) (h3 : c2 21 0 0 = c 21 0 0) (h4 : ∀ j, j < 8 ∨ j = 9 → c2 50 0 j = c 50 0 j) (h : RX c) : RT_scal c2 0 (c2 50 0) (c2 51) := by
  have a := h.1
  unfold RT_scal at *
  rw [h1 0 (by omega), h1 1 (by omega), h1 2 (by omega), h1 3 (by omega), h1 4 (by omega), h2 0 (by omega), h2 1 (by omega), h2 2 (by omega), h3, h4 0 (by omega), h4 1 (by omega), h4 2 (by omega), h4 3 (by omega), h4 4 (by omega), h4 5 (by omega), h4 6 (by omega), h4 7 (by omega), h4 9 (by omega)]
  exact a
theorem tr_rng {c c2 : tC} (h4 : ∀ j, j < 8 ∨ j = 9 → c2 50 0 j = c 50 0 j) (h : RX c) : RT_rng c2 0 (c2 50 0) (c2 51) := by
  have a := h.2.1
  unfold RT_rng at *
  rw [h4 0 (by omega), h4 1 (by omega), h4 2 (by omega), h4 3 (by omega), h4 4 (by omega), h4 5 (by omega), h4 6 (by omega), h4 7 (by omega), h4 9 (by omega)]
  exact a
theorem tr_per {c c2 : tC} (h1 : ∀ i j, i < 12 → j < 5 → c2 12 i j = c 12 i j) (h2 : c2 50 0 1 = c 50 0 1) (h3 : ∀ f i, 14 ≤ f → f ≤ 18 → i < 12 → c2 51 f i = c 51 f i) (h : RX c) : RT_per c2 0 (c2 50 0) (c2 51) := fun i hi => by
  rw [h2] at hi
  have g := R0_rng h
  have b : i < 12 := by omega
  have q := R0_per h i hi
  show (c2 12 i 0 = _ ∧ c2 12 i 1 = _ ∧ c2 12 i 2 = _ ∧ c2 12 i 3 = _ ∧ c2 12 i 4 = _) ∧ _
  rw [h1 i 0 b (by omega), h1 i 1 b (by omega), h1 i 2 b (by omega), h1 i 3 b (by omega), h1 i 4 b (by omega), h3 14 i (by omega) (by omega) b, h3 15 i (by omega) (by omega) b, h3 16 i (by omega) (by omega) b, h3 17 i (by omega) (by omega) b, h3 18 i (by omega) (by omega) b]
  exact q
theorem tr_src {c c2 : tC} (h1 : ∀ i j, i < 14 → j < 7 → c2 13 i j = c 13 i j) (h2 : c2 50 0 2 = c 50 0 2) (h2a : c 50 0 1 ≤ c2 50 0 1) (h3 : ∀ f i, 19 ≤ f → f ≤ 26 → i < 14 → c2 51 f i = c 51 f i) (h : RX c) : RT_src c2 0 (c2 50 0) (c2 51) := fun i hi => by
  rw [h2] at hi
  have g := R0_rng h
  have b : i < 14 := by omega
  have q := R0_src h i hi
  show (c2 13 i 0 = _ ∧ c2 13 i 1 = _ ∧ c2 13 i 2 = _ ∧ c2 13 i 3 = _ ∧ c2 13 i 4 = _ ∧ c2 13 i 5 = _ ∧ c2 13 i 6 = _) ∧ _
  rw [h1 i 0 b (by omega), h1 i 1 b (by omega), h1 i 2 b (by omega), h1 i 3 b (by omega), h1 i 4 b (by omega), h1 i 5 b (by omega), h1 i 6 b (by omega), h3 19 i (by omega) (by omega) b, h3 20 i (by omega) (by omega) b, h3 21 i (by omega) (by omega) b, h3 22 i (by omega) (by omega) b, h3 23 i (by omega) (by omega) b, h3 24 i (by omega) (by omega) b, h3 25 i (by omega) (by omega) b, h3 26 i (by omega) (by omega) b]
  exact ⟨q.1, q.2.1, q.2.2.1, fun z => by have := q.2.2.2.1 z; omega, q.2.2.2.2⟩
theorem tr_off {c c2 : tC} (h1 : c2 8 0 5 = c 8 0 5) (h2 : c2 50 0 2 = c 50 0 2) (h3 : ∀ i, i < 14 → c2 51 26 i = c 51 26 i) (h : RX c) : RT_off c2 0 (c2 50 0) (c2 51) := by
  have g := R0_rng h
  have q := R0_off h
  unfold RT_off
  rw [h1, h2]
  refine Eq.trans q (congrArg Nat.cast (mkN_ext fun s hs => ?_))
  unfold fHand
  rw [h3 s (by omega)]
theorem tr_beat {c c2 : tC} (h1 : ∀ i, i < 14 → c2 13 i 7 = c 13 i 7) (h2 : c2 50 0 2 = c 50 0 2) (h3 : ∀ i, i < 14 → c2 51 21 i = c 51 21 i) (h : RX c) : RT_beat c2 0 (c2 50 0) (c2 51) := fun i hi => by
  rw [h2] at hi
  have g := R0_rng h
  have q := R0_beat h i hi
  show c2 13 i 7 = _
  rw [h1 i (by omega), h2, h3 i (by omega)]
  refine Eq.trans q (congrArg Nat.cast (mkN_ext fun s hs => ?_))
  rw [h3 s (by omega)]
theorem tr_law {c c2 : tC} (h1 : ∀ j, j < 6 → c2 27 0 j = c 27 0 j) (h3 : ∀ j, j < 6 → c2 51 11 j = c 51 11 j) (h : RX c) : RT_law c2 0 (c2 50 0) (c2 51) := by
  have q := R0_law h
  unfold RT_law
  rw [h1 0 (by omega), h1 1 (by omega), h1 2 (by omega), h1 3 (by omega), h1 4 (by omega), h1 5 (by omega), h3 0 (by omega), h3 1 (by omega), h3 2 (by omega), h3 3 (by omega), h3 4 (by omega), h3 5 (by omega)]
  exact q
theorem tr_size {c c2 : tC} (h1 : ∀ j, j < 64 → c2 25 0 j = c 25 0 j) (h3 : ∀ j, j < 64 → c2 51 12 j = c 51 12 j) (h : RX c) : RT_size c2 0 (c2 50 0) (c2 51) := fun i hi => by
  rw [h1 i hi, h3 i hi]
  exact R0_size h i hi
theorem tr_storm {c c2 : tC} (h1 : ∀ j, j < 10 → c2 26 0 j = c 26 0 j) (h3 : ∀ j, j < 10 → c2 51 13 j = c 51 13 j) (h : RX c) : RT_storm c2 0 (c2 50 0) (c2 51) := fun i hi => by
  rw [h1 i hi, h3 i hi]
  exact R0_storm h i hi
theorem tr_plan1 {c c2 : tC} {p : Nat} (h0 : c2 14 p 0 = c 14 p 0) (h1 : ∀ g j, 41 ≤ g → g ≤ 45 → j < 8 → c2 g p j = c g p j) (hp : (p : Int) < c 50 0 6) (h2 : c 50 0 2 ≤ c2 50 0 2) (h38 : c2 51 38 p = c 51 38 p) (h3 : ∀ f j, 39 ≤ f → f ≤ 43 → 8 * p ≤ j → j < 8 * p + 8 → c2 51 f j = c 51 f j) (h : RX c) : c2 14 p 0 = c2 51 38 p ∧ (0 ≤ c2 51 38 p ∧ c2 51 38 p ≤ 8) ∧ ∀ k : Nat, (k : Int) < c2 51 38 p → (c2 41 p k = c2 51 40 (8 * p + k) ∧ c2 42 p k = c2 51 41 (8 * p + k) ∧ c2 43 p k = c2 51 42 (8 * p + k) ∧ c2 44 p k = c2 51 43 (8 * p + k) ∧ c2 45 p k = c2 51 39 (8 * p + k)) ∧ (0 ≤ c2 51 40 (8 * p + k) ∧ c2 51 40 (8 * p + k) < c2 50 0 2) ∧ (0 ≤ c2 51 41 (8 * p + k) ∧ c2 51 41 (8 * p + k) ≤ c2 51 42 (8 * p + k) ∧ c2 51 42 (8 * p + k) ≤ 239) ∧ (0 ≤ c2 51 43 (8 * p + k) ∧ c2 51 43 (8 * p + k) ≤ 99) ∧ (c2 51 39 (8 * p + k) = 0 ∨ c2 51 39 (8 * p + k) = 1) := by
  have g := R0_rng h
  have q := R0_plan h p hp
  rw [h0, h38]
  refine ⟨q.1, q.2.1, fun k hk => ?_⟩
  have qk := q.2.2 k hk
  rw [h1 41 k (by omega) (by omega) (by omega), h1 42 k (by omega) (by omega) (by omega), h1 43 k (by omega) (by omega) (by omega), h1 44 k (by omega) (by omega) (by omega), h1 45 k (by omega) (by omega) (by omega), h3 39 _ (by omega) (by omega) (by omega) (by omega), h3 40 _ (by omega) (by omega) (by omega) (by omega), h3 41 _ (by omega) (by omega) (by omega) (by omega), h3 42 _ (by omega) (by omega) (by omega) (by omega), h3 43 _ (by omega) (by omega) (by omega) (by omega)]
  exact ⟨qk.1, ⟨qk.2.1.1, by omega⟩, qk.2.2⟩
theorem tr_plan {c c2 : tC} (h0 : ∀ p, p < 8 → c2 14 p 0 = c 14 p 0) (h1 : ∀ g p j, 41 ≤ g → g ≤ 45 → p < 8 → j < 8 → c2 g p j = c g p j) (h6 : c2 50 0 6 = c 50 0 6) (h2 : c 50 0 2 ≤ c2 50 0 2) (h38 : ∀ p, p < 8 → c2 51 38 p = c 51 38 p) (h3 : ∀ f j, 39 ≤ f → f ≤ 43 → j < 64 → c2 51 f j = c 51 f j) (h : RX c) : RT_plan c2 0 (c2 50 0) (c2 51) := fun p hp => by
  rw [h6] at hp
  have g := R0_rng h
  exact tr_plan1 (p := p) (h0 p (by omega)) (fun g j a b d => h1 g p j a b (by omega) d) hp h2 (h38 p (by omega)) (fun f j a b _ e => h3 f j a b (by omega)) h
theorem tr_press {c c2 : tC} (h1 : ∀ g j, 17 ≤ g → g ≤ 20 → (j : Nat) < 80 → ((j : Nat) : Int) < c 50 0 9 → c2 g 0 j = c g 0 j) (h2 : c2 50 0 3 = c 50 0 3) (h2a : c 50 0 1 ≤ c2 50 0 1) (h2b : c 50 0 9 ≤ c2 50 0 9) (h3 : ∀ f i, 27 ≤ f → f ≤ 31 → (i : Nat) < 60 → ((i : Nat) : Int) < c 50 0 3 → c2 51 f i = c 51 f i) (h : RX c) : RT_press c2 0 (c2 50 0) (c2 51) := fun i hi => by
  rw [h2] at hi
  have g := R0_rng h
  have q := R0_press h i hi
  have b : (c 51 31 i).toNat < 80 := by omega
  have b2 : (((c 51 31 i).toNat : Nat) : Int) < c 50 0 9 := by omega
  rw [h3 27 i (by omega) (by omega) (by omega) hi, h3 28 i (by omega) (by omega) (by omega) hi, h3 29 i (by omega) (by omega) (by omega) hi, h3 30 i (by omega) (by omega) (by omega) hi, h3 31 i (by omega) (by omega) (by omega) hi, h1 17 _ (by omega) (by omega) b b2, h1 18 _ (by omega) (by omega) b b2, h1 19 _ (by omega) (by omega) b b2, h1 20 _ (by omega) (by omega) b b2]
  exact ⟨q.1, ⟨q.2.1.1, by omega⟩, ⟨q.2.2.1.1, by omega⟩, q.2.2.2⟩
theorem tr_pmon {c c2 : tC} (h2 : c2 50 0 3 = c 50 0 3) (h3 : ∀ i, i < 60 → c2 51 31 i = c 51 31 i) (h : RX c) : RT_pmon c2 0 (c2 50 0) (c2 51) := fun i j hij hj => by
  rw [h2] at hj
  have g := R0_rng h
  rw [h3 i (by omega), h3 j (by omega)]
  exact R0_pmon h i j hij hj
theorem tr_match {c c2 : tC} (h1 : ∀ g j, 17 ≤ g → g ≤ 20 → (j : Nat) < 80 → ((j : Nat) : Int) < c 50 0 9 → c2 g 0 j = c g 0 j) (h2 : c2 50 0 4 = c 50 0 4) (h2a : c 50 0 1 ≤ c2 50 0 1) (h2b : c 50 0 9 ≤ c2 50 0 9) (h3 : ∀ f i, 32 ≤ f → f ≤ 34 → (i : Nat) < 20 → ((i : Nat) : Int) < c 50 0 4 → c2 51 f i = c 51 f i) (h : RX c) : RT_match c2 0 (c2 50 0) (c2 51) := fun i hi => by
  rw [h2] at hi
  have g := R0_rng h
  have q := R0_match h i hi
  have b : (c 51 34 i).toNat < 80 := by omega
  have b2 : (((c 51 34 i).toNat : Nat) : Int) < c 50 0 9 := by omega
  rw [h3 32 i (by omega) (by omega) (by omega) hi, h3 33 i (by omega) (by omega) (by omega) hi, h3 34 i (by omega) (by omega) (by omega) hi, h1 17 _ (by omega) (by omega) b b2, h1 18 _ (by omega) (by omega) b b2, h1 20 _ (by omega) (by omega) b b2]
  exact ⟨q.1, ⟨q.2.1.1, by omega⟩, ⟨q.2.2.1.1, by omega⟩, q.2.2.2⟩
theorem tr_mmon {c c2 : tC} (h2 : c2 50 0 4 = c 50 0 4) (h3 : ∀ i, i < 20 → c2 51 34 i = c 51 34 i) (h : RX c) : RT_mmon c2 0 (c2 50 0) (c2 51) := fun i j hij hj => by
  rw [h2] at hj
  have g := R0_rng h
  rw [h3 i (by omega), h3 j (by omega)]
  exact R0_mmon h i j hij hj
theorem tr_came {c c2 : tC} (h9 : c2 50 0 9 = c 50 0 9) (h2 : c2 50 0 3 = c 50 0 3) (h4 : c2 50 0 4 = c 50 0 4) (h3 : ∀ i, i < 60 → c2 51 31 i = c 51 31 i) (h5 : ∀ i, i < 20 → c2 51 34 i = c 51 34 i) (h : RX c) : RT_came c2 0 (c2 50 0) (c2 51) := fun k hk hk2 => by
  rw [h9] at hk2
  have g := R0_rng h
  rw [h2, h4]
  rcases R0_came h k hk hk2 with ⟨i, a, b⟩ | ⟨i, a, b⟩
  · exact Or.inl ⟨i, a, (h3 i (by omega)).trans b⟩
  · exact Or.inr ⟨i, a, (h5 i (by omega)).trans b⟩
theorem tr_let {c c2 : tC} (h1 : ∀ g j, 22 ≤ g → g ≤ 24 → j < 30 → c2 g 0 j = c g 0 j) (h2 : c2 50 0 5 = c 50 0 5) (h2a : c 50 0 1 ≤ c2 50 0 1) (h3 : ∀ f j, 35 ≤ f → f ≤ 37 → j < 30 → c2 51 f j = c 51 f j) (h : RX c) : RT_let c2 0 (c2 50 0) (c2 51) := fun i hi => by
  rw [h2] at hi
  have g := R0_rng h
  have q := R0_let h i hi
  rw [h1 22 i (by omega) (by omega) (by omega), h1 23 i (by omega) (by omega) (by omega), h1 24 i (by omega) (by omega) (by omega), h3 35 i (by omega) (by omega) (by omega), h3 36 i (by omega) (by omega) (by omega), h3 37 i (by omega) (by omega) (by omega)]
  exact ⟨q.1, ⟨q.2.1.1, by omega⟩, q.2.2⟩
theorem rx_go {c c2 : tC} {p : Nat} {v : Int} (h : RX c) (hF : ∀ g i j, ¬ ((g = 12 ∧ i = p ∧ j = 0) ∨ (g = 51 ∧ i = 14 ∧ j = p)) → c2 g i j = c g i j) (v1 : c2 12 p 0 = v) (v2 : c2 51 14 p = v) (hv : 0 ≤ v ∧ v ≤ 63) : RX c2 := by
  have g := R0_rng h
  refine ⟨tr_scal (by intros; exact hF _ _ _ (by omega)) (by intros; exact hF _ _ _ (by omega)) (by intros; exact hF _ _ _ (by omega)) (by intros; exact hF _ _ _ (by omega)) h, tr_rng (by intros; exact hF _ _ _ (by omega)) h, ?_, tr_src (by intros; exact hF _ _ _ (by omega)) (by intros; exact hF _ _ _ (by omega)) (by first | (rw [hF _ _ _ (by omega)]; exact Int.le_refl _) | omega) (by intros; exact hF _ _ _ (by omega)) h, tr_off (by intros; exact hF _ _ _ (by omega)) (by intros; exact hF _ _ _ (by omega)) (by intros; exact hF _ _ _ (by omega)) h, tr_beat (by intros; exact hF _ _ _ (by omega)) (by intros; exact hF _ _ _ (by omega)) (by intros; exact hF _ _ _ (by omega)) h, tr_law (by intros; exact hF _ _ _ (by omega)) (by intros; exact hF _ _ _ (by omega)) h, tr_size (by intros; exact hF _ _ _ (by omega)) (by intros; exact hF _ _ _ (by omega)) h, tr_storm (by intros; exact hF _ _ _ (by omega)) (by intros; exact hF _ _ _ (by omega)) h, tr_plan (by intros; exact hF _ _ _ (by omega)) (by intros; exact hF _ _ _ (by omega)) (by intros; exact hF _ _ _ (by omega)) (by first | (rw [hF _ _ _ (by omega)]; exact Int.le_refl _) | omega) (by intros; exact hF _ _ _ (by omega)) (by intros; exact hF _ _ _ (by omega)) h, tr_press (by intros; exact hF _ _ _ (by omega)) (by intros; exact hF _ _ _ (by omega)) (by first | (rw [hF _ _ _ (by omega)]; exact Int.le_refl _) | omega) (by first | (rw [hF _ _ _ (by omega)]; exact Int.le_refl _) | omega) (by intros; exact hF _ _ _ (by omega)) h, tr_pmon (by intros; exact hF _ _ _ (by omega)) (by intros; exact hF _ _ _ (by omega)) h, tr_match (by intros; exact hF _ _ _ (by omega)) (by intros; exact hF _ _ _ (by omega)) (by first | (rw [hF _ _ _ (by omega)]; exact Int.le_refl _) | omega) (by first | (rw [hF _ _ _ (by omega)]; exact Int.le_refl _) | omega) (by intros; exact hF _ _ _ (by omega)) h, tr_mmon (by intros; exact hF _ _ _ (by omega)) (by intros; exact hF _ _ _ (by omega)) h, tr_came (by intros; exact hF _ _ _ (by omega)) (by intros; exact hF _ _ _ (by omega)) (by intros; exact hF _ _ _ (by omega)) (by intros; exact hF _ _ _ (by omega)) (by intros; exact hF _ _ _ (by omega)) h, tr_let (by intros; exact hF _ _ _ (by omega)) (by intros; exact hF _ _ _ (by omega)) (by first | (rw [hF _ _ _ (by omega)]; exact Int.le_refl _) | omega) (by intros; exact hF _ _ _ (by omega)) h⟩
  · intro i hi
    rw [hF 50 0 1 (by omega)] at hi
    have q := R0_per h i hi
    show (c2 12 i 0 = _ ∧ c2 12 i 1 = _ ∧ c2 12 i 2 = _ ∧ c2 12 i 3 = _ ∧ c2 12 i 4 = _) ∧ _
    by_cases e : i = p
    · subst e
      rw [v1, v2, hF 12 i 1 (by omega), hF 12 i 2 (by omega), hF 12 i 3 (by omega), hF 12 i 4 (by omega), hF 51 15 i (by omega), hF 51 16 i (by omega), hF 51 17 i (by omega), hF 51 18 i (by omega)]
      exact ⟨⟨rfl, q.1.2⟩, hv, q.2.2⟩
    · rw [hF 12 i 0 (by omega), hF 12 i 1 (by omega), hF 12 i 2 (by omega), hF 12 i 3 (by omega), hF 12 i 4 (by omega), hF 51 14 i (by omega), hF 51 15 i (by omega), hF 51 16 i (by omega), hF 51 17 i (by omega), hF 51 18 i (by omega)]
      exact q
theorem rx_hours {c c2 : tC} {s : Nat} {p q0 : Int} (h : RX c) (hF : ∀ g i j, ¬ ((g = 13 ∧ i = s ∧ (j = 4 ∨ j = 5)) ∨ (g = 51 ∧ (i = 23 ∨ i = 24) ∧ j = s)) → c2 g i j = c g i j) (v1 : c2 13 s 4 = p) (v2 : c2 13 s 5 = q0) (v3 : c2 51 23 s = p) (v4 : c2 51 24 s = q0) (hp : 0 ≤ p ∧ p ≤ 23) (hq : 0 ≤ q0 ∧ q0 ≤ 23) : RX c2 := by
  have g := R0_rng h
  refine ⟨tr_scal (by intros; exact hF _ _ _ (by omega)) (by intros; exact hF _ _ _ (by omega)) (by intros; exact hF _ _ _ (by omega)) (by intros; exact hF _ _ _ (by omega)) h, tr_rng (by intros; exact hF _ _ _ (by omega)) h, tr_per (by intros; exact hF _ _ _ (by omega)) (by intros; exact hF _ _ _ (by omega)) (by intros; exact hF _ _ _ (by omega)) h, ?_, tr_off (by intros; exact hF _ _ _ (by omega)) (by intros; exact hF _ _ _ (by omega)) (by intros; exact hF _ _ _ (by omega)) h, tr_beat (by intros; exact hF _ _ _ (by omega)) (by intros; exact hF _ _ _ (by omega)) (by intros; exact hF _ _ _ (by omega)) h, tr_law (by intros; exact hF _ _ _ (by omega)) (by intros; exact hF _ _ _ (by omega)) h, tr_size (by intros; exact hF _ _ _ (by omega)) (by intros; exact hF _ _ _ (by omega)) h, tr_storm (by intros; exact hF _ _ _ (by omega)) (by intros; exact hF _ _ _ (by omega)) h, tr_plan (by intros; exact hF _ _ _ (by omega)) (by intros; exact hF _ _ _ (by omega)) (by intros; exact hF _ _ _ (by omega)) (by first | (rw [hF _ _ _ (by omega)]; exact Int.le_refl _) | omega) (by intros; exact hF _ _ _ (by omega)) (by intros; exact hF _ _ _ (by omega)) h, tr_press (by intros; exact hF _ _ _ (by omega)) (by intros; exact hF _ _ _ (by omega)) (by first | (rw [hF _ _ _ (by omega)]; exact Int.le_refl _) | omega) (by first | (rw [hF _ _ _ (by omega)]; exact Int.le_refl _) | omega) (by intros; exact hF _ _ _ (by omega)) h, tr_pmon (by intros; exact hF _ _ _ (by omega)) (by intros; exact hF _ _ _ (by omega)) h, tr_match (by intros; exact hF _ _ _ (by omega)) (by intros; exact hF _ _ _ (by omega)) (by first | (rw [hF _ _ _ (by omega)]; exact Int.le_refl _) | omega) (by first | (rw [hF _ _ _ (by omega)]; exact Int.le_refl _) | omega) (by intros; exact hF _ _ _ (by omega)) h, tr_mmon (by intros; exact hF _ _ _ (by omega)) (by intros; exact hF _ _ _ (by omega)) h, tr_came (by intros; exact hF _ _ _ (by omega)) (by intros; exact hF _ _ _ (by omega)) (by intros; exact hF _ _ _ (by omega)) (by intros; exact hF _ _ _ (by omega)) (by intros; exact hF _ _ _ (by omega)) h, tr_let (by intros; exact hF _ _ _ (by omega)) (by intros; exact hF _ _ _ (by omega)) (by first | (rw [hF _ _ _ (by omega)]; exact Int.le_refl _) | omega) (by intros; exact hF _ _ _ (by omega)) h⟩
  · intro i hi
    rw [hF 50 0 2 (by omega)] at hi
    have q := R0_src h i hi
    show (c2 13 i 0 = _ ∧ c2 13 i 1 = _ ∧ c2 13 i 2 = _ ∧ c2 13 i 3 = _ ∧ c2 13 i 4 = _ ∧ c2 13 i 5 = _ ∧ c2 13 i 6 = _) ∧ _
    rw [hF 50 0 1 (by omega)]
    by_cases e : i = s
    · subst e
      rw [v1, v2, v3, v4, hF 13 i 0 (by omega), hF 13 i 1 (by omega), hF 13 i 2 (by omega), hF 13 i 3 (by omega), hF 13 i 6 (by omega), hF 51 19 i (by omega), hF 51 20 i (by omega), hF 51 21 i (by omega), hF 51 22 i (by omega), hF 51 25 i (by omega), hF 51 26 i (by omega)]
      exact ⟨⟨q.1.1, q.1.2.1, q.1.2.2.1, q.1.2.2.2.1, rfl, rfl, q.1.2.2.2.2.2.2⟩, q.2.1, q.2.2.1, q.2.2.2.1, q.2.2.2.2.1, q.2.2.2.2.2.1, hp, hq, q.2.2.2.2.2.2.2.2⟩
    · rw [hF 13 i 0 (by omega), hF 13 i 1 (by omega), hF 13 i 2 (by omega), hF 13 i 3 (by omega), hF 13 i 4 (by omega), hF 13 i 5 (by omega), hF 13 i 6 (by omega), hF 51 19 i (by omega), hF 51 20 i (by omega), hF 51 21 i (by omega), hF 51 22 i (by omega), hF 51 23 i (by omega), hF 51 24 i (by omega), hF 51 25 i (by omega), hF 51 26 i (by omega)]
      exact q
theorem rx_cost {c c2 : tC} {s : Nat} {v : Int} (h : RX c) (hF : ∀ g i j, ¬ ((g = 13 ∧ i = s ∧ j = 6) ∨ (g = 51 ∧ i = 25 ∧ j = s)) → c2 g i j = c g i j) (v1 : c2 13 s 6 = v) (v2 : c2 51 25 s = v) (hv : 0 ≤ v ∧ v ≤ 99) : RX c2 := by
  have g := R0_rng h
  refine ⟨tr_scal (by intros; exact hF _ _ _ (by omega)) (by intros; exact hF _ _ _ (by omega)) (by intros; exact hF _ _ _ (by omega)) (by intros; exact hF _ _ _ (by omega)) h, tr_rng (by intros; exact hF _ _ _ (by omega)) h, tr_per (by intros; exact hF _ _ _ (by omega)) (by intros; exact hF _ _ _ (by omega)) (by intros; exact hF _ _ _ (by omega)) h, ?_, tr_off (by intros; exact hF _ _ _ (by omega)) (by intros; exact hF _ _ _ (by omega)) (by intros; exact hF _ _ _ (by omega)) h, tr_beat (by intros; exact hF _ _ _ (by omega)) (by intros; exact hF _ _ _ (by omega)) (by intros; exact hF _ _ _ (by omega)) h, tr_law (by intros; exact hF _ _ _ (by omega)) (by intros; exact hF _ _ _ (by omega)) h, tr_size (by intros; exact hF _ _ _ (by omega)) (by intros; exact hF _ _ _ (by omega)) h, tr_storm (by intros; exact hF _ _ _ (by omega)) (by intros; exact hF _ _ _ (by omega)) h, tr_plan (by intros; exact hF _ _ _ (by omega)) (by intros; exact hF _ _ _ (by omega)) (by intros; exact hF _ _ _ (by omega)) (by first | (rw [hF _ _ _ (by omega)]; exact Int.le_refl _) | omega) (by intros; exact hF _ _ _ (by omega)) (by intros; exact hF _ _ _ (by omega)) h, tr_press (by intros; exact hF _ _ _ (by omega)) (by intros; exact hF _ _ _ (by omega)) (by first | (rw [hF _ _ _ (by omega)]; exact Int.le_refl _) | omega) (by first | (rw [hF _ _ _ (by omega)]; exact Int.le_refl _) | omega) (by intros; exact hF _ _ _ (by omega)) h, tr_pmon (by intros; exact hF _ _ _ (by omega)) (by intros; exact hF _ _ _ (by omega)) h, tr_match (by intros; exact hF _ _ _ (by omega)) (by intros; exact hF _ _ _ (by omega)) (by first | (rw [hF _ _ _ (by omega)]; exact Int.le_refl _) | omega) (by first | (rw [hF _ _ _ (by omega)]; exact Int.le_refl _) | omega) (by intros; exact hF _ _ _ (by omega)) h, tr_mmon (by intros; exact hF _ _ _ (by omega)) (by intros; exact hF _ _ _ (by omega)) h, tr_came (by intros; exact hF _ _ _ (by omega)) (by intros; exact hF _ _ _ (by omega)) (by intros; exact hF _ _ _ (by omega)) (by intros; exact hF _ _ _ (by omega)) (by intros; exact hF _ _ _ (by omega)) h, tr_let (by intros; exact hF _ _ _ (by omega)) (by intros; exact hF _ _ _ (by omega)) (by first | (rw [hF _ _ _ (by omega)]; exact Int.le_refl _) | omega) (by intros; exact hF _ _ _ (by omega)) h⟩
  · intro i hi
    rw [hF 50 0 2 (by omega)] at hi
    have q := R0_src h i hi
    show (c2 13 i 0 = _ ∧ c2 13 i 1 = _ ∧ c2 13 i 2 = _ ∧ c2 13 i 3 = _ ∧ c2 13 i 4 = _ ∧ c2 13 i 5 = _ ∧ c2 13 i 6 = _) ∧ _
    rw [hF 50 0 1 (by omega)]
    by_cases e : i = s
    · subst e
      rw [v1, v2, hF 13 i 0 (by omega), hF 13 i 1 (by omega), hF 13 i 2 (by omega), hF 13 i 3 (by omega), hF 13 i 4 (by omega), hF 13 i 5 (by omega), hF 51 19 i (by omega), hF 51 20 i (by omega), hF 51 21 i (by omega), hF 51 22 i (by omega), hF 51 23 i (by omega), hF 51 24 i (by omega), hF 51 26 i (by omega)]
      exact ⟨⟨q.1.1, q.1.2.1, q.1.2.2.1, q.1.2.2.2.1, q.1.2.2.2.2.1, q.1.2.2.2.2.2.1, rfl⟩, q.2.1, q.2.2.1, q.2.2.2.1, q.2.2.2.2.1, q.2.2.2.2.2.1, q.2.2.2.2.2.2.1, q.2.2.2.2.2.2.2.1, hv, q.2.2.2.2.2.2.2.2.2⟩
    · rw [hF 13 i 0 (by omega), hF 13 i 1 (by omega), hF 13 i 2 (by omega), hF 13 i 3 (by omega), hF 13 i 4 (by omega), hF 13 i 5 (by omega), hF 13 i 6 (by omega), hF 51 19 i (by omega), hF 51 20 i (by omega), hF 51 21 i (by omega), hF 51 22 i (by omega), hF 51 23 i (by omega), hF 51 24 i (by omega), hF 51 25 i (by omega), hF 51 26 i (by omega)]
      exact q
theorem rx_off {c c2 : tC} {s : Nat} {v : Int} {n : Nat} (h : RX c) (hF : ∀ g i j, ¬ ((g = 8 ∧ i = 0 ∧ j = 5) ∨ (g = 51 ∧ i = 26 ∧ j = s)) → c2 g i j = c g i j) (hn : c 50 0 2 = (n : Int)) (v1 : c2 8 0 5 = ((mkN (fun j => if s = j then decide (v = 1) else fHand (c 51) j) n : Nat) : Int)) (v2 : c2 51 26 s = v) (hv : v = 0 ∨ v = 1) : RX c2 := by
  have g := R0_rng h
  refine ⟨tr_scal (by intros; exact hF _ _ _ (by omega)) (by intros; exact hF _ _ _ (by omega)) (by intros; exact hF _ _ _ (by omega)) (by intros; exact hF _ _ _ (by omega)) h, tr_rng (by intros; exact hF _ _ _ (by omega)) h, tr_per (by intros; exact hF _ _ _ (by omega)) (by intros; exact hF _ _ _ (by omega)) (by intros; exact hF _ _ _ (by omega)) h, ?_, ?_, tr_beat (by intros; exact hF _ _ _ (by omega)) (by intros; exact hF _ _ _ (by omega)) (by intros; exact hF _ _ _ (by omega)) h, tr_law (by intros; exact hF _ _ _ (by omega)) (by intros; exact hF _ _ _ (by omega)) h, tr_size (by intros; exact hF _ _ _ (by omega)) (by intros; exact hF _ _ _ (by omega)) h, tr_storm (by intros; exact hF _ _ _ (by omega)) (by intros; exact hF _ _ _ (by omega)) h, tr_plan (by intros; exact hF _ _ _ (by omega)) (by intros; exact hF _ _ _ (by omega)) (by intros; exact hF _ _ _ (by omega)) (by first | (rw [hF _ _ _ (by omega)]; exact Int.le_refl _) | omega) (by intros; exact hF _ _ _ (by omega)) (by intros; exact hF _ _ _ (by omega)) h, tr_press (by intros; exact hF _ _ _ (by omega)) (by intros; exact hF _ _ _ (by omega)) (by first | (rw [hF _ _ _ (by omega)]; exact Int.le_refl _) | omega) (by first | (rw [hF _ _ _ (by omega)]; exact Int.le_refl _) | omega) (by intros; exact hF _ _ _ (by omega)) h, tr_pmon (by intros; exact hF _ _ _ (by omega)) (by intros; exact hF _ _ _ (by omega)) h, tr_match (by intros; exact hF _ _ _ (by omega)) (by intros; exact hF _ _ _ (by omega)) (by first | (rw [hF _ _ _ (by omega)]; exact Int.le_refl _) | omega) (by first | (rw [hF _ _ _ (by omega)]; exact Int.le_refl _) | omega) (by intros; exact hF _ _ _ (by omega)) h, tr_mmon (by intros; exact hF _ _ _ (by omega)) (by intros; exact hF _ _ _ (by omega)) h, tr_came (by intros; exact hF _ _ _ (by omega)) (by intros; exact hF _ _ _ (by omega)) (by intros; exact hF _ _ _ (by omega)) (by intros; exact hF _ _ _ (by omega)) (by intros; exact hF _ _ _ (by omega)) h, tr_let (by intros; exact hF _ _ _ (by omega)) (by intros; exact hF _ _ _ (by omega)) (by first | (rw [hF _ _ _ (by omega)]; exact Int.le_refl _) | omega) (by intros; exact hF _ _ _ (by omega)) h⟩
  · intro i hi
    rw [hF 50 0 2 (by omega)] at hi
    have q := R0_src h i hi
    show (c2 13 i 0 = _ ∧ c2 13 i 1 = _ ∧ c2 13 i 2 = _ ∧ c2 13 i 3 = _ ∧ c2 13 i 4 = _ ∧ c2 13 i 5 = _ ∧ c2 13 i 6 = _) ∧ _
    rw [hF 50 0 1 (by omega)]
    by_cases e : i = s
    · subst e
      rw [v2, hF 13 i 0 (by omega), hF 13 i 1 (by omega), hF 13 i 2 (by omega), hF 13 i 3 (by omega), hF 13 i 4 (by omega), hF 13 i 5 (by omega), hF 13 i 6 (by omega), hF 51 19 i (by omega), hF 51 20 i (by omega), hF 51 21 i (by omega), hF 51 22 i (by omega), hF 51 23 i (by omega), hF 51 24 i (by omega), hF 51 25 i (by omega)]
      exact ⟨q.1, q.2.1, q.2.2.1, q.2.2.2.1, q.2.2.2.2.1, q.2.2.2.2.2.1, q.2.2.2.2.2.2.1, q.2.2.2.2.2.2.2.1, q.2.2.2.2.2.2.2.2.1, hv⟩
    · rw [hF 13 i 0 (by omega), hF 13 i 1 (by omega), hF 13 i 2 (by omega), hF 13 i 3 (by omega), hF 13 i 4 (by omega), hF 13 i 5 (by omega), hF 13 i 6 (by omega), hF 51 19 i (by omega), hF 51 20 i (by omega), hF 51 21 i (by omega), hF 51 22 i (by omega), hF 51 23 i (by omega), hF 51 24 i (by omega), hF 51 25 i (by omega), hF 51 26 i (by omega)]
      exact q
  · unfold RT_off
    rw [v1, hF 50 0 2 (by omega), hn, Int.toNat_natCast]
    refine congrArg Nat.cast (mkN_ext fun j hj => ?_)
    unfold fHand
    by_cases e : s = j
    · subst e
      rw [if_pos rfl, v2]
    · rw [if_neg e, hF 51 26 j (by omega)]
theorem rx_size {c c2 : tC} {p : Nat} {v : Int} (h : RX c) (hF : ∀ g i j, ¬ ((g = 25 ∧ i = 0 ∧ j = p) ∨ (g = 51 ∧ i = 12 ∧ j = p)) → c2 g i j = c g i j) (v1 : c2 25 0 p = v) (v2 : c2 51 12 p = v) (hv : 0 ≤ v ∧ v ≤ 9) : RX c2 := by
  have g := R0_rng h
  refine ⟨tr_scal (by intros; exact hF _ _ _ (by omega)) (by intros; exact hF _ _ _ (by omega)) (by intros; exact hF _ _ _ (by omega)) (by intros; exact hF _ _ _ (by omega)) h, tr_rng (by intros; exact hF _ _ _ (by omega)) h, tr_per (by intros; exact hF _ _ _ (by omega)) (by intros; exact hF _ _ _ (by omega)) (by intros; exact hF _ _ _ (by omega)) h, tr_src (by intros; exact hF _ _ _ (by omega)) (by intros; exact hF _ _ _ (by omega)) (by first | (rw [hF _ _ _ (by omega)]; exact Int.le_refl _) | omega) (by intros; exact hF _ _ _ (by omega)) h, tr_off (by intros; exact hF _ _ _ (by omega)) (by intros; exact hF _ _ _ (by omega)) (by intros; exact hF _ _ _ (by omega)) h, tr_beat (by intros; exact hF _ _ _ (by omega)) (by intros; exact hF _ _ _ (by omega)) (by intros; exact hF _ _ _ (by omega)) h, tr_law (by intros; exact hF _ _ _ (by omega)) (by intros; exact hF _ _ _ (by omega)) h, ?_, tr_storm (by intros; exact hF _ _ _ (by omega)) (by intros; exact hF _ _ _ (by omega)) h, tr_plan (by intros; exact hF _ _ _ (by omega)) (by intros; exact hF _ _ _ (by omega)) (by intros; exact hF _ _ _ (by omega)) (by first | (rw [hF _ _ _ (by omega)]; exact Int.le_refl _) | omega) (by intros; exact hF _ _ _ (by omega)) (by intros; exact hF _ _ _ (by omega)) h, tr_press (by intros; exact hF _ _ _ (by omega)) (by intros; exact hF _ _ _ (by omega)) (by first | (rw [hF _ _ _ (by omega)]; exact Int.le_refl _) | omega) (by first | (rw [hF _ _ _ (by omega)]; exact Int.le_refl _) | omega) (by intros; exact hF _ _ _ (by omega)) h, tr_pmon (by intros; exact hF _ _ _ (by omega)) (by intros; exact hF _ _ _ (by omega)) h, tr_match (by intros; exact hF _ _ _ (by omega)) (by intros; exact hF _ _ _ (by omega)) (by first | (rw [hF _ _ _ (by omega)]; exact Int.le_refl _) | omega) (by first | (rw [hF _ _ _ (by omega)]; exact Int.le_refl _) | omega) (by intros; exact hF _ _ _ (by omega)) h, tr_mmon (by intros; exact hF _ _ _ (by omega)) (by intros; exact hF _ _ _ (by omega)) h, tr_came (by intros; exact hF _ _ _ (by omega)) (by intros; exact hF _ _ _ (by omega)) (by intros; exact hF _ _ _ (by omega)) (by intros; exact hF _ _ _ (by omega)) (by intros; exact hF _ _ _ (by omega)) h, tr_let (by intros; exact hF _ _ _ (by omega)) (by intros; exact hF _ _ _ (by omega)) (by first | (rw [hF _ _ _ (by omega)]; exact Int.le_refl _) | omega) (by intros; exact hF _ _ _ (by omega)) h⟩
  · intro i hi
    by_cases e : i = p
    · subst e
      rw [v1, v2]
      exact ⟨rfl, hv⟩
    · rw [hF 25 0 i (by omega), hF 51 12 i (by omega)]
      exact R0_size h i hi
theorem rx_weather {c c2 : tC} {p : Nat} {v : Int} (h : RX c) (hF : ∀ g i j, ¬ ((g = 26 ∧ i = 0 ∧ j = p) ∨ (g = 51 ∧ i = 13 ∧ j = p)) → c2 g i j = c g i j) (v1 : c2 26 0 p = v) (v2 : c2 51 13 p = v) (hv : 0 ≤ v ∧ v ≤ 1) : RX c2 := by
  have g := R0_rng h
  refine ⟨tr_scal (by intros; exact hF _ _ _ (by omega)) (by intros; exact hF _ _ _ (by omega)) (by intros; exact hF _ _ _ (by omega)) (by intros; exact hF _ _ _ (by omega)) h, tr_rng (by intros; exact hF _ _ _ (by omega)) h, tr_per (by intros; exact hF _ _ _ (by omega)) (by intros; exact hF _ _ _ (by omega)) (by intros; exact hF _ _ _ (by omega)) h, tr_src (by intros; exact hF _ _ _ (by omega)) (by intros; exact hF _ _ _ (by omega)) (by first | (rw [hF _ _ _ (by omega)]; exact Int.le_refl _) | omega) (by intros; exact hF _ _ _ (by omega)) h, tr_off (by intros; exact hF _ _ _ (by omega)) (by intros; exact hF _ _ _ (by omega)) (by intros; exact hF _ _ _ (by omega)) h, tr_beat (by intros; exact hF _ _ _ (by omega)) (by intros; exact hF _ _ _ (by omega)) (by intros; exact hF _ _ _ (by omega)) h, tr_law (by intros; exact hF _ _ _ (by omega)) (by intros; exact hF _ _ _ (by omega)) h, tr_size (by intros; exact hF _ _ _ (by omega)) (by intros; exact hF _ _ _ (by omega)) h, ?_, tr_plan (by intros; exact hF _ _ _ (by omega)) (by intros; exact hF _ _ _ (by omega)) (by intros; exact hF _ _ _ (by omega)) (by first | (rw [hF _ _ _ (by omega)]; exact Int.le_refl _) | omega) (by intros; exact hF _ _ _ (by omega)) (by intros; exact hF _ _ _ (by omega)) h, tr_press (by intros; exact hF _ _ _ (by omega)) (by intros; exact hF _ _ _ (by omega)) (by first | (rw [hF _ _ _ (by omega)]; exact Int.le_refl _) | omega) (by first | (rw [hF _ _ _ (by omega)]; exact Int.le_refl _) | omega) (by intros; exact hF _ _ _ (by omega)) h, tr_pmon (by intros; exact hF _ _ _ (by omega)) (by intros; exact hF _ _ _ (by omega)) h, tr_match (by intros; exact hF _ _ _ (by omega)) (by intros; exact hF _ _ _ (by omega)) (by first | (rw [hF _ _ _ (by omega)]; exact Int.le_refl _) | omega) (by first | (rw [hF _ _ _ (by omega)]; exact Int.le_refl _) | omega) (by intros; exact hF _ _ _ (by omega)) h, tr_mmon (by intros; exact hF _ _ _ (by omega)) (by intros; exact hF _ _ _ (by omega)) h, tr_came (by intros; exact hF _ _ _ (by omega)) (by intros; exact hF _ _ _ (by omega)) (by intros; exact hF _ _ _ (by omega)) (by intros; exact hF _ _ _ (by omega)) (by intros; exact hF _ _ _ (by omega)) h, tr_let (by intros; exact hF _ _ _ (by omega)) (by intros; exact hF _ _ _ (by omega)) (by first | (rw [hF _ _ _ (by omega)]; exact Int.le_refl _) | omega) (by intros; exact hF _ _ _ (by omega)) h⟩
  · intro i hi
    by_cases e : i = p
    · subst e
      rw [v1, v2]
      exact ⟨rfl, hv⟩
    · rw [hF 26 0 i (by omega), hF 51 13 i (by omega)]
      exact R0_storm h i hi
theorem rx_pass {c c2 : tC} {v : Int} (h : RX c) (hF : ∀ g i j, ¬ ((g = 8 ∧ i = 0 ∧ j = 0) ∨ (g = 50 ∧ i = 0 ∧ j = 0)) → c2 g i j = c g i j) (v1 : c2 8 0 0 = v) (v2 : c2 50 0 0 = v) (hv : 0 ≤ v ∧ v ≤ 239) : RX c2 := by
  have g := R0_rng h
  refine ⟨?_, ?_, tr_per (by intros; exact hF _ _ _ (by omega)) (by intros; exact hF _ _ _ (by omega)) (by intros; exact hF _ _ _ (by omega)) h, tr_src (by intros; exact hF _ _ _ (by omega)) (by intros; exact hF _ _ _ (by omega)) (by first | (rw [hF _ _ _ (by omega)]; exact Int.le_refl _) | omega) (by intros; exact hF _ _ _ (by omega)) h, tr_off (by intros; exact hF _ _ _ (by omega)) (by intros; exact hF _ _ _ (by omega)) (by intros; exact hF _ _ _ (by omega)) h, tr_beat (by intros; exact hF _ _ _ (by omega)) (by intros; exact hF _ _ _ (by omega)) (by intros; exact hF _ _ _ (by omega)) h, tr_law (by intros; exact hF _ _ _ (by omega)) (by intros; exact hF _ _ _ (by omega)) h, tr_size (by intros; exact hF _ _ _ (by omega)) (by intros; exact hF _ _ _ (by omega)) h, tr_storm (by intros; exact hF _ _ _ (by omega)) (by intros; exact hF _ _ _ (by omega)) h, tr_plan (by intros; exact hF _ _ _ (by omega)) (by intros; exact hF _ _ _ (by omega)) (by intros; exact hF _ _ _ (by omega)) (by first | (rw [hF _ _ _ (by omega)]; exact Int.le_refl _) | omega) (by intros; exact hF _ _ _ (by omega)) (by intros; exact hF _ _ _ (by omega)) h, tr_press (by intros; exact hF _ _ _ (by omega)) (by intros; exact hF _ _ _ (by omega)) (by first | (rw [hF _ _ _ (by omega)]; exact Int.le_refl _) | omega) (by first | (rw [hF _ _ _ (by omega)]; exact Int.le_refl _) | omega) (by intros; exact hF _ _ _ (by omega)) h, tr_pmon (by intros; exact hF _ _ _ (by omega)) (by intros; exact hF _ _ _ (by omega)) h, tr_match (by intros; exact hF _ _ _ (by omega)) (by intros; exact hF _ _ _ (by omega)) (by first | (rw [hF _ _ _ (by omega)]; exact Int.le_refl _) | omega) (by first | (rw [hF _ _ _ (by omega)]; exact Int.le_refl _) | omega) (by intros; exact hF _ _ _ (by omega)) h, tr_mmon (by intros; exact hF _ _ _ (by omega)) (by intros; exact hF _ _ _ (by omega)) h, tr_came (by intros; exact hF _ _ _ (by omega)) (by intros; exact hF _ _ _ (by omega)) (by intros; exact hF _ _ _ (by omega)) (by intros; exact hF _ _ _ (by omega)) (by intros; exact hF _ _ _ (by omega)) h, tr_let (by intros; exact hF _ _ _ (by omega)) (by intros; exact hF _ _ _ (by omega)) (by first | (rw [hF _ _ _ (by omega)]; exact Int.le_refl _) | omega) (by intros; exact hF _ _ _ (by omega)) h⟩
  · have q := R0_scal h
    unfold RT_scal
    rw [v1, v2, hF 8 0 1 (by omega), hF 8 0 2 (by omega), hF 8 0 3 (by omega), hF 8 0 4 (by omega), hF 16 0 0 (by omega), hF 16 0 1 (by omega), hF 16 0 2 (by omega), hF 21 0 0 (by omega), hF 50 0 1 (by omega), hF 50 0 2 (by omega), hF 50 0 3 (by omega), hF 50 0 4 (by omega), hF 50 0 5 (by omega), hF 50 0 6 (by omega), hF 50 0 7 (by omega), hF 50 0 9 (by omega)]
    exact ⟨rfl, q.2⟩
  · unfold RT_rng
    rw [v2, hF 50 0 1 (by omega), hF 50 0 2 (by omega), hF 50 0 3 (by omega), hF 50 0 4 (by omega), hF 50 0 5 (by omega), hF 50 0 6 (by omega), hF 50 0 7 (by omega), hF 50 0 9 (by omega)]
    exact ⟨hv, g.2⟩
theorem rx_force {c c2 : tC} {v : Int} (h : RX c) (hF : ∀ g i j, ¬ ((g = 8 ∧ i = 0 ∧ j = 4) ∨ (g = 50 ∧ i = 0 ∧ j = 7)) → c2 g i j = c g i j) (v1 : c2 8 0 4 = v) (v2 : c2 50 0 7 = v) (hv : -1 ≤ v ∧ v < c 50 0 6) : RX c2 := by
  have g := R0_rng h
  refine ⟨?_, ?_, tr_per (by intros; exact hF _ _ _ (by omega)) (by intros; exact hF _ _ _ (by omega)) (by intros; exact hF _ _ _ (by omega)) h, tr_src (by intros; exact hF _ _ _ (by omega)) (by intros; exact hF _ _ _ (by omega)) (by first | (rw [hF _ _ _ (by omega)]; exact Int.le_refl _) | omega) (by intros; exact hF _ _ _ (by omega)) h, tr_off (by intros; exact hF _ _ _ (by omega)) (by intros; exact hF _ _ _ (by omega)) (by intros; exact hF _ _ _ (by omega)) h, tr_beat (by intros; exact hF _ _ _ (by omega)) (by intros; exact hF _ _ _ (by omega)) (by intros; exact hF _ _ _ (by omega)) h, tr_law (by intros; exact hF _ _ _ (by omega)) (by intros; exact hF _ _ _ (by omega)) h, tr_size (by intros; exact hF _ _ _ (by omega)) (by intros; exact hF _ _ _ (by omega)) h, tr_storm (by intros; exact hF _ _ _ (by omega)) (by intros; exact hF _ _ _ (by omega)) h, tr_plan (by intros; exact hF _ _ _ (by omega)) (by intros; exact hF _ _ _ (by omega)) (by intros; exact hF _ _ _ (by omega)) (by first | (rw [hF _ _ _ (by omega)]; exact Int.le_refl _) | omega) (by intros; exact hF _ _ _ (by omega)) (by intros; exact hF _ _ _ (by omega)) h, tr_press (by intros; exact hF _ _ _ (by omega)) (by intros; exact hF _ _ _ (by omega)) (by first | (rw [hF _ _ _ (by omega)]; exact Int.le_refl _) | omega) (by first | (rw [hF _ _ _ (by omega)]; exact Int.le_refl _) | omega) (by intros; exact hF _ _ _ (by omega)) h, tr_pmon (by intros; exact hF _ _ _ (by omega)) (by intros; exact hF _ _ _ (by omega)) h, tr_match (by intros; exact hF _ _ _ (by omega)) (by intros; exact hF _ _ _ (by omega)) (by first | (rw [hF _ _ _ (by omega)]; exact Int.le_refl _) | omega) (by first | (rw [hF _ _ _ (by omega)]; exact Int.le_refl _) | omega) (by intros; exact hF _ _ _ (by omega)) h, tr_mmon (by intros; exact hF _ _ _ (by omega)) (by intros; exact hF _ _ _ (by omega)) h, tr_came (by intros; exact hF _ _ _ (by omega)) (by intros; exact hF _ _ _ (by omega)) (by intros; exact hF _ _ _ (by omega)) (by intros; exact hF _ _ _ (by omega)) (by intros; exact hF _ _ _ (by omega)) h, tr_let (by intros; exact hF _ _ _ (by omega)) (by intros; exact hF _ _ _ (by omega)) (by first | (rw [hF _ _ _ (by omega)]; exact Int.le_refl _) | omega) (by intros; exact hF _ _ _ (by omega)) h⟩
  · have q := R0_scal h
    unfold RT_scal
    rw [v1, v2, hF 8 0 0 (by omega), hF 8 0 1 (by omega), hF 8 0 2 (by omega), hF 8 0 3 (by omega), hF 16 0 0 (by omega), hF 16 0 1 (by omega), hF 16 0 2 (by omega), hF 21 0 0 (by omega), hF 50 0 0 (by omega), hF 50 0 1 (by omega), hF 50 0 2 (by omega), hF 50 0 3 (by omega), hF 50 0 4 (by omega), hF 50 0 5 (by omega), hF 50 0 6 (by omega), hF 50 0 9 (by omega)]
    exact ⟨q.1, q.2.1, q.2.2.1, q.2.2.2.1, rfl, q.2.2.2.2.2⟩
  · unfold RT_rng
    rw [v2, hF 50 0 0 (by omega), hF 50 0 1 (by omega), hF 50 0 2 (by omega), hF 50 0 3 (by omega), hF 50 0 4 (by omega), hF 50 0 5 (by omega), hF 50 0 6 (by omega), hF 50 0 9 (by omega)]
    omega
theorem rx_person {c c2 : tC} {n : Nat} {v b l q0 rd : Int} (h : RX c) (hF : ∀ g i j, ¬ ((g = 12 ∧ i = n) ∨ (g = 8 ∧ i = 0 ∧ j = 1) ∨ (g = 50 ∧ i = 0 ∧ j = 1) ∨ (g = 51 ∧ (14 ≤ i ∧ i ≤ 18) ∧ j = n)) → c2 g i j = c g i j) (hn : c 50 0 1 = (n : Int)) (hn12 : n < 12) (v1 : c2 8 0 1 = (n : Int) + 1) (v2 : c2 50 0 1 = (n : Int) + 1) (w0 : c2 12 n 0 = v) (w1 : c2 12 n 1 = b) (w2 : c2 12 n 2 = l) (w3 : c2 12 n 3 = q0) (w4 : c2 12 n 4 = rd) (x0 : c2 51 14 n = v) (x1 : c2 51 15 n = b) (x2 : c2 51 16 n = l) (x3 : c2 51 17 n = q0) (x4 : c2 51 18 n = rd) (hv : (0 ≤ v ∧ v ≤ 63) ∧ (20 ≤ b ∧ b ≤ 99) ∧ (0 ≤ l ∧ l ≤ 99) ∧ (0 ≤ q0 ∧ q0 ≤ 9) ∧ (rd = 0 ∨ rd = 1)) : RX c2 := by
  have g := R0_rng h
  refine ⟨?_, ?_, ?_, tr_src (by intros; exact hF _ _ _ (by omega)) (by intros; exact hF _ _ _ (by omega)) (by first | (rw [hF _ _ _ (by omega)]; exact Int.le_refl _) | omega) (by intros; exact hF _ _ _ (by omega)) h, tr_off (by intros; exact hF _ _ _ (by omega)) (by intros; exact hF _ _ _ (by omega)) (by intros; exact hF _ _ _ (by omega)) h, tr_beat (by intros; exact hF _ _ _ (by omega)) (by intros; exact hF _ _ _ (by omega)) (by intros; exact hF _ _ _ (by omega)) h, tr_law (by intros; exact hF _ _ _ (by omega)) (by intros; exact hF _ _ _ (by omega)) h, tr_size (by intros; exact hF _ _ _ (by omega)) (by intros; exact hF _ _ _ (by omega)) h, tr_storm (by intros; exact hF _ _ _ (by omega)) (by intros; exact hF _ _ _ (by omega)) h, tr_plan (by intros; exact hF _ _ _ (by omega)) (by intros; exact hF _ _ _ (by omega)) (by intros; exact hF _ _ _ (by omega)) (by first | (rw [hF _ _ _ (by omega)]; exact Int.le_refl _) | omega) (by intros; exact hF _ _ _ (by omega)) (by intros; exact hF _ _ _ (by omega)) h, tr_press (by intros; exact hF _ _ _ (by omega)) (by intros; exact hF _ _ _ (by omega)) (by first | (rw [hF _ _ _ (by omega)]; exact Int.le_refl _) | omega) (by first | (rw [hF _ _ _ (by omega)]; exact Int.le_refl _) | omega) (by intros; exact hF _ _ _ (by omega)) h, tr_pmon (by intros; exact hF _ _ _ (by omega)) (by intros; exact hF _ _ _ (by omega)) h, tr_match (by intros; exact hF _ _ _ (by omega)) (by intros; exact hF _ _ _ (by omega)) (by first | (rw [hF _ _ _ (by omega)]; exact Int.le_refl _) | omega) (by first | (rw [hF _ _ _ (by omega)]; exact Int.le_refl _) | omega) (by intros; exact hF _ _ _ (by omega)) h, tr_mmon (by intros; exact hF _ _ _ (by omega)) (by intros; exact hF _ _ _ (by omega)) h, tr_came (by intros; exact hF _ _ _ (by omega)) (by intros; exact hF _ _ _ (by omega)) (by intros; exact hF _ _ _ (by omega)) (by intros; exact hF _ _ _ (by omega)) (by intros; exact hF _ _ _ (by omega)) h, tr_let (by intros; exact hF _ _ _ (by omega)) (by intros; exact hF _ _ _ (by omega)) (by first | (rw [hF _ _ _ (by omega)]; exact Int.le_refl _) | omega) (by intros; exact hF _ _ _ (by omega)) h⟩
  · have q := R0_scal h
    unfold RT_scal
    rw [v1, v2, hF 8 0 0 (by omega), hF 8 0 2 (by omega), hF 8 0 3 (by omega), hF 8 0 4 (by omega), hF 16 0 0 (by omega), hF 16 0 1 (by omega), hF 16 0 2 (by omega), hF 21 0 0 (by omega), hF 50 0 0 (by omega), hF 50 0 2 (by omega), hF 50 0 3 (by omega), hF 50 0 4 (by omega), hF 50 0 5 (by omega), hF 50 0 6 (by omega), hF 50 0 7 (by omega), hF 50 0 9 (by omega)]
    exact ⟨q.1, rfl, q.2.2⟩
  · unfold RT_rng
    rw [v2, hF 50 0 0 (by omega), hF 50 0 2 (by omega), hF 50 0 3 (by omega), hF 50 0 4 (by omega), hF 50 0 5 (by omega), hF 50 0 6 (by omega), hF 50 0 7 (by omega), hF 50 0 9 (by omega)]
    omega
  · intro i hi
    rw [v2] at hi
    show (c2 12 i 0 = _ ∧ c2 12 i 1 = _ ∧ c2 12 i 2 = _ ∧ c2 12 i 3 = _ ∧ c2 12 i 4 = _) ∧ _
    by_cases e : i = n
    · subst e
      rw [w0, w1, w2, w3, w4, x0, x1, x2, x3, x4]
      exact ⟨⟨rfl, rfl, rfl, rfl, rfl⟩, hv⟩
    · have q := R0_per h i (by omega)
      rw [hF 12 i 0 (by omega), hF 12 i 1 (by omega), hF 12 i 2 (by omega), hF 12 i 3 (by omega), hF 12 i 4 (by omega), hF 51 14 i (by omega), hF 51 15 i (by omega), hF 51 16 i (by omega), hF 51 17 i (by omega), hF 51 18 i (by omega)]
      exact q
