/-! ===== constructors of one piece ===== -/
theorem us_id {U : pU} {g i : Nat} {D : pD} (h : U g i = some D) : us U g i D = U := by
  funext x y
  by_cases q : x = g ∧ y = i
  · rw [q.1, q.2, us_self, h]
  · rw [us_ne q]
def wPl (i : Nat) : pW := fun x y => y = i ∧ (x = 14 ∨ (41 ≤ x ∧ x ≤ 45))
def wDi (i : Nat) : pW := fun x y => y = i ∧ 16 ≤ x ∧ x ≤ 20
def wLe (i : Nat) : pW := fun x y => y = i ∧ 21 ≤ x ∧ x ≤ 24
def wPe (i : Nat) : pW := fun x y => x = 12 ∧ y = i
def wSo (i : Nat) : pW := fun x y => x = 13 ∧ y = i
def wSh (i : Nat) : pW := fun x y => y = i ∧ (x = 2 ∨ x = 3)
def wAc : pW := fun x y => y = 0 ∧ (x = 33 ∨ x = 34)
def wRe : pW := fun x y => (y = 0 ∧ 30 ≤ x ∧ x ≤ 32) ∨ (y = 16 ∧ (x = 14 ∨ (41 ≤ x ∧ x ≤ 45)))
def wTo (t : Nat) : pW := fun x y => (y = t ∧ (8 ≤ x ∧ x ≤ 11 ∨ 16 ≤ x ∧ x ≤ 27)) ∨ (x = 12 ∧ 12 * t ≤ y ∧ y < 12 * t + 12) ∨ (x = 13 ∧ 14 * t ≤ y ∧ y < 14 * t + 14) ∨ ((x = 14 ∨ (41 ≤ x ∧ x ≤ 45)) ∧ 8 * t ≤ y ∧ y < 8 * t + 8)
def wSe : pW := fun x y => (y = 0 ∧ 5 ≤ x ∧ x ≤ 7) ∨ wTo 0 x y
theorem n_plan {z : xZ} {d : Nat} {Q : xQ} {μ : xMem} {ad : Nat → Nat → Nat} {U : pU} {i : Nat} (hB : PB z.1 μ ad U) (h0 : U 14 i = some (.inl (4, [.inl 0, .inr none, .inr none, .inr none, .inr none, .inr none]))) (hn : ∀ x y, wPl i x y → ¬ (x = 14 ∧ y = i) → U x y = none) (k : ∀ μ2 ad2, PB z.1 μ2 ad2 (uw pfin (wPl i) U) → pAg U ad ad2 → Q none μ2) : Ex (Cf z) (d + 1) MX4_init 5 40 Q 0 [some (.ref (ad 14 i))] [] μ (0, 0) := by
  have hU : U 14 i ≠ none := sm_ne h0
  have hA0 : pAg U ad ad := fun _ _ _ => rfl
  have hB0 : PB z.1 μ ad (us (uw pfin (fun x _ => x < 0) U) 14 i (.inl (4, [.inl 0, .inr none, .inr none, .inr none, .inr none, .inr none]))) := by
    rw [uw_0 (fun x _ => Nat.not_lt_zero x), us_id h0]
    exact hB
  refine p_aload 1 dX4_init_0 rfl rfl ?_
  refine p_obj 4 dX4_init_1 rfl gX4_3 (by decide) ?_
  refine p_aload 5 dX4_init_4 rfl rfl ?_
  refine p_iconst 6 dX4_init_5 rfl ?_
  refine c_int (fs2 := [.inl 0, .inr none, .inr none, .inr none, .inr none, .inr none]) 9 dX4_init_6 rfl pX4_9 hB0 hA0 hU (Nat.le_of_ble_eq_true rfl) rfl rfl rfl (fun μ1 hB1 => ?_)
  refine p_aload 10 dX4_init_9 rfl rfl ?_
  refine p_bipush 12 dX4_init_10 rfl (by decide) ?_
  refine c_newi (fun x y => (x < 0) ∨ (x = 41 ∧ y = i)) 41 (i) 8 (1, 8) 14 dX4_init_12 rfl rfl (by decide) (by decide) (by decide) hB1 hA0 (by omega) (hn _ _ (by unfold wPl; omega) (by omega)) (by first | omega | (dsimp only; omega)) rfl (fun _ _ => Iff.rfl) rfl (fun μ2 ad2 hB2 hA2 => ?_)
  refine c_ref (fs2 := [.inl 0, .inr (some (41, i)), .inr none, .inr none, .inr none, .inr none]) 17 dX4_init_14 rfl pX4_15 rfl hB2 hA2 hU (by rw [uw_y (Or.inr ⟨rfl, rfl⟩)]; exact sn_ne) (Nat.le_of_ble_eq_true rfl) (fun _ => rfl) (fun _ => rfl) rfl (fun μ3 hB3 => ?_)
  refine p_aload 18 dX4_init_17 rfl rfl ?_
  refine p_bipush 20 dX4_init_18 rfl (by decide) ?_
  refine c_newi (fun x y => ((x < 0) ∨ (x = 41 ∧ y = i)) ∨ (x = 42 ∧ y = i)) 42 (i) 8 (2, 16) 22 dX4_init_20 rfl rfl (by decide) (by decide) (by decide) hB3 hA2 (by omega) (hn _ _ (by unfold wPl; omega) (by omega)) (by first | omega | (dsimp only; omega)) rfl (fun _ _ => Iff.rfl) rfl (fun μ4 ad4 hB4 hA4 => ?_)
  refine c_ref (fs2 := [.inl 0, .inr (some (41, i)), .inr (some (42, i)), .inr none, .inr none, .inr none]) 25 dX4_init_22 rfl pX4_19 rfl hB4 hA4 hU (by rw [uw_y (Or.inr ⟨rfl, rfl⟩)]; exact sn_ne) (Nat.le_of_ble_eq_true rfl) (fun _ => rfl) (fun _ => rfl) rfl (fun μ5 hB5 => ?_)
  refine p_aload 26 dX4_init_25 rfl rfl ?_
  refine p_bipush 28 dX4_init_26 rfl (by decide) ?_
  refine c_newi (fun x y => (((x < 0) ∨ (x = 41 ∧ y = i)) ∨ (x = 42 ∧ y = i)) ∨ (x = 43 ∧ y = i)) 43 (i) 8 (3, 24) 30 dX4_init_28 rfl rfl (by decide) (by decide) (by decide) hB5 hA4 (by omega) (hn _ _ (by unfold wPl; omega) (by omega)) (by first | omega | (dsimp only; omega)) rfl (fun _ _ => Iff.rfl) rfl (fun μ6 ad6 hB6 hA6 => ?_)
  refine c_ref (fs2 := [.inl 0, .inr (some (41, i)), .inr (some (42, i)), .inr (some (43, i)), .inr none, .inr none]) 33 dX4_init_30 rfl pX4_22 rfl hB6 hA6 hU (by rw [uw_y (Or.inr ⟨rfl, rfl⟩)]; exact sn_ne) (Nat.le_of_ble_eq_true rfl) (fun _ => rfl) (fun _ => rfl) rfl (fun μ7 hB7 => ?_)
  refine p_aload 34 dX4_init_33 rfl rfl ?_
  refine p_bipush 36 dX4_init_34 rfl (by decide) ?_
  refine c_newi (fun x y => ((((x < 0) ∨ (x = 41 ∧ y = i)) ∨ (x = 42 ∧ y = i)) ∨ (x = 43 ∧ y = i)) ∨ (x = 44 ∧ y = i)) 44 (i) 8 (4, 32) 38 dX4_init_36 rfl rfl (by decide) (by decide) (by decide) hB7 hA6 (by omega) (hn _ _ (by unfold wPl; omega) (by omega)) (by first | omega | (dsimp only; omega)) rfl (fun _ _ => Iff.rfl) rfl (fun μ8 ad8 hB8 hA8 => ?_)
  refine c_ref (fs2 := [.inl 0, .inr (some (41, i)), .inr (some (42, i)), .inr (some (43, i)), .inr (some (44, i)), .inr none]) 41 dX4_init_38 rfl pX4_25 rfl hB8 hA8 hU (by rw [uw_y (Or.inr ⟨rfl, rfl⟩)]; exact sn_ne) (Nat.le_of_ble_eq_true rfl) (fun _ => rfl) (fun _ => rfl) rfl (fun μ9 hB9 => ?_)
  refine p_aload 42 dX4_init_41 rfl rfl ?_
  refine p_bipush 44 dX4_init_42 rfl (by decide) ?_
  refine c_newi (fun x y => (((((x < 0) ∨ (x = 41 ∧ y = i)) ∨ (x = 42 ∧ y = i)) ∨ (x = 43 ∧ y = i)) ∨ (x = 44 ∧ y = i)) ∨ (x = 45 ∧ y = i)) 45 (i) 8 (5, 40) 46 dX4_init_44 rfl rfl (by decide) (by decide) (by decide) hB9 hA8 (by omega) (hn _ _ (by unfold wPl; omega) (by omega)) (by first | omega | (dsimp only; omega)) rfl (fun _ _ => Iff.rfl) rfl (fun μ10 ad10 hB10 hA10 => ?_)
  refine c_ref (fs2 := [.inl 0, .inr (some (41, i)), .inr (some (42, i)), .inr (some (43, i)), .inr (some (44, i)), .inr (some (45, i))]) 49 dX4_init_46 rfl pX4_28 rfl hB10 hA10 hU (by rw [uw_y (Or.inr ⟨rfl, rfl⟩)]; exact sn_ne) (Nat.le_of_ble_eq_true rfl) (fun _ => rfl) (fun _ => rfl) rfl (fun μ11 hB11 => ?_)
  refine e_vret dX4_init_49 rfl (by decide) (by decide) (k _ _ ?_ hA10)
  rw [uw_us (D := .inl (4, [.inl 0, .inr (some (41, i)), .inr (some (42, i)), .inr (some (43, i)), .inr (some (44, i)), .inr (some (45, i))])) (g := 14) (i := i) (W2 := wPl i) (show _ = pfin 14 i from rfl) (fun x y => by (try simp only [wAc, wDi, wLe, wPe, wPl, wRe, wSe, wSh, wSo, wTo]); omega)] at hB11
  exact hB11
theorem n_diary {z : xZ} {d : Nat} {Q : xQ} {μ : xMem} {ad : Nat → Nat → Nat} {U : pU} {i : Nat} (hB : PB z.1 μ ad U) (h0 : U 16 i = some (.inl (1, [.inl 0, .inl 0, .inl 0, .inr none, .inr none, .inr none, .inr none]))) (hn : ∀ x y, wDi i x y → ¬ (x = 16 ∧ y = i) → U x y = none) (k : ∀ μ2 ad2, PB z.1 μ2 ad2 (uw pfin (wDi i) U) → pAg U ad ad2 → Q none μ2) : Ex (Cf z) (d + 1) MX1_init 4 320 Q 0 [some (.ref (ad 16 i))] [] μ (0, 0) := by
  have hU : U 16 i ≠ none := sm_ne h0
  have hA0 : pAg U ad ad := fun _ _ _ => rfl
  have hB0 : PB z.1 μ ad (us (uw pfin (fun x _ => x < 0) U) 16 i (.inl (1, [.inl 0, .inl 0, .inl 0, .inr none, .inr none, .inr none, .inr none]))) := by
    rw [uw_0 (fun x _ => Nat.not_lt_zero x), us_id h0]
    exact hB
  refine p_aload 1 dX1_init_0 rfl rfl ?_
  refine p_obj 4 dX1_init_1 rfl gX1_3 (by decide) ?_
  refine p_aload 5 dX1_init_4 rfl rfl ?_
  refine p_iconst 6 dX1_init_5 rfl ?_
  refine c_int (fs2 := [.inl 0, .inl 0, .inl 0, .inr none, .inr none, .inr none, .inr none]) 9 dX1_init_6 rfl pX1_9 hB0 hA0 hU (Nat.le_of_ble_eq_true rfl) rfl rfl rfl (fun μ1 hB1 => ?_)
  refine p_aload 10 dX1_init_9 rfl rfl ?_
  refine p_iconst 11 dX1_init_10 rfl ?_
  refine c_int (fs2 := [.inl 0, .inl 0, .inl 0, .inr none, .inr none, .inr none, .inr none]) 14 dX1_init_11 rfl pX1_15 hB1 hA0 hU (Nat.le_of_ble_eq_true rfl) rfl rfl rfl (fun μ2 hB2 => ?_)
  refine p_aload 15 dX1_init_14 rfl rfl ?_
  refine p_iconst 16 dX1_init_15 rfl ?_
  refine c_int (fs2 := [.inl 0, .inl 0, .inl 0, .inr none, .inr none, .inr none, .inr none]) 19 dX1_init_16 rfl pX1_18 hB2 hA0 hU (Nat.le_of_ble_eq_true rfl) rfl rfl rfl (fun μ3 hB3 => ?_)
  refine p_aload 20 dX1_init_19 rfl rfl ?_
  refine p_bipush 22 dX1_init_20 rfl (by decide) ?_
  refine c_newi (fun x y => (x < 0) ∨ (x = 17 ∧ y = i)) 17 (i) 80 (1, 80) 24 dX1_init_22 rfl rfl (by decide) (by decide) (by decide) hB3 hA0 (by omega) (hn _ _ (by unfold wDi; omega) (by omega)) (by first | omega | (dsimp only; omega)) rfl (fun _ _ => Iff.rfl) rfl (fun μ4 ad4 hB4 hA4 => ?_)
  refine c_ref (fs2 := [.inl 0, .inl 0, .inl 0, .inr (some (17, i)), .inr none, .inr none, .inr none]) 27 dX1_init_24 rfl pX1_21 rfl hB4 hA4 hU (by rw [uw_y (Or.inr ⟨rfl, rfl⟩)]; exact sn_ne) (Nat.le_of_ble_eq_true rfl) (fun _ => rfl) (fun _ => rfl) rfl (fun μ5 hB5 => ?_)
  refine p_aload 28 dX1_init_27 rfl rfl ?_
  refine p_bipush 30 dX1_init_28 rfl (by decide) ?_
  refine c_newi (fun x y => ((x < 0) ∨ (x = 17 ∧ y = i)) ∨ (x = 18 ∧ y = i)) 18 (i) 80 (2, 160) 32 dX1_init_30 rfl rfl (by decide) (by decide) (by decide) hB5 hA4 (by omega) (hn _ _ (by unfold wDi; omega) (by omega)) (by first | omega | (dsimp only; omega)) rfl (fun _ _ => Iff.rfl) rfl (fun μ6 ad6 hB6 hA6 => ?_)
  refine c_ref (fs2 := [.inl 0, .inl 0, .inl 0, .inr (some (17, i)), .inr (some (18, i)), .inr none, .inr none]) 35 dX1_init_32 rfl pX1_25 rfl hB6 hA6 hU (by rw [uw_y (Or.inr ⟨rfl, rfl⟩)]; exact sn_ne) (Nat.le_of_ble_eq_true rfl) (fun _ => rfl) (fun _ => rfl) rfl (fun μ7 hB7 => ?_)
  refine p_aload 36 dX1_init_35 rfl rfl ?_
  refine p_bipush 38 dX1_init_36 rfl (by decide) ?_
  refine c_newi (fun x y => (((x < 0) ∨ (x = 17 ∧ y = i)) ∨ (x = 18 ∧ y = i)) ∨ (x = 19 ∧ y = i)) 19 (i) 80 (3, 240) 40 dX1_init_38 rfl rfl (by decide) (by decide) (by decide) hB7 hA6 (by omega) (hn _ _ (by unfold wDi; omega) (by omega)) (by first | omega | (dsimp only; omega)) rfl (fun _ _ => Iff.rfl) rfl (fun μ8 ad8 hB8 hA8 => ?_)
  refine c_ref (fs2 := [.inl 0, .inl 0, .inl 0, .inr (some (17, i)), .inr (some (18, i)), .inr (some (19, i)), .inr none]) 43 dX1_init_40 rfl pX1_28 rfl hB8 hA8 hU (by rw [uw_y (Or.inr ⟨rfl, rfl⟩)]; exact sn_ne) (Nat.le_of_ble_eq_true rfl) (fun _ => rfl) (fun _ => rfl) rfl (fun μ9 hB9 => ?_)
  refine p_aload 44 dX1_init_43 rfl rfl ?_
  refine p_bipush 46 dX1_init_44 rfl (by decide) ?_
  refine c_newi (fun x y => ((((x < 0) ∨ (x = 17 ∧ y = i)) ∨ (x = 18 ∧ y = i)) ∨ (x = 19 ∧ y = i)) ∨ (x = 20 ∧ y = i)) 20 (i) 80 (4, 320) 48 dX1_init_46 rfl rfl (by decide) (by decide) (by decide) hB9 hA8 (by omega) (hn _ _ (by unfold wDi; omega) (by omega)) (by first | omega | (dsimp only; omega)) rfl (fun _ _ => Iff.rfl) rfl (fun μ10 ad10 hB10 hA10 => ?_)
  refine c_ref (fs2 := [.inl 0, .inl 0, .inl 0, .inr (some (17, i)), .inr (some (18, i)), .inr (some (19, i)), .inr (some (20, i))]) 51 dX1_init_48 rfl pX1_31 rfl hB10 hA10 hU (by rw [uw_y (Or.inr ⟨rfl, rfl⟩)]; exact sn_ne) (Nat.le_of_ble_eq_true rfl) (fun _ => rfl) (fun _ => rfl) rfl (fun μ11 hB11 => ?_)
  refine e_vret dX1_init_51 rfl (by decide) (by decide) (k _ _ ?_ hA10)
  rw [uw_us (D := .inl (1, [.inl 0, .inl 0, .inl 0, .inr (some (17, i)), .inr (some (18, i)), .inr (some (19, i)), .inr (some (20, i))])) (g := 16) (i := i) (W2 := wDi i) (show _ = pfin 16 i from rfl) (fun x y => by (try simp only [wAc, wDi, wLe, wPe, wPl, wRe, wSe, wSh, wSo, wTo]); omega)] at hB11
  exact hB11
theorem n_letters {z : xZ} {d : Nat} {Q : xQ} {μ : xMem} {ad : Nat → Nat → Nat} {U : pU} {i : Nat} (hB : PB z.1 μ ad U) (h0 : U 21 i = some (.inl (2, [.inl 0, .inr none, .inr none, .inr none]))) (hn : ∀ x y, wLe i x y → ¬ (x = 21 ∧ y = i) → U x y = none) (k : ∀ μ2 ad2, PB z.1 μ2 ad2 (uw pfin (wLe i) U) → pAg U ad ad2 → Q none μ2) : Ex (Cf z) (d + 1) MX2_init 3 90 Q 0 [some (.ref (ad 21 i))] [] μ (0, 0) := by
  have hU : U 21 i ≠ none := sm_ne h0
  have hA0 : pAg U ad ad := fun _ _ _ => rfl
  have hB0 : PB z.1 μ ad (us (uw pfin (fun x _ => x < 0) U) 21 i (.inl (2, [.inl 0, .inr none, .inr none, .inr none]))) := by
    rw [uw_0 (fun x _ => Nat.not_lt_zero x), us_id h0]
    exact hB
  refine p_aload 1 dX2_init_0 rfl rfl ?_
  refine p_obj 4 dX2_init_1 rfl gX2_3 (by decide) ?_
  refine p_aload 5 dX2_init_4 rfl rfl ?_
  refine p_iconst 6 dX2_init_5 rfl ?_
  refine c_int (fs2 := [.inl 0, .inr none, .inr none, .inr none]) 9 dX2_init_6 rfl pX2_9 hB0 hA0 hU (Nat.le_of_ble_eq_true rfl) rfl rfl rfl (fun μ1 hB1 => ?_)
  refine p_aload 10 dX2_init_9 rfl rfl ?_
  refine p_bipush 12 dX2_init_10 rfl (by decide) ?_
  refine c_newi (fun x y => (x < 0) ∨ (x = 22 ∧ y = i)) 22 (i) 30 (1, 30) 14 dX2_init_12 rfl rfl (by decide) (by decide) (by decide) hB1 hA0 (by omega) (hn _ _ (by unfold wLe; omega) (by omega)) (by first | omega | (dsimp only; omega)) rfl (fun _ _ => Iff.rfl) rfl (fun μ2 ad2 hB2 hA2 => ?_)
  refine c_ref (fs2 := [.inl 0, .inr (some (22, i)), .inr none, .inr none]) 17 dX2_init_14 rfl pX2_15 rfl hB2 hA2 hU (by rw [uw_y (Or.inr ⟨rfl, rfl⟩)]; exact sn_ne) (Nat.le_of_ble_eq_true rfl) (fun _ => rfl) (fun _ => rfl) rfl (fun μ3 hB3 => ?_)
  refine p_aload 18 dX2_init_17 rfl rfl ?_
  refine p_bipush 20 dX2_init_18 rfl (by decide) ?_
  refine c_newi (fun x y => ((x < 0) ∨ (x = 22 ∧ y = i)) ∨ (x = 23 ∧ y = i)) 23 (i) 30 (2, 60) 22 dX2_init_20 rfl rfl (by decide) (by decide) (by decide) hB3 hA2 (by omega) (hn _ _ (by unfold wLe; omega) (by omega)) (by first | omega | (dsimp only; omega)) rfl (fun _ _ => Iff.rfl) rfl (fun μ4 ad4 hB4 hA4 => ?_)
  refine c_ref (fs2 := [.inl 0, .inr (some (22, i)), .inr (some (23, i)), .inr none]) 25 dX2_init_22 rfl pX2_19 rfl hB4 hA4 hU (by rw [uw_y (Or.inr ⟨rfl, rfl⟩)]; exact sn_ne) (Nat.le_of_ble_eq_true rfl) (fun _ => rfl) (fun _ => rfl) rfl (fun μ5 hB5 => ?_)
  refine p_aload 26 dX2_init_25 rfl rfl ?_
  refine p_bipush 28 dX2_init_26 rfl (by decide) ?_
  refine c_newi (fun x y => (((x < 0) ∨ (x = 22 ∧ y = i)) ∨ (x = 23 ∧ y = i)) ∨ (x = 24 ∧ y = i)) 24 (i) 30 (3, 90) 30 dX2_init_28 rfl rfl (by decide) (by decide) (by decide) hB5 hA4 (by omega) (hn _ _ (by unfold wLe; omega) (by omega)) (by first | omega | (dsimp only; omega)) rfl (fun _ _ => Iff.rfl) rfl (fun μ6 ad6 hB6 hA6 => ?_)
  refine c_ref (fs2 := [.inl 0, .inr (some (22, i)), .inr (some (23, i)), .inr (some (24, i))]) 33 dX2_init_30 rfl pX2_22 rfl hB6 hA6 hU (by rw [uw_y (Or.inr ⟨rfl, rfl⟩)]; exact sn_ne) (Nat.le_of_ble_eq_true rfl) (fun _ => rfl) (fun _ => rfl) rfl (fun μ7 hB7 => ?_)
  refine e_vret dX2_init_33 rfl (by decide) (by decide) (k _ _ ?_ hA6)
  rw [uw_us (D := .inl (2, [.inl 0, .inr (some (22, i)), .inr (some (23, i)), .inr (some (24, i))])) (g := 21) (i := i) (W2 := wLe i) (show _ = pfin 21 i from rfl) (fun x y => by (try simp only [wAc, wDi, wLe, wPe, wPl, wRe, wSe, wSh, wSo, wTo]); omega)] at hB7
  exact hB7
theorem n_person {z : xZ} {d : Nat} {Q : xQ} {μ : xMem} {ad : Nat → Nat → Nat} {U : pU} {i : Nat} (hB : PB z.1 μ ad U) (h0 : U 12 i = some (.inl (3, [.inl 0, .inl 0, .inl 0, .inl 0, .inl 0]))) (hn : ∀ x y, wPe i x y → ¬ (x = 12 ∧ y = i) → U x y = none) (k : ∀ μ2 ad2, PB z.1 μ2 ad2 (uw pfin (wPe i) U) → pAg U ad ad2 → Q none μ2) : Ex (Cf z) (d + 1) MX3_init 0 0 Q 0 [some (.ref (ad 12 i))] [] μ (0, 0) := by
  have hU : U 12 i ≠ none := sm_ne h0
  have hA0 : pAg U ad ad := fun _ _ _ => rfl
  have hB0 : PB z.1 μ ad (us (uw pfin (fun x _ => x < 0) U) 12 i (.inl (3, [.inl 0, .inl 0, .inl 0, .inl 0, .inl 0]))) := by
    rw [uw_0 (fun x _ => Nat.not_lt_zero x), us_id h0]
    exact hB
  refine p_aload 1 dX3_init_0 rfl rfl ?_
  refine p_obj 4 dX3_init_1 rfl gX3_1 (by decide) ?_
  refine e_vret dX3_init_4 rfl (by decide) (by decide) (k _ _ ?_ hA0)
  rw [uw_us (D := .inl (3, [.inl 0, .inl 0, .inl 0, .inl 0, .inl 0])) (g := 12) (i := i) (W2 := wPe i) (show _ = pfin 12 i from rfl) (fun x y => by (try simp only [wAc, wDi, wLe, wPe, wPl, wRe, wSe, wSh, wSo, wTo]); omega)] at hB0
  exact hB0
theorem n_source {z : xZ} {d : Nat} {Q : xQ} {μ : xMem} {ad : Nat → Nat → Nat} {U : pU} {i : Nat} (hB : PB z.1 μ ad U) (h0 : U 13 i = some (.inl (8, [.inl 0, .inl 0, .inl 0, .inl 0, .inl 0, .inl 0, .inl 0, .inl 0]))) (hn : ∀ x y, wSo i x y → ¬ (x = 13 ∧ y = i) → U x y = none) (k : ∀ μ2 ad2, PB z.1 μ2 ad2 (uw pfin (wSo i) U) → pAg U ad ad2 → Q none μ2) : Ex (Cf z) (d + 1) MX8_init 0 0 Q 0 [some (.ref (ad 13 i))] [] μ (0, 0) := by
  have hU : U 13 i ≠ none := sm_ne h0
  have hA0 : pAg U ad ad := fun _ _ _ => rfl
  have hB0 : PB z.1 μ ad (us (uw pfin (fun x _ => x < 0) U) 13 i (.inl (8, [.inl 0, .inl 0, .inl 0, .inl 0, .inl 0, .inl 0, .inl 0, .inl 0]))) := by
    rw [uw_0 (fun x _ => Nat.not_lt_zero x), us_id h0]
    exact hB
  refine p_aload 1 dX8_init_0 rfl rfl ?_
  refine p_obj 4 dX8_init_1 rfl gX8_3 (by decide) ?_
  refine e_vret dX8_init_4 rfl (by decide) (by decide) (k _ _ ?_ hA0)
  rw [uw_us (D := .inl (8, [.inl 0, .inl 0, .inl 0, .inl 0, .inl 0, .inl 0, .inl 0, .inl 0])) (g := 13) (i := i) (W2 := wSo i) (show _ = pfin 13 i from rfl) (fun x y => by (try simp only [wAc, wDi, wLe, wPe, wPl, wRe, wSe, wSh, wSo, wTo]); omega)] at hB0
  exact hB0
theorem n_shelf {z : xZ} {d : Nat} {Q : xQ} {μ : xMem} {ad : Nat → Nat → Nat} {U : pU} {i : Nat} (hB : PB z.1 μ ad U) (h0 : U 2 i = some (.inl (7, [.inl 0, .inl 0, .inr none]))) (hn : ∀ x y, wSh i x y → ¬ (x = 2 ∧ y = i) → U x y = none) (k : ∀ μ2 ad2, PB z.1 μ2 ad2 (uw pfin (wSh i) U) → pAg U ad ad2 → Q none μ2) : Ex (Cf z) (d + 1) MX7_init 1 60 Q 0 [some (.ref (ad 2 i))] [] μ (0, 0) := by
  have hU : U 2 i ≠ none := sm_ne h0
  have hA0 : pAg U ad ad := fun _ _ _ => rfl
  have hB0 : PB z.1 μ ad (us (uw pfin (fun x _ => x < 0) U) 2 i (.inl (7, [.inl 0, .inl 0, .inr none]))) := by
    rw [uw_0 (fun x _ => Nat.not_lt_zero x), us_id h0]
    exact hB
  refine p_aload 1 dX7_init_0 rfl rfl ?_
  refine p_obj 4 dX7_init_1 rfl gX7_3 (by decide) ?_
  refine p_aload 5 dX7_init_4 rfl rfl ?_
  refine p_iconst 6 dX7_init_5 rfl ?_
  refine c_int (fs2 := [.inl (-1), .inl 0, .inr none]) 9 dX7_init_6 rfl pX7_9 hB0 hA0 hU (Nat.le_of_ble_eq_true rfl) rfl rfl rfl (fun μ1 hB1 => ?_)
  refine p_aload 10 dX7_init_9 rfl rfl ?_
  refine p_iconst 11 dX7_init_10 rfl ?_
  refine c_int (fs2 := [.inl (-1), .inl 0, .inr none]) 14 dX7_init_11 rfl pX7_15 hB1 hA0 hU (Nat.le_of_ble_eq_true rfl) rfl rfl rfl (fun μ2 hB2 => ?_)
  refine p_aload 15 dX7_init_14 rfl rfl ?_
  refine p_bipush 17 dX7_init_15 rfl (by decide) ?_
  refine c_newl (fun x y => (x < 0) ∨ (x = 3 ∧ y = i)) 3 (i) 60 (1, 60) 19 dX7_init_17 rfl rfl (by decide) (by decide) (by decide) hB2 hA0 (by omega) (hn _ _ (by unfold wSh; omega) (by omega)) (by first | omega | (dsimp only; omega)) rfl (fun _ _ => Iff.rfl) rfl (fun μ3 ad3 hB3 hA3 => ?_)
  refine c_ref (fs2 := [.inl (-1), .inl 0, .inr (some (3, i))]) 22 dX7_init_19 rfl pX7_18 rfl hB3 hA3 hU (by rw [uw_y (Or.inr ⟨rfl, rfl⟩)]; exact sn_ne) (Nat.le_of_ble_eq_true rfl) (fun _ => rfl) (fun _ => rfl) rfl (fun μ4 hB4 => ?_)
  refine e_vret dX7_init_22 rfl (by decide) (by decide) (k _ _ ?_ hA3)
  rw [uw_us (D := .inl (7, [.inl (-1), .inl 0, .inr (some (3, i))])) (g := 2) (i := i) (W2 := wSh i) (show _ = pfin 2 i from rfl) (fun x y => by (try simp only [wAc, wDi, wLe, wPe, wPl, wRe, wSe, wSh, wSo, wTo]); omega)] at hB4
  exact hB4
theorem n_acts {z : xZ} {d : Nat} {Q : xQ} {μ : xMem} {ad : Nat → Nat → Nat} {U : pU} (hB : PB z.1 μ ad U) (h0 : U 33 0 = some (.inl (0, [.inr none, .inl 0, .inl 0, .inl 0, .inl 0]))) (hn : ∀ x y, wAc x y → ¬ (x = 33 ∧ y = 0) → U x y = none) (k : ∀ μ2 ad2, PB z.1 μ2 ad2 (uw pfin (wAc) U) → pAg U ad ad2 → Q none μ2) : Ex (Cf z) (d + 1) MX0_init 1 20 Q 0 [some (.ref (ad 33 0))] [] μ (0, 0) := by
  have hU : U 33 0 ≠ none := sm_ne h0
  have hA0 : pAg U ad ad := fun _ _ _ => rfl
  have hB0 : PB z.1 μ ad (us (uw pfin (fun x _ => x < 0) U) 33 0 (.inl (0, [.inr none, .inl 0, .inl 0, .inl 0, .inl 0]))) := by
    rw [uw_0 (fun x _ => Nat.not_lt_zero x), us_id h0]
    exact hB
  refine p_aload 1 dX0_init_0 rfl rfl ?_
  refine p_obj 4 dX0_init_1 rfl gX0_3 (by decide) ?_
  refine p_aload 5 dX0_init_4 rfl rfl ?_
  refine p_bipush 7 dX0_init_5 rfl (by decide) ?_
  refine c_newi (fun x y => (x < 0) ∨ (x = 34 ∧ y = 0)) 34 (0) 20 (1, 20) 9 dX0_init_7 rfl rfl (by decide) (by decide) (by decide) hB0 hA0 (by omega) (hn _ _ (by unfold wAc; omega) (by omega)) (by first | omega | (dsimp only; omega)) rfl (fun _ _ => Iff.rfl) rfl (fun μ1 ad1 hB1 hA1 => ?_)
  refine c_ref (fs2 := [.inr (some (34, 0)), .inl 0, .inl 0, .inl 0, .inl 0]) 12 dX0_init_9 rfl pX0_9 rfl hB1 hA1 hU (by rw [uw_y (Or.inr ⟨rfl, rfl⟩)]; exact sn_ne) (Nat.le_of_ble_eq_true rfl) (fun _ => rfl) (fun _ => rfl) rfl (fun μ2 hB2 => ?_)
  refine p_aload 13 dX0_init_12 rfl rfl ?_
  refine p_iconst 14 dX0_init_13 rfl ?_
  refine c_int (fs2 := [.inr (some (34, 0)), .inl 0, .inl 0, .inl 0, .inl 0]) 17 dX0_init_14 rfl pX0_15 hB2 hA1 hU (Nat.le_of_ble_eq_true rfl) rfl rfl rfl (fun μ3 hB3 => ?_)
  refine p_aload 18 dX0_init_17 rfl rfl ?_
  refine p_iconst 19 dX0_init_18 rfl ?_
  refine c_int (fs2 := [.inr (some (34, 0)), .inl 0, .inl 0, .inl 0, .inl 0]) 22 dX0_init_19 rfl pX0_19 hB3 hA1 hU (Nat.le_of_ble_eq_true rfl) rfl rfl rfl (fun μ4 hB4 => ?_)
  refine p_aload 23 dX0_init_22 rfl rfl ?_
  refine p_iconst 24 dX0_init_23 rfl ?_
  refine c_int (fs2 := [.inr (some (34, 0)), .inl 0, .inl 0, .inl 0, .inl 0]) 27 dX0_init_24 rfl pX0_22 hB4 hA1 hU (Nat.le_of_ble_eq_true rfl) rfl rfl rfl (fun μ5 hB5 => ?_)
  refine p_aload 28 dX0_init_27 rfl rfl ?_
  refine p_iconst 29 dX0_init_28 rfl ?_
  refine c_int (fs2 := [.inr (some (34, 0)), .inl 0, .inl 0, .inl 0, .inl 0]) 32 dX0_init_29 rfl pX0_25 hB5 hA1 hU (Nat.le_of_ble_eq_true rfl) rfl rfl rfl (fun μ6 hB6 => ?_)
  refine e_vret dX0_init_32 rfl (by decide) (by decide) (k _ _ ?_ hA1)
  rw [uw_us (D := .inl (0, [.inr (some (34, 0)), .inl 0, .inl 0, .inl 0, .inl 0])) (g := 33) (i := 0) (W2 := wAc) (show _ = pfin 33 0 from rfl) (fun x y => by (try simp only [wAc, wDi, wLe, wPe, wPl, wRe, wSe, wSh, wSo, wTo]); omega)] at hB6
  exact hB6
theorem n_reader {z : xZ} {d : Nat} {Q : xQ} {μ : xMem} {ad : Nat → Nat → Nat} {U : pU} (hB : PB z.1 μ ad U) (h0 : U 30 0 = some (.inl (5, [.inr none, .inl 0, .inl 0, .inl 0, .inl 0, .inl 0, .inr none, .inr none]))) (hn : ∀ x y, wRe x y → ¬ (x = 30 ∧ y = 0) → U x y = none) (k : ∀ μ2 ad2, PB z.1 μ2 ad2 (uw pfin (wRe) U) → pAg U ad ad2 → Q none μ2) : Ex (Cf z) (d + 2) MX5_init 8 112 Q 0 [some (.ref (ad 30 0))] [] μ (0, 0) := by
  have hU : U 30 0 ≠ none := sm_ne h0
  have hA0 : pAg U ad ad := fun _ _ _ => rfl
  have hB0 : PB z.1 μ ad (us (uw pfin (fun x _ => x < 0) U) 30 0 (.inl (5, [.inr none, .inl 0, .inl 0, .inl 0, .inl 0, .inl 0, .inr none, .inr none]))) := by
    rw [uw_0 (fun x _ => Nat.not_lt_zero x), us_id h0]
    exact hB
  refine p_aload 1 dX5_init_0 rfl rfl ?_
  refine p_obj 4 dX5_init_1 rfl gX5_3 (by decide) ?_
  refine p_aload 5 dX5_init_4 rfl rfl ?_
  refine p_bipush 7 dX5_init_5 rfl (by decide) ?_
  refine c_newi (fun x y => (x < 0) ∨ (x = 31 ∧ y = 0)) 31 (0) 60 (1, 60) 9 dX5_init_7 rfl rfl (by decide) (by decide) (by decide) hB0 hA0 (by omega) (hn _ _ (by unfold wRe; omega) (by omega)) (by first | omega | (dsimp only; omega)) rfl (fun _ _ => Iff.rfl) rfl (fun μ1 ad1 hB1 hA1 => ?_)
  refine c_ref (fs2 := [.inr (some (31, 0)), .inl 0, .inl 0, .inl 0, .inl 0, .inl 0, .inr none, .inr none]) 12 dX5_init_9 rfl pX5_9 rfl hB1 hA1 hU (by rw [uw_y (Or.inr ⟨rfl, rfl⟩)]; exact sn_ne) (Nat.le_of_ble_eq_true rfl) (fun _ => rfl) (fun _ => rfl) rfl (fun μ2 hB2 => ?_)
  refine p_aload 13 dX5_init_12 rfl rfl ?_
  refine p_iconst 14 dX5_init_13 rfl ?_
  refine c_int (fs2 := [.inr (some (31, 0)), .inl 0, .inl 0, .inl 0, .inl 0, .inl 0, .inr none, .inr none]) 17 dX5_init_14 rfl pX5_15 hB2 hA1 hU (Nat.le_of_ble_eq_true rfl) rfl rfl rfl (fun μ3 hB3 => ?_)
  refine p_aload 18 dX5_init_17 rfl rfl ?_
  refine p_iconst 19 dX5_init_18 rfl ?_
  refine c_int (fs2 := [.inr (some (31, 0)), .inl 0, .inl 0, .inl 0, .inl 0, .inl 0, .inr none, .inr none]) 22 dX5_init_19 rfl pX5_19 hB3 hA1 hU (Nat.le_of_ble_eq_true rfl) rfl rfl rfl (fun μ4 hB4 => ?_)
  refine p_aload 23 dX5_init_22 rfl rfl ?_
  refine p_iconst 24 dX5_init_23 rfl ?_
  refine c_int (fs2 := [.inr (some (31, 0)), .inl 0, .inl 0, .inl 0, .inl 0, .inl 0, .inr none, .inr none]) 27 dX5_init_24 rfl pX5_22 hB4 hA1 hU (Nat.le_of_ble_eq_true rfl) rfl rfl rfl (fun μ5 hB5 => ?_)
  refine p_aload 28 dX5_init_27 rfl rfl ?_
  refine p_iconst 29 dX5_init_28 rfl ?_
  refine c_int (fs2 := [.inr (some (31, 0)), .inl 0, .inl 0, .inl 0, .inl (-1), .inl 0, .inr none, .inr none]) 32 dX5_init_29 rfl pX5_25 hB5 hA1 hU (Nat.le_of_ble_eq_true rfl) rfl rfl rfl (fun μ6 hB6 => ?_)
  refine p_aload 33 dX5_init_32 rfl rfl ?_
  refine p_iconst 34 dX5_init_33 rfl ?_
  refine c_int (fs2 := [.inr (some (31, 0)), .inl 0, .inl 0, .inl 0, .inl (-1), .inl 0, .inr none, .inr none]) 37 dX5_init_34 rfl pX5_28 hB6 hA1 hU (Nat.le_of_ble_eq_true rfl) rfl rfl rfl (fun μ7 hB7 => ?_)
  refine p_aload 38 dX5_init_37 rfl rfl ?_
  refine p_bipush 40 dX5_init_38 rfl (by decide) ?_
  refine c_newi (fun x y => ((x < 0) ∨ (x = 31 ∧ y = 0)) ∨ (x = 32 ∧ y = 0)) 32 (0) 6 (2, 66) 42 dX5_init_40 rfl rfl (by decide) (by decide) (by decide) hB7 hA1 (by omega) (hn _ _ (by unfold wRe; omega) (by omega)) (by first | omega | (dsimp only; omega)) rfl (fun _ _ => Iff.rfl) rfl (fun μ8 ad8 hB8 hA8 => ?_)
  refine c_ref (fs2 := [.inr (some (31, 0)), .inl 0, .inl 0, .inl 0, .inl (-1), .inl 0, .inr (some (32, 0)), .inr none]) 45 dX5_init_42 rfl pX5_31 rfl hB8 hA8 hU (by rw [uw_y (Or.inr ⟨rfl, rfl⟩)]; exact sn_ne) (Nat.le_of_ble_eq_true rfl) (fun _ => rfl) (fun _ => rfl) rfl (fun μ9 hB9 => ?_)
  refine p_aload 46 dX5_init_45 rfl rfl ?_
  refine c_sub (r := (RX4, TX4, 6)) (ty := tyX4) (ci := 4) (N := MX4_init) (wPl (16)) 14 (16) [.inl 0, .inr none, .inr none, .inr none, .inr none, .inr none] 5 40 (8, 112) 53 49 50 dX5_init_46 rfl dX5_init_49 rfl dX5_init_50 rfl nX5_34 rfl tyX4_ok (by decide +kernel) (by decide) gX5_36 (Nat.le_of_ble_eq_true rfl) (Nat.le_of_ble_eq_true rfl) (by decide) (by decide) rfl hB9 (by rw [us_ne (by omega), uw_n (by (try simp only [wAc, wDi, wLe, wPe, wPl, wRe, wSe, wSh, wSo, wTo]); first | (simp; done) | omega)]; exact hn _ _ (by (try simp only [wAc, wDi, wLe, wPe, wPl, wRe, wSe, wSh, wSo, wTo]); first | (simp; done) | omega) (by omega)) (fun Q2 μ1 ad1 b1 kk => n_plan b1 (us_self _ _ _ _) (fun x y h1 h2 => by rw [us_ne (by (try simp only [wAc, wDi, wLe, wPe, wPl, wRe, wSe, wSh, wSo, wTo] at h1); omega), us_ne (by (try simp only [wAc, wDi, wLe, wPe, wPl, wRe, wSe, wSh, wSo, wTo] at h1); omega), uw_n (by (try simp only [wAc, wDi, wLe, wPe, wPl, wRe, wSe, wSh, wSo, wTo] at h1 ⊢); omega)]; exact hn x y (by (try simp only [wAc, wDi, wLe, wPe, wPl, wRe, wSe, wSh, wSo, wTo] at h1 ⊢); omega) (by (try simp only [wAc, wDi, wLe, wPe, wPl, wRe, wSe, wSh, wSo, wTo] at h1); omega)) kk) (fun μ10 ad10 hB10 hA10 => ?_)
  rw [uw_sub (W2 := fun x y => (((x < 0) ∨ (x = 31 ∧ y = 0)) ∨ (x = 32 ∧ y = 0)) ∨ (wPl (16) x y)) (by unfold wPl; omega) (by unfold wPl; omega) (fun _ _ => Iff.rfl)] at hB10
  replace hA10 := ag_us hA8 hA10
  refine c_ref (fs2 := [.inr (some (31, 0)), .inl 0, .inl 0, .inl 0, .inl (-1), .inl 0, .inr (some (32, 0)), .inr (some (14, 16))]) 56 dX5_init_53 rfl pX5_37 rfl hB10 hA10 hU (by rw [uw_y (Or.inr (by unfold wPl; omega))]; exact sn_ne) (Nat.le_of_ble_eq_true rfl) (fun _ => rfl) (fun _ => rfl) rfl (fun μ11 hB11 => ?_)
  refine e_vret dX5_init_56 rfl (by decide) (by decide) (k _ _ ?_ hA10)
  rw [uw_us (D := .inl (5, [.inr (some (31, 0)), .inl 0, .inl 0, .inl 0, .inl (-1), .inl 0, .inr (some (32, 0)), .inr (some (14, 16))])) (g := 30) (i := 0) (W2 := wRe) (show _ = pfin 30 0 from rfl) (fun x y => by (try simp only [wAc, wDi, wLe, wPe, wPl, wRe, wSe, wSh, wSo, wTo]); omega)] at hB11
  exact hB11
