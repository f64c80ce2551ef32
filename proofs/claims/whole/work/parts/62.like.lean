/-! ===== a town becomes like the other ===== -/
theorem sh_9b (z : xZ) : tsh z 9 1 = .inr (.inr (.inr (3, 12, fun j => xad z 12 (12 + j)))) := rfl
theorem sh_10b (z : xZ) : tsh z 10 1 = .inr (.inr (.inr (4, 14, fun j => xad z 13 (14 + j)))) := rfl
theorem sh_11b (z : xZ) : tsh z 11 1 = .inr (.inr (.inr (5, 8, fun j => xad z 14 (8 + j)))) := rfl
def inT (t g i : Nat) : Prop := ((g = 8 ∨ (16 ≤ g ∧ g ≤ 27)) ∧ i = t) ∨ (g = 12 ∧ 12 * t ≤ i ∧ i < 12 * t + 12) ∨ (g = 13 ∧ 14 * t ≤ i ∧ i < 14 * t + 14) ∨ (PG g ∧ 8 * t ≤ i ∧ i < 8 * t + 8)
/-- town t of c2 is as town f of c -/
def TL (c c2 : tC) (t f : Nat) : Prop := (∀ j, j < 6 → c2 8 t j = c 8 f j) ∧ (∀ i : Nat, (i : Int) < c 8 f 1 → ∀ j, j < 5 → c2 12 (12 * t + i) j = c 12 (12 * f + i) j) ∧ (∀ i : Nat, (i : Int) < c 8 f 2 → ∀ j, j < 8 → c2 13 (14 * t + i) j = c 13 (14 * f + i) j) ∧ (∀ i : Nat, (i : Int) < c 8 f 3 → c2 14 (8 * t + i) 0 = c 14 (8 * f + i) 0 ∧ ∀ g j, 41 ≤ g → g ≤ 45 → j < 8 → c2 g (8 * t + i) j = c g (8 * f + i) j) ∧ (∀ j, j < 3 → c2 16 t j = c 16 f j) ∧ (∀ g j, 17 ≤ g → g ≤ 20 → j < 80 → c2 g t j = c g f j) ∧ c2 21 t 0 = c 21 f 0 ∧ (∀ g j, 22 ≤ g → g ≤ 24 → j < 30 → c2 g t j = c g f j) ∧ (∀ j, j < 64 → c2 25 t j = c 25 f j) ∧ (∀ j, j < 10 → c2 26 t j = c 26 f j) ∧ ∀ j, j < 6 → c2 27 t j = c 27 f j
theorem x_perLike {z : xZ} {d : Nat} {Q : tQ} {c : tC} {L : tL} {m o : Nat} (hm : m < 24) (ho : o < 24) (hr : c 12 o 4 = 0 ∨ c 12 o 4 = 1) (k : ∀ c2, (∀ g i j, ¬ (g = 12 ∧ i = m) → c2 g i j = c g i j) → (∀ j, j < 5 → c2 12 m j = c 12 o j) → Q none c2 L) : En z (d + 2) MX3_becomeLike Q 0 [some (.ref (xad z 12 m)), some (.ref (xad z 12 o))] [] c L := by
  refine r_aloadN 1 dX3_becomeLike_0 rfl rfl ?_
  refine r_aloadN 2 dX3_becomeLike_1 rfl rfl ?_
  refine r_geti 5 dX3_becomeLike_2 rfl fX3_7 (ct_12 (by omega)) (sh_12 z _) rfl ?_
  refine r_aloadN 6 dX3_becomeLike_5 rfl rfl ?_
  refine r_geti 9 dX3_becomeLike_6 rfl fX3_13 (ct_12 (by omega)) (sh_12 z _) rfl ?_
  refine r_aloadN 10 dX3_becomeLike_9 rfl rfl ?_
  refine r_geti 13 dX3_becomeLike_10 rfl fX3_16 (ct_12 (by omega)) (sh_12 z _) rfl ?_
  refine r_aloadN 14 dX3_becomeLike_13 rfl rfl ?_
  refine r_geti 17 dX3_becomeLike_14 rfl fX3_19 (ct_12 (by omega)) (sh_12 z _) rfl ?_
  refine r_aloadN 18 dX3_becomeLike_17 rfl rfl ?_
  refine r_geti 21 dX3_becomeLike_18 rfl fX3_22 (ct_12 (by omega)) (sh_12 z _) rfl ?_
  refine r_cv5 24 dX3_becomeLike_21 rfl gX3_26 rfl (ct_12 (by omega)) (sh_12 z _) rfl rfl (Nat.le_of_ble_eq_true rfl) (Nat.le_of_ble_eq_true rfl) rfl ?_
  refine x_begin3 hm hr ?_
  refine r_vret dX3_becomeLike_24 rfl (k _ (fun g i j h => ?_) (fun j hj => ?_))
  · unfold uPer
    rw [cu_ap, if_neg (by omega), cu_ap, if_neg (by omega), cu_ap, if_neg (by omega), cu_ap, if_neg (by omega), cu_ap, if_neg (by omega)]
  · rcases (show j = 0 ∨ j = 1 ∨ j = 2 ∨ j = 3 ∨ j = 4 by omega) with e | e | e | e | e <;> (subst e; simp [uPer, cu_ap])
theorem x_srcLike {z : xZ} {d : Nat} {Q : tQ} {c : tC} {L : tL} {m o : Nat} (hm : m < 28) (ho : o < 28) (hmo : ¬ o = m) (k : ∀ c2, (∀ g i j, ¬ (g = 13 ∧ i = m) → c2 g i j = c g i j) → (∀ j, j < 8 → c2 13 m j = c 13 o j) → Q none c2 L) : En z (d + 1) MX8_becomeLike Q 0 [some (.ref (xad z 13 m)), some (.ref (xad z 13 o))] [] c L := by
  refine r_aloadN 1 dX8_becomeLike_0 rfl rfl ?_
  refine r_aloadN 2 dX8_becomeLike_1 rfl rfl ?_
  refine r_geti 5 dX8_becomeLike_2 rfl fX8_9 (ct_13 (by omega)) (sh_13 z _) rfl ?_
  refine r_puti 8 dX8_becomeLike_5 rfl pX8_9 (ct_13 (by omega)) (sh_13 z _) rfl ?_
  refine r_aloadN 9 dX8_becomeLike_8 rfl rfl ?_
  refine r_aloadN 10 dX8_becomeLike_9 rfl rfl ?_
  refine r_geti 13 dX8_becomeLike_10 rfl fX8_15 (ct_13 (by omega)) (sh_13 z _) rfl ?_
  refine r_puti 16 dX8_becomeLike_13 rfl pX8_15 (ct_13 (by omega)) (sh_13 z _) rfl ?_
  refine r_aloadN 17 dX8_becomeLike_16 rfl rfl ?_
  refine r_aloadN 18 dX8_becomeLike_17 rfl rfl ?_
  refine r_geti 21 dX8_becomeLike_18 rfl fX8_18 (ct_13 (by omega)) (sh_13 z _) rfl ?_
  refine r_puti 24 dX8_becomeLike_21 rfl pX8_18 (ct_13 (by omega)) (sh_13 z _) rfl ?_
  refine r_aloadN 25 dX8_becomeLike_24 rfl rfl ?_
  refine r_aloadN 26 dX8_becomeLike_25 rfl rfl ?_
  refine r_geti 29 dX8_becomeLike_26 rfl fX8_21 (ct_13 (by omega)) (sh_13 z _) rfl ?_
  refine r_puti 32 dX8_becomeLike_29 rfl pX8_21 (ct_13 (by omega)) (sh_13 z _) rfl ?_
  refine r_aloadN 33 dX8_becomeLike_32 rfl rfl ?_
  refine r_aloadN 34 dX8_becomeLike_33 rfl rfl ?_
  refine r_geti 37 dX8_becomeLike_34 rfl fX8_24 (ct_13 (by omega)) (sh_13 z _) rfl ?_
  refine r_puti 40 dX8_becomeLike_37 rfl pX8_24 (ct_13 (by omega)) (sh_13 z _) rfl ?_
  refine r_aloadN 41 dX8_becomeLike_40 rfl rfl ?_
  refine r_aloadN 42 dX8_becomeLike_41 rfl rfl ?_
  refine r_geti 45 dX8_becomeLike_42 rfl fX8_27 (ct_13 (by omega)) (sh_13 z _) rfl ?_
  refine r_puti 48 dX8_becomeLike_45 rfl pX8_27 (ct_13 (by omega)) (sh_13 z _) rfl ?_
  refine r_aloadN 49 dX8_becomeLike_48 rfl rfl ?_
  refine r_aloadN 50 dX8_becomeLike_49 rfl rfl ?_
  refine r_geti 53 dX8_becomeLike_50 rfl fX8_30 (ct_13 (by omega)) (sh_13 z _) rfl ?_
  refine r_puti 56 dX8_becomeLike_53 rfl pX8_30 (ct_13 (by omega)) (sh_13 z _) rfl ?_
  refine r_aloadN 57 dX8_becomeLike_56 rfl rfl ?_
  refine r_aloadN 58 dX8_becomeLike_57 rfl rfl ?_
  refine r_geti 61 dX8_becomeLike_58 rfl fX8_33 (ct_13 (by omega)) (sh_13 z _) rfl ?_
  refine r_puti 64 dX8_becomeLike_61 rfl pX8_33 (ct_13 (by omega)) (sh_13 z _) rfl ?_
  refine r_vret dX8_becomeLike_64 rfl (k _ (fun g i j h => ?_) (fun j hj => ?_))
  · rw [cu_ap, if_neg (by omega), cu_ap, if_neg (by omega), cu_ap, if_neg (by omega), cu_ap, if_neg (by omega), cu_ap, if_neg (by omega), cu_ap, if_neg (by omega), cu_ap, if_neg (by omega), cu_ap, if_neg (by omega)]
  · rcases (show j = 0 ∨ j = 1 ∨ j = 2 ∨ j = 3 ∨ j = 4 ∨ j = 5 ∨ j = 6 ∨ j = 7 by omega) with e | e | e | e | e | e | e | e <;> (subst e; simp [cu_ap, hmo])
theorem x_diaLike0 {z : xZ} {d : Nat} {Q : tQ} {c : tC} {L : tL}   (k : ∀ c2, (∀ g i j, ¬ ((16 ≤ g ∧ g ≤ 20) ∧ i = 0) → c2 g i j = c g i j) → (∀ j, j < 3 → c2 16 0 j = c 16 1 j) → (∀ g j, 17 ≤ g → g ≤ 20 → j < 80 → c2 g 0 j = c g 1 j) → Q none c2 L) : En z (d + 1) MX1_becomeLike Q 0 [some (.ref (xad z 16 0)), some (.ref (xad z 16 1))] [] c L := by
  refine r_aloadN 1 dX1_becomeLike_0 rfl rfl ?_
  refine r_aloadN 2 dX1_becomeLike_1 rfl rfl ?_
  refine r_geti 5 dX1_becomeLike_2 rfl fX1_9 (by decide) (sh_16 z _) rfl ?_
  refine r_puti 8 dX1_becomeLike_5 rfl pX1_9 (by decide) (sh_16 z _) rfl ?_
  refine r_aloadN 9 dX1_becomeLike_8 rfl rfl ?_
  refine r_aloadN 10 dX1_becomeLike_9 rfl rfl ?_
  refine r_geti 13 dX1_becomeLike_10 rfl fX1_15 (by decide) (sh_16 z _) rfl ?_
  refine r_puti 16 dX1_becomeLike_13 rfl pX1_15 (by decide) (sh_16 z _) rfl ?_
  refine r_aloadN 17 dX1_becomeLike_16 rfl rfl ?_
  refine r_aloadN 18 dX1_becomeLike_17 rfl rfl ?_
  refine r_geti 21 dX1_becomeLike_18 rfl fX1_18 (by decide) (sh_16 z _) rfl ?_
  refine r_puti 24 dX1_becomeLike_21 rfl pX1_18 (by decide) (sh_16 z _) rfl ?_
  refine r_aloadN 25 dX1_becomeLike_24 rfl rfl ?_
  refine r_getq 28 dX1_becomeLike_25 rfl fX1_21 (by decide) (sh_16 z _) rfl ?_
  refine r_iconst 29 dX1_becomeLike_28 rfl ?_
  refine r_aloadN 30 dX1_becomeLike_29 rfl rfl ?_
  refine r_getq 33 dX1_becomeLike_30 rfl fX1_21 (by decide) (sh_16 z _) rfl ?_
  refine r_iconst 34 dX1_becomeLike_33 rfl ?_
  refine r_bipush 36 dX1_becomeLike_34 rfl (by decide) ?_
  refine r_cpyi 39 dX1_becomeLike_36 rfl gX1_38 (by decide) (sh_17 z _) (by decide) (sh_17 z _) (by decide) (by omega) (by omega) (by omega) (by omega) (by omega) ?_
  refine r_aloadN 40 dX1_becomeLike_39 rfl rfl ?_
  refine r_getq 43 dX1_becomeLike_40 rfl fX1_25 (by decide) (sh_16 z _) rfl ?_
  refine r_iconst 44 dX1_becomeLike_43 rfl ?_
  refine r_aloadN 45 dX1_becomeLike_44 rfl rfl ?_
  refine r_getq 48 dX1_becomeLike_45 rfl fX1_25 (by decide) (sh_16 z _) rfl ?_
  refine r_iconst 49 dX1_becomeLike_48 rfl ?_
  refine r_bipush 51 dX1_becomeLike_49 rfl (by decide) ?_
  refine r_cpyi 54 dX1_becomeLike_51 rfl gX1_38 (by decide) (sh_18 z _) (by decide) (sh_18 z _) (by decide) (by omega) (by omega) (by omega) (by omega) (by omega) ?_
  refine r_aloadN 55 dX1_becomeLike_54 rfl rfl ?_
  refine r_getq 58 dX1_becomeLike_55 rfl fX1_28 (by decide) (sh_16 z _) rfl ?_
  refine r_iconst 59 dX1_becomeLike_58 rfl ?_
  refine r_aloadN 60 dX1_becomeLike_59 rfl rfl ?_
  refine r_getq 63 dX1_becomeLike_60 rfl fX1_28 (by decide) (sh_16 z _) rfl ?_
  refine r_iconst 64 dX1_becomeLike_63 rfl ?_
  refine r_bipush 66 dX1_becomeLike_64 rfl (by decide) ?_
  refine r_cpyi 69 dX1_becomeLike_66 rfl gX1_38 (by decide) (sh_19 z _) (by decide) (sh_19 z _) (by decide) (by omega) (by omega) (by omega) (by omega) (by omega) ?_
  refine r_aloadN 70 dX1_becomeLike_69 rfl rfl ?_
  refine r_getq 73 dX1_becomeLike_70 rfl fX1_31 (by decide) (sh_16 z _) rfl ?_
  refine r_iconst 74 dX1_becomeLike_73 rfl ?_
  refine r_aloadN 75 dX1_becomeLike_74 rfl rfl ?_
  refine r_getq 78 dX1_becomeLike_75 rfl fX1_31 (by decide) (sh_16 z _) rfl ?_
  refine r_iconst 79 dX1_becomeLike_78 rfl ?_
  refine r_bipush 81 dX1_becomeLike_79 rfl (by decide) ?_
  refine r_cpyi 84 dX1_becomeLike_81 rfl gX1_38 (by decide) (sh_20 z _) (by decide) (sh_20 z _) (by decide) (by omega) (by omega) (by omega) (by omega) (by omega) ?_
  refine r_vret dX1_becomeLike_84 rfl (k _ (fun g i j h => ?_) (fun j hj => ?_) (fun g j h1 h2 hj => ?_))
  · rw [cset_ap, if_neg (by omega), cset_ap, if_neg (by omega), cset_ap, if_neg (by omega), cset_ap, if_neg (by omega), cu_ap, if_neg (by omega), cu_ap, if_neg (by omega), cu_ap, if_neg (by omega)]
  · rcases (show j = 0 ∨ j = 1 ∨ j = 2 by omega) with e | e | e <;> (subst e; simp [cset_ap, cu_ap])
  · rcases (show g = 17 ∨ g = 18 ∨ g = 19 ∨ g = 20 by omega) with e | e | e | e <;> (subst e; simp [cset_ap, cu_ap, va_cpy, hj])
theorem x_letLike0 {z : xZ} {d : Nat} {Q : tQ} {c : tC} {L : tL}   (k : ∀ c2, (∀ g i j, ¬ ((21 ≤ g ∧ g ≤ 24) ∧ i = 0) → c2 g i j = c g i j) → c2 21 0 0 = c 21 1 0 → (∀ g j, 22 ≤ g → g ≤ 24 → j < 30 → c2 g 0 j = c g 1 j) → Q none c2 L) : En z (d + 1) MX2_becomeLike Q 0 [some (.ref (xad z 21 0)), some (.ref (xad z 21 1))] [] c L := by
  refine r_aloadN 1 dX2_becomeLike_0 rfl rfl ?_
  refine r_aloadN 2 dX2_becomeLike_1 rfl rfl ?_
  refine r_geti 5 dX2_becomeLike_2 rfl fX2_9 (by decide) (sh_21 z _) rfl ?_
  refine r_puti 8 dX2_becomeLike_5 rfl pX2_9 (by decide) (sh_21 z _) rfl ?_
  refine r_aloadN 9 dX2_becomeLike_8 rfl rfl ?_
  refine r_getq 12 dX2_becomeLike_9 rfl fX2_15 (by decide) (sh_21 z _) rfl ?_
  refine r_iconst 13 dX2_becomeLike_12 rfl ?_
  refine r_aloadN 14 dX2_becomeLike_13 rfl rfl ?_
  refine r_getq 17 dX2_becomeLike_14 rfl fX2_15 (by decide) (sh_21 z _) rfl ?_
  refine r_iconst 18 dX2_becomeLike_17 rfl ?_
  refine r_bipush 20 dX2_becomeLike_18 rfl (by decide) ?_
  refine r_cpyi 23 dX2_becomeLike_20 rfl gX2_25 (by decide) (sh_22 z _) (by decide) (sh_22 z _) (by decide) (by omega) (by omega) (by omega) (by omega) (by omega) ?_
  refine r_aloadN 24 dX2_becomeLike_23 rfl rfl ?_
  refine r_getq 27 dX2_becomeLike_24 rfl fX2_19 (by decide) (sh_21 z _) rfl ?_
  refine r_iconst 28 dX2_becomeLike_27 rfl ?_
  refine r_aloadN 29 dX2_becomeLike_28 rfl rfl ?_
  refine r_getq 32 dX2_becomeLike_29 rfl fX2_19 (by decide) (sh_21 z _) rfl ?_
  refine r_iconst 33 dX2_becomeLike_32 rfl ?_
  refine r_bipush 35 dX2_becomeLike_33 rfl (by decide) ?_
  refine r_cpyi 38 dX2_becomeLike_35 rfl gX2_25 (by decide) (sh_23 z _) (by decide) (sh_23 z _) (by decide) (by omega) (by omega) (by omega) (by omega) (by omega) ?_
  refine r_aloadN 39 dX2_becomeLike_38 rfl rfl ?_
  refine r_getq 42 dX2_becomeLike_39 rfl fX2_22 (by decide) (sh_21 z _) rfl ?_
  refine r_iconst 43 dX2_becomeLike_42 rfl ?_
  refine r_aloadN 44 dX2_becomeLike_43 rfl rfl ?_
  refine r_getq 47 dX2_becomeLike_44 rfl fX2_22 (by decide) (sh_21 z _) rfl ?_
  refine r_iconst 48 dX2_becomeLike_47 rfl ?_
  refine r_bipush 50 dX2_becomeLike_48 rfl (by decide) ?_
  refine r_cpyi 53 dX2_becomeLike_50 rfl gX2_25 (by decide) (sh_24 z _) (by decide) (sh_24 z _) (by decide) (by omega) (by omega) (by omega) (by omega) (by omega) ?_
  refine r_vret dX2_becomeLike_53 rfl (k _ (fun g i j h => ?_) ?_ (fun g j h1 h2 hj => ?_))
  · rw [cset_ap, if_neg (by omega), cset_ap, if_neg (by omega), cset_ap, if_neg (by omega), cu_ap, if_neg (by omega)]
  · simp [cset_ap, cu_ap]
  · rcases (show g = 22 ∨ g = 23 ∨ g = 24 by omega) with e | e | e <;> (subst e; simp [cset_ap, cu_ap, va_cpy, hj])
theorem x_diaLike1 {z : xZ} {d : Nat} {Q : tQ} {c : tC} {L : tL}   (k : ∀ c2, (∀ g i j, ¬ ((16 ≤ g ∧ g ≤ 20) ∧ i = 1) → c2 g i j = c g i j) → (∀ j, j < 3 → c2 16 1 j = c 16 0 j) → (∀ g j, 17 ≤ g → g ≤ 20 → j < 80 → c2 g 1 j = c g 0 j) → Q none c2 L) : En z (d + 1) MX1_becomeLike Q 0 [some (.ref (xad z 16 1)), some (.ref (xad z 16 0))] [] c L := by
  refine r_aloadN 1 dX1_becomeLike_0 rfl rfl ?_
  refine r_aloadN 2 dX1_becomeLike_1 rfl rfl ?_
  refine r_geti 5 dX1_becomeLike_2 rfl fX1_9 (by decide) (sh_16 z _) rfl ?_
  refine r_puti 8 dX1_becomeLike_5 rfl pX1_9 (by decide) (sh_16 z _) rfl ?_
  refine r_aloadN 9 dX1_becomeLike_8 rfl rfl ?_
  refine r_aloadN 10 dX1_becomeLike_9 rfl rfl ?_
  refine r_geti 13 dX1_becomeLike_10 rfl fX1_15 (by decide) (sh_16 z _) rfl ?_
  refine r_puti 16 dX1_becomeLike_13 rfl pX1_15 (by decide) (sh_16 z _) rfl ?_
  refine r_aloadN 17 dX1_becomeLike_16 rfl rfl ?_
  refine r_aloadN 18 dX1_becomeLike_17 rfl rfl ?_
  refine r_geti 21 dX1_becomeLike_18 rfl fX1_18 (by decide) (sh_16 z _) rfl ?_
  refine r_puti 24 dX1_becomeLike_21 rfl pX1_18 (by decide) (sh_16 z _) rfl ?_
  refine r_aloadN 25 dX1_becomeLike_24 rfl rfl ?_
  refine r_getq 28 dX1_becomeLike_25 rfl fX1_21 (by decide) (sh_16 z _) rfl ?_
  refine r_iconst 29 dX1_becomeLike_28 rfl ?_
  refine r_aloadN 30 dX1_becomeLike_29 rfl rfl ?_
  refine r_getq 33 dX1_becomeLike_30 rfl fX1_21 (by decide) (sh_16 z _) rfl ?_
  refine r_iconst 34 dX1_becomeLike_33 rfl ?_
  refine r_bipush 36 dX1_becomeLike_34 rfl (by decide) ?_
  refine r_cpyi 39 dX1_becomeLike_36 rfl gX1_38 (by decide) (sh_17 z _) (by decide) (sh_17 z _) (by decide) (by omega) (by omega) (by omega) (by omega) (by omega) ?_
  refine r_aloadN 40 dX1_becomeLike_39 rfl rfl ?_
  refine r_getq 43 dX1_becomeLike_40 rfl fX1_25 (by decide) (sh_16 z _) rfl ?_
  refine r_iconst 44 dX1_becomeLike_43 rfl ?_
  refine r_aloadN 45 dX1_becomeLike_44 rfl rfl ?_
  refine r_getq 48 dX1_becomeLike_45 rfl fX1_25 (by decide) (sh_16 z _) rfl ?_
  refine r_iconst 49 dX1_becomeLike_48 rfl ?_
  refine r_bipush 51 dX1_becomeLike_49 rfl (by decide) ?_
  refine r_cpyi 54 dX1_becomeLike_51 rfl gX1_38 (by decide) (sh_18 z _) (by decide) (sh_18 z _) (by decide) (by omega) (by omega) (by omega) (by omega) (by omega) ?_
  refine r_aloadN 55 dX1_becomeLike_54 rfl rfl ?_
  refine r_getq 58 dX1_becomeLike_55 rfl fX1_28 (by decide) (sh_16 z _) rfl ?_
  refine r_iconst 59 dX1_becomeLike_58 rfl ?_
  refine r_aloadN 60 dX1_becomeLike_59 rfl rfl ?_
  refine r_getq 63 dX1_becomeLike_60 rfl fX1_28 (by decide) (sh_16 z _) rfl ?_
  refine r_iconst 64 dX1_becomeLike_63 rfl ?_
  refine r_bipush 66 dX1_becomeLike_64 rfl (by decide) ?_
  refine r_cpyi 69 dX1_becomeLike_66 rfl gX1_38 (by decide) (sh_19 z _) (by decide) (sh_19 z _) (by decide) (by omega) (by omega) (by omega) (by omega) (by omega) ?_
  refine r_aloadN 70 dX1_becomeLike_69 rfl rfl ?_
  refine r_getq 73 dX1_becomeLike_70 rfl fX1_31 (by decide) (sh_16 z _) rfl ?_
  refine r_iconst 74 dX1_becomeLike_73 rfl ?_
  refine r_aloadN 75 dX1_becomeLike_74 rfl rfl ?_
  refine r_getq 78 dX1_becomeLike_75 rfl fX1_31 (by decide) (sh_16 z _) rfl ?_
  refine r_iconst 79 dX1_becomeLike_78 rfl ?_
  refine r_bipush 81 dX1_becomeLike_79 rfl (by decide) ?_
  refine r_cpyi 84 dX1_becomeLike_81 rfl gX1_38 (by decide) (sh_20 z _) (by decide) (sh_20 z _) (by decide) (by omega) (by omega) (by omega) (by omega) (by omega) ?_
  refine r_vret dX1_becomeLike_84 rfl (k _ (fun g i j h => ?_) (fun j hj => ?_) (fun g j h1 h2 hj => ?_))
  · rw [cset_ap, if_neg (by omega), cset_ap, if_neg (by omega), cset_ap, if_neg (by omega), cset_ap, if_neg (by omega), cu_ap, if_neg (by omega), cu_ap, if_neg (by omega), cu_ap, if_neg (by omega)]
  · rcases (show j = 0 ∨ j = 1 ∨ j = 2 by omega) with e | e | e <;> (subst e; simp [cset_ap, cu_ap])
  · rcases (show g = 17 ∨ g = 18 ∨ g = 19 ∨ g = 20 by omega) with e | e | e | e <;> (subst e; simp [cset_ap, cu_ap, va_cpy, hj])
theorem x_letLike1 {z : xZ} {d : Nat} {Q : tQ} {c : tC} {L : tL}   (k : ∀ c2, (∀ g i j, ¬ ((21 ≤ g ∧ g ≤ 24) ∧ i = 1) → c2 g i j = c g i j) → c2 21 1 0 = c 21 0 0 → (∀ g j, 22 ≤ g → g ≤ 24 → j < 30 → c2 g 1 j = c g 0 j) → Q none c2 L) : En z (d + 1) MX2_becomeLike Q 0 [some (.ref (xad z 21 1)), some (.ref (xad z 21 0))] [] c L := by
  refine r_aloadN 1 dX2_becomeLike_0 rfl rfl ?_
  refine r_aloadN 2 dX2_becomeLike_1 rfl rfl ?_
  refine r_geti 5 dX2_becomeLike_2 rfl fX2_9 (by decide) (sh_21 z _) rfl ?_
  refine r_puti 8 dX2_becomeLike_5 rfl pX2_9 (by decide) (sh_21 z _) rfl ?_
  refine r_aloadN 9 dX2_becomeLike_8 rfl rfl ?_
  refine r_getq 12 dX2_becomeLike_9 rfl fX2_15 (by decide) (sh_21 z _) rfl ?_
  refine r_iconst 13 dX2_becomeLike_12 rfl ?_
  refine r_aloadN 14 dX2_becomeLike_13 rfl rfl ?_
  refine r_getq 17 dX2_becomeLike_14 rfl fX2_15 (by decide) (sh_21 z _) rfl ?_
  refine r_iconst 18 dX2_becomeLike_17 rfl ?_
  refine r_bipush 20 dX2_becomeLike_18 rfl (by decide) ?_
  refine r_cpyi 23 dX2_becomeLike_20 rfl gX2_25 (by decide) (sh_22 z _) (by decide) (sh_22 z _) (by decide) (by omega) (by omega) (by omega) (by omega) (by omega) ?_
  refine r_aloadN 24 dX2_becomeLike_23 rfl rfl ?_
  refine r_getq 27 dX2_becomeLike_24 rfl fX2_19 (by decide) (sh_21 z _) rfl ?_
  refine r_iconst 28 dX2_becomeLike_27 rfl ?_
  refine r_aloadN 29 dX2_becomeLike_28 rfl rfl ?_
  refine r_getq 32 dX2_becomeLike_29 rfl fX2_19 (by decide) (sh_21 z _) rfl ?_
  refine r_iconst 33 dX2_becomeLike_32 rfl ?_
  refine r_bipush 35 dX2_becomeLike_33 rfl (by decide) ?_
  refine r_cpyi 38 dX2_becomeLike_35 rfl gX2_25 (by decide) (sh_23 z _) (by decide) (sh_23 z _) (by decide) (by omega) (by omega) (by omega) (by omega) (by omega) ?_
  refine r_aloadN 39 dX2_becomeLike_38 rfl rfl ?_
  refine r_getq 42 dX2_becomeLike_39 rfl fX2_22 (by decide) (sh_21 z _) rfl ?_
  refine r_iconst 43 dX2_becomeLike_42 rfl ?_
  refine r_aloadN 44 dX2_becomeLike_43 rfl rfl ?_
  refine r_getq 47 dX2_becomeLike_44 rfl fX2_22 (by decide) (sh_21 z _) rfl ?_
  refine r_iconst 48 dX2_becomeLike_47 rfl ?_
  refine r_bipush 50 dX2_becomeLike_48 rfl (by decide) ?_
  refine r_cpyi 53 dX2_becomeLike_50 rfl gX2_25 (by decide) (sh_24 z _) (by decide) (sh_24 z _) (by decide) (by omega) (by omega) (by omega) (by omega) (by omega) ?_
  refine r_vret dX2_becomeLike_53 rfl (k _ (fun g i j h => ?_) ?_ (fun g j h1 h2 hj => ?_))
  · rw [cset_ap, if_neg (by omega), cset_ap, if_neg (by omega), cset_ap, if_neg (by omega), cu_ap, if_neg (by omega)]
  · simp [cset_ap, cu_ap]
  · rcases (show g = 22 ∨ g = 23 ∨ g = 24 by omega) with e | e | e <;> (subst e; simp [cset_ap, cu_ap, va_cpy, hj])
theorem x_tl_per0 {z : xZ} {d : Nat} {Q : tQ} {L : tL} {n : Nat} {c0 : tC} (hn : n ≤ 12) (hc0 : c0 8 0 1 = (n : Int)) (hr : ∀ i : Nat, i < n → c0 12 (12 + i) 4 = 0 ∨ c0 12 (12 + i) 4 = 1) (kk : ∀ c v2, (∀ g a b, ¬ (g = 12 ∧ 0 ≤ a ∧ a < 12) → c g a b = c0 g a b) → (∀ i : Nat, i < n → ∀ b, b < 5 → c 12 (0 + i) b = c0 12 (12 + i) b) → En z (d + 3) MX9_becomeLike Q 79 [some (.ref (xad z 8 0)), some (.ref (xad z 8 1)), v2] [] c L) : ∀ (k i : Nat) (c : tC), i + k = n → (∀ g a b, ¬ (g = 12 ∧ 0 ≤ a ∧ a < 12) → c g a b = c0 g a b) → (∀ a : Nat, a < i → ∀ b, b < 5 → c 12 (0 + a) b = c0 12 (12 + a) b) → En z (d + 3) MX9_becomeLike Q 50 [some (.ref (xad z 8 0)), some (.ref (xad z 8 1)), some (.int (iI (i : Int)))] [] c L := by
  intro k
  induction k with
  | zero =>
    intro i c hi hF hX
    refine r_iloadN 51 dX9_becomeLike_50 rfl rfl ?_
    refine r_aloadN 52 dX9_becomeLike_51 rfl rfl ?_
    refine r_geti 55 dX9_becomeLike_52 rfl fX9_15 (by decide) (sh_8 z _) rfl ?_
    rw [hF 8 0 1 (by omega), hc0]
    refine r_icge 79 58 dX9_becomeLike_55 rfl (by decide) (by omega) (by omega) (fun h55 => ?_) (fun h55 => ?_)
    · exact kk c _ hF (fun a ha => hX a (by omega))
    · exfalso; omega
  | succ k ih =>
    intro i c hi hF hX
    refine r_iloadN 51 dX9_becomeLike_50 rfl rfl ?_
    refine r_aloadN 52 dX9_becomeLike_51 rfl rfl ?_
    refine r_geti 55 dX9_becomeLike_52 rfl fX9_15 (by decide) (sh_8 z _) rfl ?_
    rw [hF 8 0 1 (by omega), hc0]
    refine r_icge 79 58 dX9_becomeLike_55 rfl (by decide) (by omega) (by omega) (fun h55 => ?_) (fun h55 => ?_)
    · exfalso; omega
    · refine r_aloadN 59 dX9_becomeLike_58 rfl rfl ?_
      refine r_getq 62 dX9_becomeLike_59 rfl fX9_32 (by decide) (sh_8 z _) rfl ?_
      refine r_iloadN 63 dX9_becomeLike_62 rfl rfl ?_
      refine r_aald 64 dX9_becomeLike_63 (i) rfl rfl (by decide) (sh_9a z) rfl (by decide) (by omega) (by omega) ?_
      refine r_aloadN 65 dX9_becomeLike_64 rfl rfl ?_
      refine r_getq 68 dX9_becomeLike_65 rfl fX9_32 (by decide) (sh_8 z _) rfl ?_
      refine r_iloadN 69 dX9_becomeLike_68 rfl rfl ?_
      refine r_aald 70 dX9_becomeLike_69 (i) rfl rfl (by decide) (sh_9b z) rfl (by decide) (by omega) (by omega) ?_
      refine r_cv1 73 dX9_becomeLike_70 rfl gX9_84 rfl (ct_12 (by omega)) (sh_12 z _) rfl rfl (Nat.le_of_ble_eq_true rfl) (Nat.le_of_ble_eq_true rfl) rfl ?_
      refine x_perLike (m := i) (o := 12 + i) (by omega) (by omega) (by rw [hF 12 (12 + i) 4 (by omega)]; exact hr i (by omega)) (fun c2 g1 g2 => ?_)
      refine r_iinc2 76 dX9_becomeLike_73 rfl rfl (by decide) ?_
      refine r_goto 50 dX9_becomeLike_76 (by decide) ?_
      refine ih (i + 1) _ (by omega) (fun g a b n => ?_) (fun a ha => ?_)
      · rw [g1 g a b (by omega)]
        exact hF g a b n
      · by_cases q : a = i
        · rw [q]
          intro b hb
          rw [show 0 + i = i by omega, show 12 + i = 12 + i by omega, g2 b hb]
          exact hF 12 _ b (by omega)
        · have := hX a (by omega)
          intro b hb
          rw [g1 12 _ b (by omega)]
          exact this b hb
theorem x_tl_src0 {z : xZ} {d : Nat} {Q : tQ} {L : tL} {n : Nat} {c0 : tC} (hn : n ≤ 14) (hc0 : c0 8 0 2 = (n : Int)) (kk : ∀ c v2, (∀ g a b, ¬ (g = 13 ∧ 0 ≤ a ∧ a < 14) → c g a b = c0 g a b) → (∀ i : Nat, i < n → ∀ b, b < 8 → c 13 (0 + i) b = c0 13 (14 + i) b) → En z (d + 3) MX9_becomeLike Q 110 [some (.ref (xad z 8 0)), some (.ref (xad z 8 1)), v2] [] c L) : ∀ (k i : Nat) (c : tC), i + k = n → (∀ g a b, ¬ (g = 13 ∧ 0 ≤ a ∧ a < 14) → c g a b = c0 g a b) → (∀ a : Nat, a < i → ∀ b, b < 8 → c 13 (0 + a) b = c0 13 (14 + a) b) → En z (d + 3) MX9_becomeLike Q 81 [some (.ref (xad z 8 0)), some (.ref (xad z 8 1)), some (.int (iI (i : Int)))] [] c L := by
  intro k
  induction k with
  | zero =>
    intro i c hi hF hX
    refine r_iloadN 82 dX9_becomeLike_81 rfl rfl ?_
    refine r_aloadN 83 dX9_becomeLike_82 rfl rfl ?_
    refine r_geti 86 dX9_becomeLike_83 rfl fX9_18 (by decide) (sh_8 z _) rfl ?_
    rw [hF 8 0 2 (by omega), hc0]
    refine r_icge 110 89 dX9_becomeLike_86 rfl (by decide) (by omega) (by omega) (fun h86 => ?_) (fun h86 => ?_)
    · exact kk c _ hF (fun a ha => hX a (by omega))
    · exfalso; omega
  | succ k ih =>
    intro i c hi hF hX
    refine r_iloadN 82 dX9_becomeLike_81 rfl rfl ?_
    refine r_aloadN 83 dX9_becomeLike_82 rfl rfl ?_
    refine r_geti 86 dX9_becomeLike_83 rfl fX9_18 (by decide) (sh_8 z _) rfl ?_
    rw [hF 8 0 2 (by omega), hc0]
    refine r_icge 110 89 dX9_becomeLike_86 rfl (by decide) (by omega) (by omega) (fun h86 => ?_) (fun h86 => ?_)
    · exfalso; omega
    · refine r_aloadN 90 dX9_becomeLike_89 rfl rfl ?_
      refine r_getq 93 dX9_becomeLike_90 rfl fX9_38 (by decide) (sh_8 z _) rfl ?_
      refine r_iloadN 94 dX9_becomeLike_93 rfl rfl ?_
      refine r_aald 95 dX9_becomeLike_94 (i) rfl rfl (by decide) (sh_10a z) rfl (by decide) (by omega) (by omega) ?_
      refine r_aloadN 96 dX9_becomeLike_95 rfl rfl ?_
      refine r_getq 99 dX9_becomeLike_96 rfl fX9_38 (by decide) (sh_8 z _) rfl ?_
      refine r_iloadN 100 dX9_becomeLike_99 rfl rfl ?_
      refine r_aald 101 dX9_becomeLike_100 (i) rfl rfl (by decide) (sh_10b z) rfl (by decide) (by omega) (by omega) ?_
      refine r_cv1 104 dX9_becomeLike_101 rfl gX9_88 rfl (ct_13 (by omega)) (sh_13 z _) rfl rfl (Nat.le_of_ble_eq_true rfl) (Nat.le_of_ble_eq_true rfl) rfl ?_
      refine x_srcLike (m := i) (o := 14 + i) (by omega) (by omega) (by omega) (fun c2 g1 g2 => ?_)
      refine r_iinc2 107 dX9_becomeLike_104 rfl rfl (by decide) ?_
      refine r_goto 81 dX9_becomeLike_107 (by decide) ?_
      refine ih (i + 1) _ (by omega) (fun g a b n => ?_) (fun a ha => ?_)
      · rw [g1 g a b (by omega)]
        exact hF g a b n
      · by_cases q : a = i
        · rw [q]
          intro b hb
          rw [show 0 + i = i by omega, show 14 + i = 14 + i by omega, g2 b hb]
          exact hF 13 _ b (by omega)
        · have := hX a (by omega)
          intro b hb
          rw [g1 13 _ b (by omega)]
          exact this b hb
theorem x_tl_pla0 {z : xZ} {d : Nat} {Q : tQ} {L : tL} {n : Nat} {c0 : tC} (hn : n ≤ 8) (hc0 : c0 8 0 3 = (n : Int)) (kk : ∀ c v2, (∀ g a b, ¬ (PG g ∧ 0 ≤ a ∧ a < 8) → c g a b = c0 g a b) → (∀ i : Nat, i < n → c 14 (0 + i) 0 = c0 14 (8 + i) 0 ∧ ∀ g j, 41 ≤ g → g ≤ 45 → j < 8 → c g (0 + i) j = c0 g (8 + i) j) → En z (d + 3) MX9_becomeLike Q 141 [some (.ref (xad z 8 0)), some (.ref (xad z 8 1)), v2] [] c L) : ∀ (k i : Nat) (c : tC), i + k = n → (∀ g a b, ¬ (PG g ∧ 0 ≤ a ∧ a < 8) → c g a b = c0 g a b) → (∀ a : Nat, a < i → c 14 (0 + a) 0 = c0 14 (8 + a) 0 ∧ ∀ g j, 41 ≤ g → g ≤ 45 → j < 8 → c g (0 + a) j = c0 g (8 + a) j) → En z (d + 3) MX9_becomeLike Q 112 [some (.ref (xad z 8 0)), some (.ref (xad z 8 1)), some (.int (iI (i : Int)))] [] c L := by
  intro k
  induction k with
  | zero =>
    intro i c hi hF hX
    refine r_iloadN 113 dX9_becomeLike_112 rfl rfl ?_
    refine r_aloadN 114 dX9_becomeLike_113 rfl rfl ?_
    refine r_geti 117 dX9_becomeLike_114 rfl fX9_21 (by decide) (sh_8 z _) rfl ?_
    rw [hF 8 0 3 (by omega), hc0]
    refine r_icge 141 120 dX9_becomeLike_117 rfl (by decide) (by omega) (by omega) (fun h117 => ?_) (fun h117 => ?_)
    · exact kk c _ hF (fun a ha => hX a (by omega))
    · exfalso; omega
  | succ k ih =>
    intro i c hi hF hX
    refine r_iloadN 113 dX9_becomeLike_112 rfl rfl ?_
    refine r_aloadN 114 dX9_becomeLike_113 rfl rfl ?_
    refine r_geti 117 dX9_becomeLike_114 rfl fX9_21 (by decide) (sh_8 z _) rfl ?_
    rw [hF 8 0 3 (by omega), hc0]
    refine r_icge 141 120 dX9_becomeLike_117 rfl (by decide) (by omega) (by omega) (fun h117 => ?_) (fun h117 => ?_)
    · exfalso; omega
    · refine r_aloadN 121 dX9_becomeLike_120 rfl rfl ?_
      refine r_getq 124 dX9_becomeLike_121 rfl fX9_44 (by decide) (sh_8 z _) rfl ?_
      refine r_iloadN 125 dX9_becomeLike_124 rfl rfl ?_
      refine r_aald 126 dX9_becomeLike_125 (i) rfl rfl (by decide) (sh_11a z) rfl (by decide) (by omega) (by omega) ?_
      refine r_aloadN 127 dX9_becomeLike_126 rfl rfl ?_
      refine r_getq 130 dX9_becomeLike_127 rfl fX9_44 (by decide) (sh_8 z _) rfl ?_
      refine r_iloadN 131 dX9_becomeLike_130 rfl rfl ?_
      refine r_aald 132 dX9_becomeLike_131 (i) rfl rfl (by decide) (sh_11b z) rfl (by decide) (by omega) (by omega) ?_
      refine r_cv1 135 dX9_becomeLike_132 rfl gX9_91 rfl (ct_14 (by omega)) (sh_14 z _) rfl rfl (Nat.le_of_ble_eq_true rfl) (Nat.le_of_ble_eq_true rfl) rfl ?_
      refine x_planLike (m := i) (o := 8 + i) (by omega) (by omega) (by omega) (fun c2 g1 g2 g3 => ?_)
      refine r_iinc2 138 dX9_becomeLike_135 rfl rfl (by decide) ?_
      refine r_goto 112 dX9_becomeLike_138 (by decide) ?_
      refine ih (i + 1) _ (by omega) (fun g a b n => ?_) (fun a ha => ?_)
      · rw [g1 g a b (by omega)]
        exact hF g a b n
      · by_cases q : a = i
        · rw [q]
          rw [show 0 + i = i by omega, show 8 + i = 8 + i by omega, g2]
          refine ⟨hF 14 _ 0 (by omega), fun g j h1 h2 hj => ?_⟩
          rw [g3 g j h1 h2 hj]
          exact hF g _ j (by omega)
        · have := hX a (by omega)
          refine ⟨by rw [g1 14 _ 0 (by omega)]; exact this.1, fun g j h1 h2 hj => ?_⟩
          rw [g1 g _ j (by omega)]
          exact this.2 g j h1 h2 hj
theorem x_townLike0 {z : xZ} {d : Nat} {Q : tQ} {c : tC} {L : tL} {np ns nl : Nat} (h1 : c 8 1 1 = (np : Int)) (h2 : c 8 1 2 = (ns : Int)) (h3 : c 8 1 3 = (nl : Int)) (l1 : np ≤ 12) (l2 : ns ≤ 14) (l3 : nl ≤ 8) (hr : ∀ i : Nat, i < np → c 12 (12 + i) 4 = 0 ∨ c 12 (12 + i) 4 = 1) (k : ∀ c2, (∀ g i j, ¬ inT 0 g i → c2 g i j = c g i j) → TL c c2 0 1 → Q none c2 L) : En z (d + 3) MX9_becomeLike Q 0 [some (.ref (xad z 8 0)), some (.ref (xad z 8 1)), none] [] c L := by
  refine r_aloadN 1 dX9_becomeLike_0 rfl rfl ?_
  refine r_aloadN 2 dX9_becomeLike_1 rfl rfl ?_
  refine r_geti 5 dX9_becomeLike_2 rfl fX9_9 (by decide) (sh_8 z _) rfl ?_
  refine r_puti 8 dX9_becomeLike_5 rfl pX9_9 (by decide) (sh_8 z _) rfl ?_
  refine r_aloadN 9 dX9_becomeLike_8 rfl rfl ?_
  refine r_aloadN 10 dX9_becomeLike_9 rfl rfl ?_
  refine r_geti 13 dX9_becomeLike_10 rfl fX9_15 (by decide) (sh_8 z _) rfl ?_
  (try simp only [cu_ap, Nat.reduceEqDiff, false_and, and_false, if_false, reduceIte])
  refine r_puti 16 dX9_becomeLike_13 rfl pX9_15 (by decide) (sh_8 z _) rfl ?_
  refine r_aloadN 17 dX9_becomeLike_16 rfl rfl ?_
  refine r_aloadN 18 dX9_becomeLike_17 rfl rfl ?_
  refine r_geti 21 dX9_becomeLike_18 rfl fX9_18 (by decide) (sh_8 z _) rfl ?_
  (try simp only [cu_ap, Nat.reduceEqDiff, false_and, and_false, if_false, reduceIte])
  refine r_puti 24 dX9_becomeLike_21 rfl pX9_18 (by decide) (sh_8 z _) rfl ?_
  refine r_aloadN 25 dX9_becomeLike_24 rfl rfl ?_
  refine r_aloadN 26 dX9_becomeLike_25 rfl rfl ?_
  refine r_geti 29 dX9_becomeLike_26 rfl fX9_21 (by decide) (sh_8 z _) rfl ?_
  (try simp only [cu_ap, Nat.reduceEqDiff, false_and, and_false, if_false, reduceIte])
  refine r_puti 32 dX9_becomeLike_29 rfl pX9_21 (by decide) (sh_8 z _) rfl ?_
  refine r_aloadN 33 dX9_becomeLike_32 rfl rfl ?_
  refine r_aloadN 34 dX9_becomeLike_33 rfl rfl ?_
  refine r_geti 37 dX9_becomeLike_34 rfl fX9_24 (by decide) (sh_8 z _) rfl ?_
  (try simp only [cu_ap, Nat.reduceEqDiff, false_and, and_false, if_false, reduceIte])
  refine r_puti 40 dX9_becomeLike_37 rfl pX9_24 (by decide) (sh_8 z _) rfl ?_
  refine r_aloadN 41 dX9_becomeLike_40 rfl rfl ?_
  refine r_aloadN 42 dX9_becomeLike_41 rfl rfl ?_
  refine r_geti 45 dX9_becomeLike_42 rfl fX9_27 (by decide) (sh_8 z _) rfl ?_
  (try simp only [cu_ap, Nat.reduceEqDiff, false_and, and_false, if_false, reduceIte])
  refine r_puti 48 dX9_becomeLike_45 rfl pX9_27 (by decide) (sh_8 z _) rfl ?_
  refine r_iconst 49 dX9_becomeLike_48 rfl ?_
  refine r_istore2 50 dX9_becomeLike_49 rfl rfl (by decide) ?_
  obtain ⟨c6, h6⟩ : ∃ c6 : tC, c6 = cu (cu (cu (cu (cu (cu c 8 0 0 (c 8 1 0)) 8 0 1 (c 8 1 1)) 8 0 2 (c 8 1 2)) 8 0 3 (c 8 1 3)) 8 0 4 (c 8 1 4)) 8 0 5 (c 8 1 5) := ⟨_, rfl⟩
  rw [← h6]
  have k6 : ∀ g i j, ¬ (g = 8 ∧ i = 0) → c6 g i j = c g i j := fun g i j n => by
    rw [h6, cu_ap, if_neg (by omega), cu_ap, if_neg (by omega), cu_ap, if_neg (by omega), cu_ap, if_neg (by omega), cu_ap, if_neg (by omega), cu_ap, if_neg (by omega)]
  have e6 : ∀ j, j < 6 → c6 8 0 j = c 8 1 j := fun j hj => by
    rcases (show j = 0 ∨ j = 1 ∨ j = 2 ∨ j = 3 ∨ j = 4 ∨ j = 5 by omega) with e | e | e | e | e | e <;> (subst e; rw [h6]; simp [cu_ap])
  clear h6
  refine x_tl_per0 (n := np) (c0 := c6) l1 (by rw [e6 1 (by omega)]; exact h1) (fun i hi => by rw [k6 12 _ 4 (by omega)]; exact hr i hi) (fun c7 v2 f7 e7 => ?_) np 0 c6 (by omega) (fun _ _ _ _ => rfl) (fun a ha => absurd ha (Nat.not_lt_zero _))
  refine r_iconst 80 dX9_becomeLike_79 rfl ?_
  refine r_istore2 81 dX9_becomeLike_80 rfl rfl (by decide) ?_
  refine x_tl_src0 (n := ns) (c0 := c7) l2 (by rw [f7 8 0 2 (by omega), e6 2 (by omega)]; exact h2) (fun c8 v2 f8 e8 => ?_) ns 0 c7 (by omega) (fun _ _ _ _ => rfl) (fun a ha => absurd ha (Nat.not_lt_zero _))
  refine r_iconst 111 dX9_becomeLike_110 rfl ?_
  refine r_istore2 112 dX9_becomeLike_111 rfl rfl (by decide) ?_
  refine x_tl_pla0 (n := nl) (c0 := c8) l3 (by rw [f8 8 0 3 (by omega), f7 8 0 3 (by omega), e6 3 (by omega)]; exact h3) (fun c9 v2 f9 e9 => ?_) nl 0 c8 (by omega) (fun _ _ _ _ => rfl) (fun a ha => absurd ha (Nat.not_lt_zero _))
  refine r_aloadN 142 dX9_becomeLike_141 rfl rfl ?_
  refine r_getq 145 dX9_becomeLike_142 rfl fX9_51 (by decide) (sh_8 z _) rfl ?_
  refine r_aloadN 146 dX9_becomeLike_145 rfl rfl ?_
  refine r_getq 149 dX9_becomeLike_146 rfl fX9_51 (by decide) (sh_8 z _) rfl ?_
  refine r_cv1 152 dX9_becomeLike_149 rfl gX9_94 rfl (by decide) (sh_16 z _) rfl rfl (Nat.le_of_ble_eq_true rfl) (Nat.le_of_ble_eq_true rfl) rfl ?_
  refine x_diaLike0 (fun d1 a1 a2 a3 => ?_)
  refine r_aloadN 153 dX9_becomeLike_152 rfl rfl ?_
  refine r_getq 156 dX9_becomeLike_153 rfl fX9_58 (by decide) (sh_8 z _) rfl ?_
  refine r_aloadN 157 dX9_becomeLike_156 rfl rfl ?_
  refine r_getq 160 dX9_becomeLike_157 rfl fX9_58 (by decide) (sh_8 z _) rfl ?_
  refine r_cv1 163 dX9_becomeLike_160 rfl gX9_97 rfl (by decide) (sh_21 z _) rfl rfl (Nat.le_of_ble_eq_true rfl) (Nat.le_of_ble_eq_true rfl) rfl ?_
  refine x_letLike0 (fun d2 b1 b2 b3 => ?_)
  refine r_aloadN 164 dX9_becomeLike_163 rfl rfl ?_
  refine r_getq 167 dX9_becomeLike_164 rfl fX9_62 (by decide) (sh_8 z _) rfl ?_
  refine r_iconst 168 dX9_becomeLike_167 rfl ?_
  refine r_aloadN 169 dX9_becomeLike_168 rfl rfl ?_
  refine r_getq 172 dX9_becomeLike_169 rfl fX9_62 (by decide) (sh_8 z _) rfl ?_
  refine r_iconst 173 dX9_becomeLike_172 rfl ?_
  refine r_bipush 175 dX9_becomeLike_173 rfl (by decide) ?_
  refine r_cpyiA 178 dX9_becomeLike_175 rfl gX9_78 (by decide) (sh_25 z _) (by decide) (sh_25 z _) (by decide) (by omega) (by omega) (by omega) (fun m1 r1 s1 => ?_)
  refine r_aloadN 179 dX9_becomeLike_178 rfl rfl ?_
  refine r_getq 182 dX9_becomeLike_179 rfl fX9_66 (by decide) (sh_8 z _) rfl ?_
  refine r_iconst 183 dX9_becomeLike_182 rfl ?_
  refine r_aloadN 184 dX9_becomeLike_183 rfl rfl ?_
  refine r_getq 187 dX9_becomeLike_184 rfl fX9_66 (by decide) (sh_8 z _) rfl ?_
  refine r_iconst 188 dX9_becomeLike_187 rfl ?_
  refine r_bipush 190 dX9_becomeLike_188 rfl (by decide) ?_
  refine r_cpyiA 193 dX9_becomeLike_190 rfl gX9_78 (by decide) (sh_26 z _) (by decide) (sh_26 z _) (by decide) (by omega) (by omega) (by omega) (fun m2 r2 s2 => ?_)
  refine r_aloadN 194 dX9_becomeLike_193 rfl rfl ?_
  refine r_getq 197 dX9_becomeLike_194 rfl fX9_69 (by decide) (sh_8 z _) rfl ?_
  refine r_iconst 198 dX9_becomeLike_197 rfl ?_
  refine r_aloadN 199 dX9_becomeLike_198 rfl rfl ?_
  refine r_getq 202 dX9_becomeLike_199 rfl fX9_69 (by decide) (sh_8 z _) rfl ?_
  refine r_iconst 203 dX9_becomeLike_202 rfl ?_
  refine r_bipush 205 dX9_becomeLike_203 rfl (by decide) ?_
  refine r_cpyiA 208 dX9_becomeLike_205 rfl gX9_78 (by decide) (sh_27 z _) (by decide) (sh_27 z _) (by decide) (by omega) (by omega) (by omega) (fun m3 r3 s3 => ?_)
  refine r_vret dX9_becomeLike_208 rfl (k _ (fun g i j n => ?_) ?_)
  · unfold inT at n
    rw [r3 g i j (by omega), r2 g i j (by omega), r1 g i j (by omega), b1 g i j (by omega), a1 g i j (by omega), f9 g i j (by omega), f8 g i j (by omega), f7 g i j (by omega)]
    exact k6 g i j (by omega)
  · refine ⟨fun j hj => ?_, fun i hi j hj => ?_, fun i hi j hj => ?_, fun i hi => ⟨?_, fun g j q1 q2 hj => ?_⟩, fun j hj => ?_, fun g j q1 q2 hj => ?_, ?_, fun g j q1 q2 hj => ?_, fun j hj => ?_, fun j hj => ?_, fun j hj => ?_⟩
    · rw [r3 _ _ _ (by omega), r2 _ _ _ (by omega), r1 _ _ _ (by omega), b1 _ _ _ (by omega), a1 _ _ _ (by omega), f9 _ _ _ (by omega), f8 _ _ _ (by omega), f7 _ _ _ (by omega)]
      exact e6 j hj
    · rw [r3 _ _ _ (by omega), r2 _ _ _ (by omega), r1 _ _ _ (by omega), b1 _ _ _ (by omega), a1 _ _ _ (by omega), f9 _ _ _ (by omega), f8 _ _ _ (by omega)]
      exact (e7 i (by omega) j hj).trans (k6 12 _ j (by omega))
    · rw [r3 _ _ _ (by omega), r2 _ _ _ (by omega), r1 _ _ _ (by omega), b1 _ _ _ (by omega), a1 _ _ _ (by omega), f9 _ _ _ (by omega)]
      exact (e8 i (by omega) j hj).trans ((f7 13 _ j (by omega)).trans (k6 13 _ j (by omega)))
    · rw [r3 _ _ _ (by omega), r2 _ _ _ (by omega), r1 _ _ _ (by omega), b1 _ _ _ (by omega), a1 _ _ _ (by omega)]
      exact (e9 i (by omega)).1.trans ((f8 14 _ 0 (by omega)).trans ((f7 14 _ 0 (by omega)).trans (k6 14 _ 0 (by omega))))
    · rw [r3 _ _ _ (by omega), r2 _ _ _ (by omega), r1 _ _ _ (by omega), b1 _ _ _ (by omega), a1 _ _ _ (by omega)]
      exact ((e9 i (by omega)).2 g j q1 q2 hj).trans ((f8 g _ j (by omega)).trans ((f7 g _ j (by omega)).trans (k6 g _ j (by omega))))
    · rw [r3 _ _ _ (by omega), r2 _ _ _ (by omega), r1 _ _ _ (by omega), b1 _ _ _ (by omega), a2 j hj, f9 _ _ _ (by omega), f8 _ _ _ (by omega), f7 _ _ _ (by omega)]
      exact k6 _ _ _ (by omega)
    · rw [r3 _ _ _ (by omega), r2 _ _ _ (by omega), r1 _ _ _ (by omega), b1 _ _ _ (by omega), a3 g j q1 q2 hj, f9 _ _ _ (by omega), f8 _ _ _ (by omega), f7 _ _ _ (by omega)]
      exact k6 _ _ _ (by omega)
    · rw [r3 _ _ _ (by omega), r2 _ _ _ (by omega), r1 _ _ _ (by omega), b2, a1 _ _ _ (by omega), f9 _ _ _ (by omega), f8 _ _ _ (by omega), f7 _ _ _ (by omega)]
      exact k6 _ _ _ (by omega)
    · rw [r3 _ _ _ (by omega), r2 _ _ _ (by omega), r1 _ _ _ (by omega), b3 g j q1 q2 hj, a1 _ _ _ (by omega), f9 _ _ _ (by omega), f8 _ _ _ (by omega), f7 _ _ _ (by omega)]
      exact k6 _ _ _ (by omega)
    · rw [r3 _ _ _ (by omega), r2 _ _ _ (by omega), s1 j (by omega), b1 _ _ _ (by omega), a1 _ _ _ (by omega), f9 _ _ _ (by omega), f8 _ _ _ (by omega), f7 _ _ _ (by omega)]
      exact k6 _ _ _ (by omega)
    · rw [r3 _ _ _ (by omega), s2 j (by omega), r1 _ _ _ (by omega), b1 _ _ _ (by omega), a1 _ _ _ (by omega), f9 _ _ _ (by omega), f8 _ _ _ (by omega), f7 _ _ _ (by omega)]
      exact k6 _ _ _ (by omega)
    · rw [s3 j (by omega), r2 _ _ _ (by omega), r1 _ _ _ (by omega), b1 _ _ _ (by omega), a1 _ _ _ (by omega), f9 _ _ _ (by omega), f8 _ _ _ (by omega), f7 _ _ _ (by omega)]
      exact k6 _ _ _ (by omega)
theorem x_tl_per1 {z : xZ} {d : Nat} {Q : tQ} {L : tL} {n : Nat} {c0 : tC} (hn : n ≤ 12) (hc0 : c0 8 1 1 = (n : Int)) (hr : ∀ i : Nat, i < n → c0 12 (i) 4 = 0 ∨ c0 12 (i) 4 = 1) (kk : ∀ c v2, (∀ g a b, ¬ (g = 12 ∧ 12 ≤ a ∧ a < 24) → c g a b = c0 g a b) → (∀ i : Nat, i < n → ∀ b, b < 5 → c 12 (12 + i) b = c0 12 (0 + i) b) → En z (d + 3) MX9_becomeLike Q 79 [some (.ref (xad z 8 1)), some (.ref (xad z 8 0)), v2] [] c L) : ∀ (k i : Nat) (c : tC), i + k = n → (∀ g a b, ¬ (g = 12 ∧ 12 ≤ a ∧ a < 24) → c g a b = c0 g a b) → (∀ a : Nat, a < i → ∀ b, b < 5 → c 12 (12 + a) b = c0 12 (0 + a) b) → En z (d + 3) MX9_becomeLike Q 50 [some (.ref (xad z 8 1)), some (.ref (xad z 8 0)), some (.int (iI (i : Int)))] [] c L := by
  intro k
  induction k with
  | zero =>
    intro i c hi hF hX
    refine r_iloadN 51 dX9_becomeLike_50 rfl rfl ?_
    refine r_aloadN 52 dX9_becomeLike_51 rfl rfl ?_
    refine r_geti 55 dX9_becomeLike_52 rfl fX9_15 (by decide) (sh_8 z _) rfl ?_
    rw [hF 8 1 1 (by omega), hc0]
    refine r_icge 79 58 dX9_becomeLike_55 rfl (by decide) (by omega) (by omega) (fun h55 => ?_) (fun h55 => ?_)
    · exact kk c _ hF (fun a ha => hX a (by omega))
    · exfalso; omega
  | succ k ih =>
    intro i c hi hF hX
    refine r_iloadN 51 dX9_becomeLike_50 rfl rfl ?_
    refine r_aloadN 52 dX9_becomeLike_51 rfl rfl ?_
    refine r_geti 55 dX9_becomeLike_52 rfl fX9_15 (by decide) (sh_8 z _) rfl ?_
    rw [hF 8 1 1 (by omega), hc0]
    refine r_icge 79 58 dX9_becomeLike_55 rfl (by decide) (by omega) (by omega) (fun h55 => ?_) (fun h55 => ?_)
    · exfalso; omega
    · refine r_aloadN 59 dX9_becomeLike_58 rfl rfl ?_
      refine r_getq 62 dX9_becomeLike_59 rfl fX9_32 (by decide) (sh_8 z _) rfl ?_
      refine r_iloadN 63 dX9_becomeLike_62 rfl rfl ?_
      refine r_aald 64 dX9_becomeLike_63 (i) rfl rfl (by decide) (sh_9b z) rfl (by decide) (by omega) (by omega) ?_
      refine r_aloadN 65 dX9_becomeLike_64 rfl rfl ?_
      refine r_getq 68 dX9_becomeLike_65 rfl fX9_32 (by decide) (sh_8 z _) rfl ?_
      refine r_iloadN 69 dX9_becomeLike_68 rfl rfl ?_
      refine r_aald 70 dX9_becomeLike_69 (i) rfl rfl (by decide) (sh_9a z) rfl (by decide) (by omega) (by omega) ?_
      refine r_cv1 73 dX9_becomeLike_70 rfl gX9_84 rfl (ct_12 (by omega)) (sh_12 z _) rfl rfl (Nat.le_of_ble_eq_true rfl) (Nat.le_of_ble_eq_true rfl) rfl ?_
      refine x_perLike (m := 12 + i) (o := i) (by omega) (by omega) (by rw [hF 12 (i) 4 (by omega)]; exact hr i (by omega)) (fun c2 g1 g2 => ?_)
      refine r_iinc2 76 dX9_becomeLike_73 rfl rfl (by decide) ?_
      refine r_goto 50 dX9_becomeLike_76 (by decide) ?_
      refine ih (i + 1) _ (by omega) (fun g a b n => ?_) (fun a ha => ?_)
      · rw [g1 g a b (by omega)]
        exact hF g a b n
      · by_cases q : a = i
        · rw [q]
          intro b hb
          rw [show 12 + i = 12 + i by omega, show 0 + i = i by omega, g2 b hb]
          exact hF 12 _ b (by omega)
        · have := hX a (by omega)
          intro b hb
          rw [g1 12 _ b (by omega)]
          exact this b hb
theorem x_tl_src1 {z : xZ} {d : Nat} {Q : tQ} {L : tL} {n : Nat} {c0 : tC} (hn : n ≤ 14) (hc0 : c0 8 1 2 = (n : Int)) (kk : ∀ c v2, (∀ g a b, ¬ (g = 13 ∧ 14 ≤ a ∧ a < 28) → c g a b = c0 g a b) → (∀ i : Nat, i < n → ∀ b, b < 8 → c 13 (14 + i) b = c0 13 (0 + i) b) → En z (d + 3) MX9_becomeLike Q 110 [some (.ref (xad z 8 1)), some (.ref (xad z 8 0)), v2] [] c L) : ∀ (k i : Nat) (c : tC), i + k = n → (∀ g a b, ¬ (g = 13 ∧ 14 ≤ a ∧ a < 28) → c g a b = c0 g a b) → (∀ a : Nat, a < i → ∀ b, b < 8 → c 13 (14 + a) b = c0 13 (0 + a) b) → En z (d + 3) MX9_becomeLike Q 81 [some (.ref (xad z 8 1)), some (.ref (xad z 8 0)), some (.int (iI (i : Int)))] [] c L := by
  intro k
  induction k with
  | zero =>
    intro i c hi hF hX
    refine r_iloadN 82 dX9_becomeLike_81 rfl rfl ?_
    refine r_aloadN 83 dX9_becomeLike_82 rfl rfl ?_
    refine r_geti 86 dX9_becomeLike_83 rfl fX9_18 (by decide) (sh_8 z _) rfl ?_
    rw [hF 8 1 2 (by omega), hc0]
    refine r_icge 110 89 dX9_becomeLike_86 rfl (by decide) (by omega) (by omega) (fun h86 => ?_) (fun h86 => ?_)
    · exact kk c _ hF (fun a ha => hX a (by omega))
    · exfalso; omega
  | succ k ih =>
    intro i c hi hF hX
    refine r_iloadN 82 dX9_becomeLike_81 rfl rfl ?_
    refine r_aloadN 83 dX9_becomeLike_82 rfl rfl ?_
    refine r_geti 86 dX9_becomeLike_83 rfl fX9_18 (by decide) (sh_8 z _) rfl ?_
    rw [hF 8 1 2 (by omega), hc0]
    refine r_icge 110 89 dX9_becomeLike_86 rfl (by decide) (by omega) (by omega) (fun h86 => ?_) (fun h86 => ?_)
    · exfalso; omega
    · refine r_aloadN 90 dX9_becomeLike_89 rfl rfl ?_
      refine r_getq 93 dX9_becomeLike_90 rfl fX9_38 (by decide) (sh_8 z _) rfl ?_
      refine r_iloadN 94 dX9_becomeLike_93 rfl rfl ?_
      refine r_aald 95 dX9_becomeLike_94 (i) rfl rfl (by decide) (sh_10b z) rfl (by decide) (by omega) (by omega) ?_
      refine r_aloadN 96 dX9_becomeLike_95 rfl rfl ?_
      refine r_getq 99 dX9_becomeLike_96 rfl fX9_38 (by decide) (sh_8 z _) rfl ?_
      refine r_iloadN 100 dX9_becomeLike_99 rfl rfl ?_
      refine r_aald 101 dX9_becomeLike_100 (i) rfl rfl (by decide) (sh_10a z) rfl (by decide) (by omega) (by omega) ?_
      refine r_cv1 104 dX9_becomeLike_101 rfl gX9_88 rfl (ct_13 (by omega)) (sh_13 z _) rfl rfl (Nat.le_of_ble_eq_true rfl) (Nat.le_of_ble_eq_true rfl) rfl ?_
      refine x_srcLike (m := 14 + i) (o := i) (by omega) (by omega) (by omega) (fun c2 g1 g2 => ?_)
      refine r_iinc2 107 dX9_becomeLike_104 rfl rfl (by decide) ?_
      refine r_goto 81 dX9_becomeLike_107 (by decide) ?_
      refine ih (i + 1) _ (by omega) (fun g a b n => ?_) (fun a ha => ?_)
      · rw [g1 g a b (by omega)]
        exact hF g a b n
      · by_cases q : a = i
        · rw [q]
          intro b hb
          rw [show 14 + i = 14 + i by omega, show 0 + i = i by omega, g2 b hb]
          exact hF 13 _ b (by omega)
        · have := hX a (by omega)
          intro b hb
          rw [g1 13 _ b (by omega)]
          exact this b hb
theorem x_tl_pla1 {z : xZ} {d : Nat} {Q : tQ} {L : tL} {n : Nat} {c0 : tC} (hn : n ≤ 8) (hc0 : c0 8 1 3 = (n : Int)) (kk : ∀ c v2, (∀ g a b, ¬ (PG g ∧ 8 ≤ a ∧ a < 16) → c g a b = c0 g a b) → (∀ i : Nat, i < n → c 14 (8 + i) 0 = c0 14 (0 + i) 0 ∧ ∀ g j, 41 ≤ g → g ≤ 45 → j < 8 → c g (8 + i) j = c0 g (0 + i) j) → En z (d + 3) MX9_becomeLike Q 141 [some (.ref (xad z 8 1)), some (.ref (xad z 8 0)), v2] [] c L) : ∀ (k i : Nat) (c : tC), i + k = n → (∀ g a b, ¬ (PG g ∧ 8 ≤ a ∧ a < 16) → c g a b = c0 g a b) → (∀ a : Nat, a < i → c 14 (8 + a) 0 = c0 14 (0 + a) 0 ∧ ∀ g j, 41 ≤ g → g ≤ 45 → j < 8 → c g (8 + a) j = c0 g (0 + a) j) → En z (d + 3) MX9_becomeLike Q 112 [some (.ref (xad z 8 1)), some (.ref (xad z 8 0)), some (.int (iI (i : Int)))] [] c L := by
  intro k
  induction k with
  | zero =>
    intro i c hi hF hX
    refine r_iloadN 113 dX9_becomeLike_112 rfl rfl ?_
    refine r_aloadN 114 dX9_becomeLike_113 rfl rfl ?_
    refine r_geti 117 dX9_becomeLike_114 rfl fX9_21 (by decide) (sh_8 z _) rfl ?_
    rw [hF 8 1 3 (by omega), hc0]
    refine r_icge 141 120 dX9_becomeLike_117 rfl (by decide) (by omega) (by omega) (fun h117 => ?_) (fun h117 => ?_)
    · exact kk c _ hF (fun a ha => hX a (by omega))
    · exfalso; omega
  | succ k ih =>
    intro i c hi hF hX
    refine r_iloadN 113 dX9_becomeLike_112 rfl rfl ?_
    refine r_aloadN 114 dX9_becomeLike_113 rfl rfl ?_
    refine r_geti 117 dX9_becomeLike_114 rfl fX9_21 (by decide) (sh_8 z _) rfl ?_
    rw [hF 8 1 3 (by omega), hc0]
    refine r_icge 141 120 dX9_becomeLike_117 rfl (by decide) (by omega) (by omega) (fun h117 => ?_) (fun h117 => ?_)
    · exfalso; omega
    · refine r_aloadN 121 dX9_becomeLike_120 rfl rfl ?_
      refine r_getq 124 dX9_becomeLike_121 rfl fX9_44 (by decide) (sh_8 z _) rfl ?_
      refine r_iloadN 125 dX9_becomeLike_124 rfl rfl ?_
      refine r_aald 126 dX9_becomeLike_125 (i) rfl rfl (by decide) (sh_11b z) rfl (by decide) (by omega) (by omega) ?_
      refine r_aloadN 127 dX9_becomeLike_126 rfl rfl ?_
      refine r_getq 130 dX9_becomeLike_127 rfl fX9_44 (by decide) (sh_8 z _) rfl ?_
      refine r_iloadN 131 dX9_becomeLike_130 rfl rfl ?_
      refine r_aald 132 dX9_becomeLike_131 (i) rfl rfl (by decide) (sh_11a z) rfl (by decide) (by omega) (by omega) ?_
      refine r_cv1 135 dX9_becomeLike_132 rfl gX9_91 rfl (ct_14 (by omega)) (sh_14 z _) rfl rfl (Nat.le_of_ble_eq_true rfl) (Nat.le_of_ble_eq_true rfl) rfl ?_
      refine x_planLike (m := 8 + i) (o := i) (by omega) (by omega) (by omega) (fun c2 g1 g2 g3 => ?_)
      refine r_iinc2 138 dX9_becomeLike_135 rfl rfl (by decide) ?_
      refine r_goto 112 dX9_becomeLike_138 (by decide) ?_
      refine ih (i + 1) _ (by omega) (fun g a b n => ?_) (fun a ha => ?_)
      · rw [g1 g a b (by omega)]
        exact hF g a b n
      · by_cases q : a = i
        · rw [q]
          rw [show 8 + i = 8 + i by omega, show 0 + i = i by omega, g2]
          refine ⟨hF 14 _ 0 (by omega), fun g j h1 h2 hj => ?_⟩
          rw [g3 g j h1 h2 hj]
          exact hF g _ j (by omega)
        · have := hX a (by omega)
          refine ⟨by rw [g1 14 _ 0 (by omega)]; exact this.1, fun g j h1 h2 hj => ?_⟩
          rw [g1 g _ j (by omega)]
          exact this.2 g j h1 h2 hj
theorem x_townLike1 {z : xZ} {d : Nat} {Q : tQ} {c : tC} {L : tL} {np ns nl : Nat} (h1 : c 8 0 1 = (np : Int)) (h2 : c 8 0 2 = (ns : Int)) (h3 : c 8 0 3 = (nl : Int)) (l1 : np ≤ 12) (l2 : ns ≤ 14) (l3 : nl ≤ 8) (hr : ∀ i : Nat, i < np → c 12 (i) 4 = 0 ∨ c 12 (i) 4 = 1) (k : ∀ c2, (∀ g i j, ¬ inT 1 g i → c2 g i j = c g i j) → TL c c2 1 0 → Q none c2 L) : En z (d + 3) MX9_becomeLike Q 0 [some (.ref (xad z 8 1)), some (.ref (xad z 8 0)), none] [] c L := by
  refine r_aloadN 1 dX9_becomeLike_0 rfl rfl ?_
  refine r_aloadN 2 dX9_becomeLike_1 rfl rfl ?_
  refine r_geti 5 dX9_becomeLike_2 rfl fX9_9 (by decide) (sh_8 z _) rfl ?_
  refine r_puti 8 dX9_becomeLike_5 rfl pX9_9 (by decide) (sh_8 z _) rfl ?_
  refine r_aloadN 9 dX9_becomeLike_8 rfl rfl ?_
  refine r_aloadN 10 dX9_becomeLike_9 rfl rfl ?_
  refine r_geti 13 dX9_becomeLike_10 rfl fX9_15 (by decide) (sh_8 z _) rfl ?_
  (try simp only [cu_ap, Nat.reduceEqDiff, false_and, and_false, if_false, reduceIte])
  refine r_puti 16 dX9_becomeLike_13 rfl pX9_15 (by decide) (sh_8 z _) rfl ?_
  refine r_aloadN 17 dX9_becomeLike_16 rfl rfl ?_
  refine r_aloadN 18 dX9_becomeLike_17 rfl rfl ?_
  refine r_geti 21 dX9_becomeLike_18 rfl fX9_18 (by decide) (sh_8 z _) rfl ?_
  (try simp only [cu_ap, Nat.reduceEqDiff, false_and, and_false, if_false, reduceIte])
  refine r_puti 24 dX9_becomeLike_21 rfl pX9_18 (by decide) (sh_8 z _) rfl ?_
  refine r_aloadN 25 dX9_becomeLike_24 rfl rfl ?_
  refine r_aloadN 26 dX9_becomeLike_25 rfl rfl ?_
  refine r_geti 29 dX9_becomeLike_26 rfl fX9_21 (by decide) (sh_8 z _) rfl ?_
  (try simp only [cu_ap, Nat.reduceEqDiff, false_and, and_false, if_false, reduceIte])
  refine r_puti 32 dX9_becomeLike_29 rfl pX9_21 (by decide) (sh_8 z _) rfl ?_
  refine r_aloadN 33 dX9_becomeLike_32 rfl rfl ?_
  refine r_aloadN 34 dX9_becomeLike_33 rfl rfl ?_
  refine r_geti 37 dX9_becomeLike_34 rfl fX9_24 (by decide) (sh_8 z _) rfl ?_
  (try simp only [cu_ap, Nat.reduceEqDiff, false_and, and_false, if_false, reduceIte])
  refine r_puti 40 dX9_becomeLike_37 rfl pX9_24 (by decide) (sh_8 z _) rfl ?_
  refine r_aloadN 41 dX9_becomeLike_40 rfl rfl ?_
  refine r_aloadN 42 dX9_becomeLike_41 rfl rfl ?_
  refine r_geti 45 dX9_becomeLike_42 rfl fX9_27 (by decide) (sh_8 z _) rfl ?_
  (try simp only [cu_ap, Nat.reduceEqDiff, false_and, and_false, if_false, reduceIte])
  refine r_puti 48 dX9_becomeLike_45 rfl pX9_27 (by decide) (sh_8 z _) rfl ?_
  refine r_iconst 49 dX9_becomeLike_48 rfl ?_
  refine r_istore2 50 dX9_becomeLike_49 rfl rfl (by decide) ?_
  obtain ⟨c6, h6⟩ : ∃ c6 : tC, c6 = cu (cu (cu (cu (cu (cu c 8 1 0 (c 8 0 0)) 8 1 1 (c 8 0 1)) 8 1 2 (c 8 0 2)) 8 1 3 (c 8 0 3)) 8 1 4 (c 8 0 4)) 8 1 5 (c 8 0 5) := ⟨_, rfl⟩
  rw [← h6]
  have k6 : ∀ g i j, ¬ (g = 8 ∧ i = 1) → c6 g i j = c g i j := fun g i j n => by
    rw [h6, cu_ap, if_neg (by omega), cu_ap, if_neg (by omega), cu_ap, if_neg (by omega), cu_ap, if_neg (by omega), cu_ap, if_neg (by omega), cu_ap, if_neg (by omega)]
  have e6 : ∀ j, j < 6 → c6 8 1 j = c 8 0 j := fun j hj => by
    rcases (show j = 0 ∨ j = 1 ∨ j = 2 ∨ j = 3 ∨ j = 4 ∨ j = 5 by omega) with e | e | e | e | e | e <;> (subst e; rw [h6]; simp [cu_ap])
  clear h6
  refine x_tl_per1 (n := np) (c0 := c6) l1 (by rw [e6 1 (by omega)]; exact h1) (fun i hi => by rw [k6 12 _ 4 (by omega)]; exact hr i hi) (fun c7 v2 f7 e7 => ?_) np 0 c6 (by omega) (fun _ _ _ _ => rfl) (fun a ha => absurd ha (Nat.not_lt_zero _))
  refine r_iconst 80 dX9_becomeLike_79 rfl ?_
  refine r_istore2 81 dX9_becomeLike_80 rfl rfl (by decide) ?_
  refine x_tl_src1 (n := ns) (c0 := c7) l2 (by rw [f7 8 1 2 (by omega), e6 2 (by omega)]; exact h2) (fun c8 v2 f8 e8 => ?_) ns 0 c7 (by omega) (fun _ _ _ _ => rfl) (fun a ha => absurd ha (Nat.not_lt_zero _))
  refine r_iconst 111 dX9_becomeLike_110 rfl ?_
  refine r_istore2 112 dX9_becomeLike_111 rfl rfl (by decide) ?_
  refine x_tl_pla1 (n := nl) (c0 := c8) l3 (by rw [f8 8 1 3 (by omega), f7 8 1 3 (by omega), e6 3 (by omega)]; exact h3) (fun c9 v2 f9 e9 => ?_) nl 0 c8 (by omega) (fun _ _ _ _ => rfl) (fun a ha => absurd ha (Nat.not_lt_zero _))
  refine r_aloadN 142 dX9_becomeLike_141 rfl rfl ?_
  refine r_getq 145 dX9_becomeLike_142 rfl fX9_51 (by decide) (sh_8 z _) rfl ?_
  refine r_aloadN 146 dX9_becomeLike_145 rfl rfl ?_
  refine r_getq 149 dX9_becomeLike_146 rfl fX9_51 (by decide) (sh_8 z _) rfl ?_
  refine r_cv1 152 dX9_becomeLike_149 rfl gX9_94 rfl (by decide) (sh_16 z _) rfl rfl (Nat.le_of_ble_eq_true rfl) (Nat.le_of_ble_eq_true rfl) rfl ?_
  refine x_diaLike1 (fun d1 a1 a2 a3 => ?_)
  refine r_aloadN 153 dX9_becomeLike_152 rfl rfl ?_
  refine r_getq 156 dX9_becomeLike_153 rfl fX9_58 (by decide) (sh_8 z _) rfl ?_
  refine r_aloadN 157 dX9_becomeLike_156 rfl rfl ?_
  refine r_getq 160 dX9_becomeLike_157 rfl fX9_58 (by decide) (sh_8 z _) rfl ?_
  refine r_cv1 163 dX9_becomeLike_160 rfl gX9_97 rfl (by decide) (sh_21 z _) rfl rfl (Nat.le_of_ble_eq_true rfl) (Nat.le_of_ble_eq_true rfl) rfl ?_
  refine x_letLike1 (fun d2 b1 b2 b3 => ?_)
  refine r_aloadN 164 dX9_becomeLike_163 rfl rfl ?_
  refine r_getq 167 dX9_becomeLike_164 rfl fX9_62 (by decide) (sh_8 z _) rfl ?_
  refine r_iconst 168 dX9_becomeLike_167 rfl ?_
  refine r_aloadN 169 dX9_becomeLike_168 rfl rfl ?_
  refine r_getq 172 dX9_becomeLike_169 rfl fX9_62 (by decide) (sh_8 z _) rfl ?_
  refine r_iconst 173 dX9_becomeLike_172 rfl ?_
  refine r_bipush 175 dX9_becomeLike_173 rfl (by decide) ?_
  refine r_cpyiA 178 dX9_becomeLike_175 rfl gX9_78 (by decide) (sh_25 z _) (by decide) (sh_25 z _) (by decide) (by omega) (by omega) (by omega) (fun m1 r1 s1 => ?_)
  refine r_aloadN 179 dX9_becomeLike_178 rfl rfl ?_
  refine r_getq 182 dX9_becomeLike_179 rfl fX9_66 (by decide) (sh_8 z _) rfl ?_
  refine r_iconst 183 dX9_becomeLike_182 rfl ?_
  refine r_aloadN 184 dX9_becomeLike_183 rfl rfl ?_
  refine r_getq 187 dX9_becomeLike_184 rfl fX9_66 (by decide) (sh_8 z _) rfl ?_
  refine r_iconst 188 dX9_becomeLike_187 rfl ?_
  refine r_bipush 190 dX9_becomeLike_188 rfl (by decide) ?_
  refine r_cpyiA 193 dX9_becomeLike_190 rfl gX9_78 (by decide) (sh_26 z _) (by decide) (sh_26 z _) (by decide) (by omega) (by omega) (by omega) (fun m2 r2 s2 => ?_)
  refine r_aloadN 194 dX9_becomeLike_193 rfl rfl ?_
  refine r_getq 197 dX9_becomeLike_194 rfl fX9_69 (by decide) (sh_8 z _) rfl ?_
  refine r_iconst 198 dX9_becomeLike_197 rfl ?_
  refine r_aloadN 199 dX9_becomeLike_198 rfl rfl ?_
  refine r_getq 202 dX9_becomeLike_199 rfl fX9_69 (by decide) (sh_8 z _) rfl ?_
  refine r_iconst 203 dX9_becomeLike_202 rfl ?_
  refine r_bipush 205 dX9_becomeLike_203 rfl (by decide) ?_
  refine r_cpyiA 208 dX9_becomeLike_205 rfl gX9_78 (by decide) (sh_27 z _) (by decide) (sh_27 z _) (by decide) (by omega) (by omega) (by omega) (fun m3 r3 s3 => ?_)
  refine r_vret dX9_becomeLike_208 rfl (k _ (fun g i j n => ?_) ?_)
  · unfold inT at n
    rw [r3 g i j (by omega), r2 g i j (by omega), r1 g i j (by omega), b1 g i j (by omega), a1 g i j (by omega), f9 g i j (by omega), f8 g i j (by omega), f7 g i j (by omega)]
    exact k6 g i j (by omega)
  · refine ⟨fun j hj => ?_, fun i hi j hj => ?_, fun i hi j hj => ?_, fun i hi => ⟨?_, fun g j q1 q2 hj => ?_⟩, fun j hj => ?_, fun g j q1 q2 hj => ?_, ?_, fun g j q1 q2 hj => ?_, fun j hj => ?_, fun j hj => ?_, fun j hj => ?_⟩
    · rw [r3 _ _ _ (by omega), r2 _ _ _ (by omega), r1 _ _ _ (by omega), b1 _ _ _ (by omega), a1 _ _ _ (by omega), f9 _ _ _ (by omega), f8 _ _ _ (by omega), f7 _ _ _ (by omega)]
      exact e6 j hj
    · rw [r3 _ _ _ (by omega), r2 _ _ _ (by omega), r1 _ _ _ (by omega), b1 _ _ _ (by omega), a1 _ _ _ (by omega), f9 _ _ _ (by omega), f8 _ _ _ (by omega)]
      exact (e7 i (by omega) j hj).trans (k6 12 _ j (by omega))
    · rw [r3 _ _ _ (by omega), r2 _ _ _ (by omega), r1 _ _ _ (by omega), b1 _ _ _ (by omega), a1 _ _ _ (by omega), f9 _ _ _ (by omega)]
      exact (e8 i (by omega) j hj).trans ((f7 13 _ j (by omega)).trans (k6 13 _ j (by omega)))
    · rw [r3 _ _ _ (by omega), r2 _ _ _ (by omega), r1 _ _ _ (by omega), b1 _ _ _ (by omega), a1 _ _ _ (by omega)]
      exact (e9 i (by omega)).1.trans ((f8 14 _ 0 (by omega)).trans ((f7 14 _ 0 (by omega)).trans (k6 14 _ 0 (by omega))))
    · rw [r3 _ _ _ (by omega), r2 _ _ _ (by omega), r1 _ _ _ (by omega), b1 _ _ _ (by omega), a1 _ _ _ (by omega)]
      exact ((e9 i (by omega)).2 g j q1 q2 hj).trans ((f8 g _ j (by omega)).trans ((f7 g _ j (by omega)).trans (k6 g _ j (by omega))))
    · rw [r3 _ _ _ (by omega), r2 _ _ _ (by omega), r1 _ _ _ (by omega), b1 _ _ _ (by omega), a2 j hj, f9 _ _ _ (by omega), f8 _ _ _ (by omega), f7 _ _ _ (by omega)]
      exact k6 _ _ _ (by omega)
    · rw [r3 _ _ _ (by omega), r2 _ _ _ (by omega), r1 _ _ _ (by omega), b1 _ _ _ (by omega), a3 g j q1 q2 hj, f9 _ _ _ (by omega), f8 _ _ _ (by omega), f7 _ _ _ (by omega)]
      exact k6 _ _ _ (by omega)
    · rw [r3 _ _ _ (by omega), r2 _ _ _ (by omega), r1 _ _ _ (by omega), b2, a1 _ _ _ (by omega), f9 _ _ _ (by omega), f8 _ _ _ (by omega), f7 _ _ _ (by omega)]
      exact k6 _ _ _ (by omega)
    · rw [r3 _ _ _ (by omega), r2 _ _ _ (by omega), r1 _ _ _ (by omega), b3 g j q1 q2 hj, a1 _ _ _ (by omega), f9 _ _ _ (by omega), f8 _ _ _ (by omega), f7 _ _ _ (by omega)]
      exact k6 _ _ _ (by omega)
    · rw [r3 _ _ _ (by omega), r2 _ _ _ (by omega), s1 j (by omega), b1 _ _ _ (by omega), a1 _ _ _ (by omega), f9 _ _ _ (by omega), f8 _ _ _ (by omega), f7 _ _ _ (by omega)]
      exact k6 _ _ _ (by omega)
    · rw [r3 _ _ _ (by omega), s2 j (by omega), r1 _ _ _ (by omega), b1 _ _ _ (by omega), a1 _ _ _ (by omega), f9 _ _ _ (by omega), f8 _ _ _ (by omega), f7 _ _ _ (by omega)]
      exact k6 _ _ _ (by omega)
    · rw [s3 j (by omega), r2 _ _ _ (by omega), r1 _ _ _ (by omega), b1 _ _ _ (by omega), a1 _ _ _ (by omega), f9 _ _ _ (by omega), f8 _ _ _ (by omega), f7 _ _ _ (by omega)]
      exact k6 _ _ _ (by omega)
