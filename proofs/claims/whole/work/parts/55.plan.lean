/-- the reader of c with a plan -/
def RH (c c2 : tC) : Prop := ∀ g i j, g ≠ 30 → g ≠ 31 → ¬ (i = 16 ∧ (g = 14 ∨ (41 ≤ g ∧ g ≤ 45))) → c2 g i j = c g i j
theorem RQ_RH {a b : tC} (h : RQ a b) : RH a b := fun g i j n1 _ n3 => h g i j (by omega) n3
theorem RH_tr {a b c : tC} (h : RH a b) (h2 : RH b c) : RH a c := fun g i j n n2 n3 => (h2 g i j n n2 n3).trans (h g i j n n2 n3)
theorem RH_30 {c : tC} {j : Nat} {v : Int} : RH c (cu c 30 0 j v) := fun g i j n1 n2 n3 => by rw [cu_ap, if_neg (by omega)]
theorem x_plan71 {z : xZ} {d : Nat} {Q : tQ} {c : tC} {L : tL} {v1 v2 v3 v4 : Option Value} (hv : -1 ≤ c 30 0 4 ∧ c 30 0 4 ≤ 100) (k1 : c 30 0 4 = -1 → Q (some (.int (iI 1))) c L) (k0 : c 30 0 4 ≠ -1 → Q (some (.int (iI 0))) c L) : En z (d + 1) MX5_readPlan Q 71 [some (.ref (xad z 30 0)), v1, v2, v3, v4] [] c L := by
  have hv1 := hv.1
  have hv2 := hv.2
  refine r_aloadN 72 dX5_readPlan_71 rfl rfl ?_
  refine r_geti 75 dX5_readPlan_72 rfl fX5_25 (by decide) (sh_30 z _) rfl ?_
  refine r_iconst 76 dX5_readPlan_75 rfl ?_
  refine r_icne 83 79 dX5_readPlan_76 rfl (by decide) (by omega) (by omega) (fun h76 => ?_) (fun h76 => ?_)
  · refine r_iconst 84 dX5_readPlan_83 rfl ?_
    exact r_zret dX5_readPlan_84 rfl (by decide) (k0 (by omega))
  · refine r_iconst 80 dX5_readPlan_79 rfl ?_
    refine r_goto 84 dX5_readPlan_80 (by decide) ?_
    exact r_zret dX5_readPlan_84 rfl (by decide) (k1 (by omega))
theorem x_plan_loop {z : xZ} {d : Nat} {Q : tQ} {L : tL} {s e : Nat} {T : Nat → Int} {n : Int} {c0 : tC} (hz : zF z) (hnn : 0 ≤ n ∧ n ≤ 14) (k1 : ∀ c2, (tItems T e n 8 0 []).2.2 = true → RH c0 c2 → c2 30 0 4 = -1 → PI c2 (tItems T e n 8 0 []).2.1 → Q (some (.int (iI 1))) c2 L) (k0 : ∀ c2, (tItems T e n 8 0 []).2.2 = false → RH c0 c2 → c2 30 0 4 = (((tItems T e n 8 0 []).1 : Nat) : Int) → Q (some (.int (iI 0))) c2 L) : ∀ (k i p : Nat) (l : List tI) (c : tC), i + (k + 1) = 8 → p ≤ e → RH c0 c → RS c e T → c 30 0 2 = (p : Int) → c 30 0 4 = -1 → PI c l → l.length = i → tItems T e n 8 0 [] = tItems T e n (k + 1) p l → En z (d + 7) MX5_readPlan Q 18 [some (.ref (xad z 30 0)), some (.ref (xad z 2 s)), some (.int (iI n)), some (.int (iI 1)), some (.int (iI (i : Int)))] [] c L := by
  intro k
  induction k with
  | zero =>
    intro i p l c hi hp hG hs ha h4 h5 h6 hq
    have hs2 := hs.2.1
    refine r_iload 20 dX5_readPlan_18 rfl rfl ?_
    refine r_bipush 22 dX5_readPlan_20 rfl (by decide) ?_
    refine r_icge 56 25 dX5_readPlan_22 rfl (by decide) (by omega) (by omega) (fun h22 => ?_) (fun h22 => ?_)
    · exfalso; omega
    · refine r_iloadN 26 dX5_readPlan_25 rfl rfl ?_
      refine r_ifeqF 29 dX5_readPlan_26 rfl 56 (by decide) (by decide) (by decide) ?_
      refine r_aloadN 30 dX5_readPlan_29 rfl rfl ?_
      refine r_iloadN 31 dX5_readPlan_30 rfl rfl ?_
      refine r_cv1 34 dX5_readPlan_31 rfl gX5_59 rfl (by decide) (sh_30 z _) rfl rfl (Nat.le_of_ble_eq_true rfl) (Nat.le_of_ble_eq_true rfl) rfl ?_
      refine x_readItem hz hnn hs ha hp h5 (by omega) (fun c2 b1 f1 f2 f3 f4 => ?_) (fun c2 b0 f1 f2 => ?_)
      · refine r_ifeqF 37 dX5_readPlan_34 rfl 48 (by decide) (by decide) (by decide) ?_
        have hr := iOk_rng hp b1
        have hs3 := RS_frQ hs f1
        have h4b := f3.trans h4
        refine r_aloadN 38 dX5_readPlan_37 rfl rfl ?_
        refine r_cv0 41 dX5_readPlan_38 rfl gX5_55 rfl (by decide) (sh_30 z _) rfl rfl (Nat.le_of_ble_eq_true rfl) (Nat.le_of_ble_eq_true rfl) rfl ?_
        refine x_goesOn hs3 f2 hr.2.2.1 (fun y38 => ?_) (fun y38 z38 => ?_) (fun w38 => ?_)
        · refine r_ifeqF 44 dX5_readPlan_41 rfl 48 (by decide) (by decide) (by decide) ?_
          refine r_iconst 45 dX5_readPlan_44 rfl ?_
          refine r_goto 49 dX5_readPlan_45 (by decide) ?_
          refine r_istore3 50 dX5_readPlan_49 rfl rfl (by decide) ?_
          refine r_iinc4 53 dX5_readPlan_50 rfl rfl (by decide) ?_
          refine r_goto 18 dX5_readPlan_53 (by decide) ?_
          refine r_iload 20 dX5_readPlan_18 rfl rfl ?_
          refine r_bipush 22 dX5_readPlan_20 rfl (by decide) ?_
          refine r_icge 56 25 dX5_readPlan_22 rfl (by decide) (by omega) (by omega) (fun h22 => ?_) (fun h22 => ?_)
          · refine r_iloadN 57 dX5_readPlan_56 rfl rfl ?_
            refine r_ifeqF 60 dX5_readPlan_57 rfl 71 (by decide) (by decide) (by decide) ?_
            refine r_aloadN 61 dX5_readPlan_60 rfl rfl ?_
            refine r_aloadN 62 dX5_readPlan_61 rfl rfl ?_
            refine r_geti 65 dX5_readPlan_62 rfl fX5_19 (by decide) (sh_30 z _) rfl ?_
            rw [cu_ap, if_pos ⟨rfl, rfl, rfl⟩]
            refine r_iconst 66 dX5_readPlan_65 rfl ?_
            refine r_isub 67 dX5_readPlan_66 rfl ?_
            rw [show ((iQ T e p + 1 : Nat) : Int) - 1 = ((iQ T e p : Nat) : Int) by omega]
            refine r_cv1 70 dX5_readPlan_67 rfl gX5_63 rfl (by decide) (sh_30 z _) rfl rfl (Nat.le_of_ble_eq_true rfl) (Nat.le_of_ble_eq_true rfl) rfl ?_
            refine x_failAt ?_
            refine r_popi 71 dX5_readPlan_70 rfl ?_
            first
              | (have hq3 : tItems T e n 8 0 [] = (iQ T e p, (l ++ [iX T e p]), true) := by rw [hq, tItems, if_pos b1, if_neg w38]
                 exact x_plan71 (by omega) (fun _ => k1 c2 (by rw [hq3]) (RH_tr hG (RQ_RH f1)) h4b (by rw [hq3]; exact f4)) (fun h => absurd h4b h))
              | (have hq3 : tItems T e n 8 0 [] = (iQ T e p, (l ++ [iX T e p]), false) := by
                   rw [hq, tItems, if_pos b1, if_pos y38]
                   first
                     | (rw [if_pos rfl]; done)
                     | (rw [if_neg (by omega), if_neg z38]; done)
                 have h4c : cu c2 30 0 4 ((iQ T e p : Nat) : Int) 30 0 4 = ((iQ T e p : Nat) : Int) := rfl
                 have hr3 := hr.2.2.1
                 exact x_plan71 (by rw [h4c]; omega) (fun h => by rw [h4c] at h; omega) (fun _ => k0 _ (by rw [hq3]) (RH_tr hG (RH_tr (RQ_RH f1) RH_30)) (by rw [hq3]; exact h4c)))
              | (have hq3 : tItems T e n 8 0 [] = (iF T e n p, l, false) := by rw [hq, tItems, if_neg (bne b0)]
                 have hr3 := iF_rng (T := T) (n := n) hp
                 exact x_plan71 (by rw [f2]; omega) (fun h => by rw [f2] at h; omega) (fun _ => k0 _ (by rw [hq3]) (RH_tr hG (RQ_RH f1)) (by rw [hq3]; exact f2)))
              | (have hq3 : tItems T e n 8 0 [] = (iQ T e p, (l ++ [iX T e p]), false) := by rw [hq, tItems, if_pos b1, if_pos y38.1, if_pos rfl]
                 have h4c : cu (cu c2 30 0 2 ((iQ T e p + 1 : Nat) : Int)) 30 0 4 ((iQ T e p : Nat) : Int) 30 0 4 = ((iQ T e p : Nat) : Int) := rfl
                 have hr3 := hr.2.2.1
                 exact x_plan71 (by rw [h4c]; omega) (fun h => by rw [h4c] at h; omega) (fun _ => k0 _ (by rw [hq3]) (RH_tr hG (RH_tr (RQ_RH f1) (RH_tr RH_30 RH_30))) (by rw [hq3]; exact h4c)))
          · exfalso; omega
        · refine r_ifeqT 48 0 dX5_readPlan_41 (by decide) (by decide) (by decide) ?_
          refine r_iconst 49 dX5_readPlan_48 rfl ?_
          refine r_istore3 50 dX5_readPlan_49 rfl rfl (by decide) ?_
          refine r_iinc4 53 dX5_readPlan_50 rfl rfl (by decide) ?_
          refine r_goto 18 dX5_readPlan_53 (by decide) ?_
          refine r_iload 20 dX5_readPlan_18 rfl rfl ?_
          refine r_bipush 22 dX5_readPlan_20 rfl (by decide) ?_
          refine r_icge 56 25 dX5_readPlan_22 rfl (by decide) (by omega) (by omega) (fun h22 => ?_) (fun h22 => ?_)
          · refine r_iloadN 57 dX5_readPlan_56 rfl rfl ?_
            refine r_ifeqT 71 0 dX5_readPlan_57 (by decide) (by decide) (by decide) ?_
            first
              | (have hq3 : tItems T e n 8 0 [] = (iQ T e p, (l ++ [iX T e p]), true) := by rw [hq, tItems, if_pos b1, if_neg w38]
                 exact x_plan71 (by omega) (fun _ => k1 c2 (by rw [hq3]) (RH_tr hG (RQ_RH f1)) h4b (by rw [hq3]; exact f4)) (fun h => absurd h4b h))
              | (have hq3 : tItems T e n 8 0 [] = (iQ T e p, (l ++ [iX T e p]), false) := by
                   rw [hq, tItems, if_pos b1, if_pos y38]
                   first
                     | (rw [if_pos rfl]; done)
                     | (rw [if_neg (by omega), if_neg z38]; done)
                 have h4c : cu c2 30 0 4 ((iQ T e p : Nat) : Int) 30 0 4 = ((iQ T e p : Nat) : Int) := rfl
                 have hr3 := hr.2.2.1
                 exact x_plan71 (by rw [h4c]; omega) (fun h => by rw [h4c] at h; omega) (fun _ => k0 _ (by rw [hq3]) (RH_tr hG (RH_tr (RQ_RH f1) RH_30)) (by rw [hq3]; exact h4c)))
              | (have hq3 : tItems T e n 8 0 [] = (iF T e n p, l, false) := by rw [hq, tItems, if_neg (bne b0)]
                 have hr3 := iF_rng (T := T) (n := n) hp
                 exact x_plan71 (by rw [f2]; omega) (fun h => by rw [f2] at h; omega) (fun _ => k0 _ (by rw [hq3]) (RH_tr hG (RQ_RH f1)) (by rw [hq3]; exact f2)))
              | (have hq3 : tItems T e n 8 0 [] = (iQ T e p, (l ++ [iX T e p]), false) := by rw [hq, tItems, if_pos b1, if_pos y38.1, if_pos rfl]
                 have h4c : cu (cu c2 30 0 2 ((iQ T e p + 1 : Nat) : Int)) 30 0 4 ((iQ T e p : Nat) : Int) 30 0 4 = ((iQ T e p : Nat) : Int) := rfl
                 have hr3 := hr.2.2.1
                 exact x_plan71 (by rw [h4c]; omega) (fun h => by rw [h4c] at h; omega) (fun _ => k0 _ (by rw [hq3]) (RH_tr hG (RH_tr (RQ_RH f1) (RH_tr RH_30 RH_30))) (by rw [hq3]; exact h4c)))
          · refine r_iloadN 26 dX5_readPlan_25 rfl rfl ?_
            refine r_ifeqT 56 0 dX5_readPlan_26 (by decide) (by decide) (by decide) ?_
            refine r_iloadN 57 dX5_readPlan_56 rfl rfl ?_
            refine r_ifeqT 71 0 dX5_readPlan_57 (by decide) (by decide) (by decide) ?_
            first
              | (have hq3 : tItems T e n 8 0 [] = (iQ T e p, (l ++ [iX T e p]), true) := by rw [hq, tItems, if_pos b1, if_neg w38]
                 exact x_plan71 (by omega) (fun _ => k1 c2 (by rw [hq3]) (RH_tr hG (RQ_RH f1)) h4b (by rw [hq3]; exact f4)) (fun h => absurd h4b h))
              | (have hq3 : tItems T e n 8 0 [] = (iQ T e p, (l ++ [iX T e p]), false) := by
                   rw [hq, tItems, if_pos b1, if_pos y38]
                   first
                     | (rw [if_pos rfl]; done)
                     | (rw [if_neg (by omega), if_neg z38]; done)
                 have h4c : cu c2 30 0 4 ((iQ T e p : Nat) : Int) 30 0 4 = ((iQ T e p : Nat) : Int) := rfl
                 have hr3 := hr.2.2.1
                 exact x_plan71 (by rw [h4c]; omega) (fun h => by rw [h4c] at h; omega) (fun _ => k0 _ (by rw [hq3]) (RH_tr hG (RH_tr (RQ_RH f1) RH_30)) (by rw [hq3]; exact h4c)))
              | (have hq3 : tItems T e n 8 0 [] = (iF T e n p, l, false) := by rw [hq, tItems, if_neg (bne b0)]
                 have hr3 := iF_rng (T := T) (n := n) hp
                 exact x_plan71 (by rw [f2]; omega) (fun h => by rw [f2] at h; omega) (fun _ => k0 _ (by rw [hq3]) (RH_tr hG (RQ_RH f1)) (by rw [hq3]; exact f2)))
              | (have hq3 : tItems T e n 8 0 [] = (iQ T e p, (l ++ [iX T e p]), false) := by rw [hq, tItems, if_pos b1, if_pos y38.1, if_pos rfl]
                 have h4c : cu (cu c2 30 0 2 ((iQ T e p + 1 : Nat) : Int)) 30 0 4 ((iQ T e p : Nat) : Int) 30 0 4 = ((iQ T e p : Nat) : Int) := rfl
                 have hr3 := hr.2.2.1
                 exact x_plan71 (by rw [h4c]; omega) (fun h => by rw [h4c] at h; omega) (fun _ => k0 _ (by rw [hq3]) (RH_tr hG (RH_tr (RQ_RH f1) (RH_tr RH_30 RH_30))) (by rw [hq3]; exact h4c)))
        · refine r_ifeqT 48 0 dX5_readPlan_41 (by decide) (by decide) (by decide) ?_
          refine r_iconst 49 dX5_readPlan_48 rfl ?_
          refine r_istore3 50 dX5_readPlan_49 rfl rfl (by decide) ?_
          refine r_iinc4 53 dX5_readPlan_50 rfl rfl (by decide) ?_
          refine r_goto 18 dX5_readPlan_53 (by decide) ?_
          refine r_iload 20 dX5_readPlan_18 rfl rfl ?_
          refine r_bipush 22 dX5_readPlan_20 rfl (by decide) ?_
          refine r_icge 56 25 dX5_readPlan_22 rfl (by decide) (by omega) (by omega) (fun h22 => ?_) (fun h22 => ?_)
          · refine r_iloadN 57 dX5_readPlan_56 rfl rfl ?_
            refine r_ifeqT 71 0 dX5_readPlan_57 (by decide) (by decide) (by decide) ?_
            first
              | (have hq3 : tItems T e n 8 0 [] = (iQ T e p, (l ++ [iX T e p]), true) := by rw [hq, tItems, if_pos b1, if_neg w38]
                 exact x_plan71 (by omega) (fun _ => k1 c2 (by rw [hq3]) (RH_tr hG (RQ_RH f1)) h4b (by rw [hq3]; exact f4)) (fun h => absurd h4b h))
              | (have hq3 : tItems T e n 8 0 [] = (iQ T e p, (l ++ [iX T e p]), false) := by
                   rw [hq, tItems, if_pos b1, if_pos y38]
                   first
                     | (rw [if_pos rfl]; done)
                     | (rw [if_neg (by omega), if_neg z38]; done)
                 have h4c : cu c2 30 0 4 ((iQ T e p : Nat) : Int) 30 0 4 = ((iQ T e p : Nat) : Int) := rfl
                 have hr3 := hr.2.2.1
                 exact x_plan71 (by rw [h4c]; omega) (fun h => by rw [h4c] at h; omega) (fun _ => k0 _ (by rw [hq3]) (RH_tr hG (RH_tr (RQ_RH f1) RH_30)) (by rw [hq3]; exact h4c)))
              | (have hq3 : tItems T e n 8 0 [] = (iF T e n p, l, false) := by rw [hq, tItems, if_neg (bne b0)]
                 have hr3 := iF_rng (T := T) (n := n) hp
                 exact x_plan71 (by rw [f2]; omega) (fun h => by rw [f2] at h; omega) (fun _ => k0 _ (by rw [hq3]) (RH_tr hG (RQ_RH f1)) (by rw [hq3]; exact f2)))
              | (have hq3 : tItems T e n 8 0 [] = (iQ T e p, (l ++ [iX T e p]), false) := by rw [hq, tItems, if_pos b1, if_pos y38.1, if_pos rfl]
                 have h4c : cu (cu c2 30 0 2 ((iQ T e p + 1 : Nat) : Int)) 30 0 4 ((iQ T e p : Nat) : Int) 30 0 4 = ((iQ T e p : Nat) : Int) := rfl
                 have hr3 := hr.2.2.1
                 exact x_plan71 (by rw [h4c]; omega) (fun h => by rw [h4c] at h; omega) (fun _ => k0 _ (by rw [hq3]) (RH_tr hG (RH_tr (RQ_RH f1) (RH_tr RH_30 RH_30))) (by rw [hq3]; exact h4c)))
          · refine r_iloadN 26 dX5_readPlan_25 rfl rfl ?_
            refine r_ifeqT 56 0 dX5_readPlan_26 (by decide) (by decide) (by decide) ?_
            refine r_iloadN 57 dX5_readPlan_56 rfl rfl ?_
            refine r_ifeqT 71 0 dX5_readPlan_57 (by decide) (by decide) (by decide) ?_
            first
              | (have hq3 : tItems T e n 8 0 [] = (iQ T e p, (l ++ [iX T e p]), true) := by rw [hq, tItems, if_pos b1, if_neg w38]
                 exact x_plan71 (by omega) (fun _ => k1 c2 (by rw [hq3]) (RH_tr hG (RQ_RH f1)) h4b (by rw [hq3]; exact f4)) (fun h => absurd h4b h))
              | (have hq3 : tItems T e n 8 0 [] = (iQ T e p, (l ++ [iX T e p]), false) := by
                   rw [hq, tItems, if_pos b1, if_pos y38]
                   first
                     | (rw [if_pos rfl]; done)
                     | (rw [if_neg (by omega), if_neg z38]; done)
                 have h4c : cu c2 30 0 4 ((iQ T e p : Nat) : Int) 30 0 4 = ((iQ T e p : Nat) : Int) := rfl
                 have hr3 := hr.2.2.1
                 exact x_plan71 (by rw [h4c]; omega) (fun h => by rw [h4c] at h; omega) (fun _ => k0 _ (by rw [hq3]) (RH_tr hG (RH_tr (RQ_RH f1) RH_30)) (by rw [hq3]; exact h4c)))
              | (have hq3 : tItems T e n 8 0 [] = (iF T e n p, l, false) := by rw [hq, tItems, if_neg (bne b0)]
                 have hr3 := iF_rng (T := T) (n := n) hp
                 exact x_plan71 (by rw [f2]; omega) (fun h => by rw [f2] at h; omega) (fun _ => k0 _ (by rw [hq3]) (RH_tr hG (RQ_RH f1)) (by rw [hq3]; exact f2)))
              | (have hq3 : tItems T e n 8 0 [] = (iQ T e p, (l ++ [iX T e p]), false) := by rw [hq, tItems, if_pos b1, if_pos y38.1, if_pos rfl]
                 have h4c : cu (cu c2 30 0 2 ((iQ T e p + 1 : Nat) : Int)) 30 0 4 ((iQ T e p : Nat) : Int) 30 0 4 = ((iQ T e p : Nat) : Int) := rfl
                 have hr3 := hr.2.2.1
                 exact x_plan71 (by rw [h4c]; omega) (fun h => by rw [h4c] at h; omega) (fun _ => k0 _ (by rw [hq3]) (RH_tr hG (RH_tr (RQ_RH f1) (RH_tr RH_30 RH_30))) (by rw [hq3]; exact h4c)))
      · refine r_ifeqT 48 0 dX5_readPlan_34 (by decide) (by decide) (by decide) ?_
        refine r_iconst 49 dX5_readPlan_48 rfl ?_
        refine r_istore3 50 dX5_readPlan_49 rfl rfl (by decide) ?_
        refine r_iinc4 53 dX5_readPlan_50 rfl rfl (by decide) ?_
        refine r_goto 18 dX5_readPlan_53 (by decide) ?_
        refine r_iload 20 dX5_readPlan_18 rfl rfl ?_
        refine r_bipush 22 dX5_readPlan_20 rfl (by decide) ?_
        refine r_icge 56 25 dX5_readPlan_22 rfl (by decide) (by omega) (by omega) (fun h22 => ?_) (fun h22 => ?_)
        · refine r_iloadN 57 dX5_readPlan_56 rfl rfl ?_
          refine r_ifeqT 71 0 dX5_readPlan_57 (by decide) (by decide) (by decide) ?_
          first
            | (have hq3 : tItems T e n 8 0 [] = (iQ T e p, (l ++ [iX T e p]), true) := by rw [hq, tItems, if_pos b1, if_neg w38]
               exact x_plan71 (by omega) (fun _ => k1 c2 (by rw [hq3]) (RH_tr hG (RQ_RH f1)) h4b (by rw [hq3]; exact f4)) (fun h => absurd h4b h))
            | (have hq3 : tItems T e n 8 0 [] = (iQ T e p, (l ++ [iX T e p]), false) := by
                 rw [hq, tItems, if_pos b1, if_pos y38]
                 first
                   | (rw [if_pos rfl]; done)
                   | (rw [if_neg (by omega), if_neg z38]; done)
               have h4c : cu c2 30 0 4 ((iQ T e p : Nat) : Int) 30 0 4 = ((iQ T e p : Nat) : Int) := rfl
               have hr3 := hr.2.2.1
               exact x_plan71 (by rw [h4c]; omega) (fun h => by rw [h4c] at h; omega) (fun _ => k0 _ (by rw [hq3]) (RH_tr hG (RH_tr (RQ_RH f1) RH_30)) (by rw [hq3]; exact h4c)))
            | (have hq3 : tItems T e n 8 0 [] = (iF T e n p, l, false) := by rw [hq, tItems, if_neg (bne b0)]
               have hr3 := iF_rng (T := T) (n := n) hp
               exact x_plan71 (by rw [f2]; omega) (fun h => by rw [f2] at h; omega) (fun _ => k0 _ (by rw [hq3]) (RH_tr hG (RQ_RH f1)) (by rw [hq3]; exact f2)))
            | (have hq3 : tItems T e n 8 0 [] = (iQ T e p, (l ++ [iX T e p]), false) := by rw [hq, tItems, if_pos b1, if_pos y38.1, if_pos rfl]
               have h4c : cu (cu c2 30 0 2 ((iQ T e p + 1 : Nat) : Int)) 30 0 4 ((iQ T e p : Nat) : Int) 30 0 4 = ((iQ T e p : Nat) : Int) := rfl
               have hr3 := hr.2.2.1
               exact x_plan71 (by rw [h4c]; omega) (fun h => by rw [h4c] at h; omega) (fun _ => k0 _ (by rw [hq3]) (RH_tr hG (RH_tr (RQ_RH f1) (RH_tr RH_30 RH_30))) (by rw [hq3]; exact h4c)))
        · refine r_iloadN 26 dX5_readPlan_25 rfl rfl ?_
          refine r_ifeqT 56 0 dX5_readPlan_26 (by decide) (by decide) (by decide) ?_
          refine r_iloadN 57 dX5_readPlan_56 rfl rfl ?_
          refine r_ifeqT 71 0 dX5_readPlan_57 (by decide) (by decide) (by decide) ?_
          first
            | (have hq3 : tItems T e n 8 0 [] = (iQ T e p, (l ++ [iX T e p]), true) := by rw [hq, tItems, if_pos b1, if_neg w38]
               exact x_plan71 (by omega) (fun _ => k1 c2 (by rw [hq3]) (RH_tr hG (RQ_RH f1)) h4b (by rw [hq3]; exact f4)) (fun h => absurd h4b h))
            | (have hq3 : tItems T e n 8 0 [] = (iQ T e p, (l ++ [iX T e p]), false) := by
                 rw [hq, tItems, if_pos b1, if_pos y38]
                 first
                   | (rw [if_pos rfl]; done)
                   | (rw [if_neg (by omega), if_neg z38]; done)
               have h4c : cu c2 30 0 4 ((iQ T e p : Nat) : Int) 30 0 4 = ((iQ T e p : Nat) : Int) := rfl
               have hr3 := hr.2.2.1
               exact x_plan71 (by rw [h4c]; omega) (fun h => by rw [h4c] at h; omega) (fun _ => k0 _ (by rw [hq3]) (RH_tr hG (RH_tr (RQ_RH f1) RH_30)) (by rw [hq3]; exact h4c)))
            | (have hq3 : tItems T e n 8 0 [] = (iF T e n p, l, false) := by rw [hq, tItems, if_neg (bne b0)]
               have hr3 := iF_rng (T := T) (n := n) hp
               exact x_plan71 (by rw [f2]; omega) (fun h => by rw [f2] at h; omega) (fun _ => k0 _ (by rw [hq3]) (RH_tr hG (RQ_RH f1)) (by rw [hq3]; exact f2)))
            | (have hq3 : tItems T e n 8 0 [] = (iQ T e p, (l ++ [iX T e p]), false) := by rw [hq, tItems, if_pos b1, if_pos y38.1, if_pos rfl]
               have h4c : cu (cu c2 30 0 2 ((iQ T e p + 1 : Nat) : Int)) 30 0 4 ((iQ T e p : Nat) : Int) 30 0 4 = ((iQ T e p : Nat) : Int) := rfl
               have hr3 := hr.2.2.1
               exact x_plan71 (by rw [h4c]; omega) (fun h => by rw [h4c] at h; omega) (fun _ => k0 _ (by rw [hq3]) (RH_tr hG (RH_tr (RQ_RH f1) (RH_tr RH_30 RH_30))) (by rw [hq3]; exact h4c)))
  | succ k ih =>
    intro i p l c hi hp hG hs ha h4 h5 h6 hq
    have hs2 := hs.2.1
    refine r_iload 20 dX5_readPlan_18 rfl rfl ?_
    refine r_bipush 22 dX5_readPlan_20 rfl (by decide) ?_
    refine r_icge 56 25 dX5_readPlan_22 rfl (by decide) (by omega) (by omega) (fun h22 => ?_) (fun h22 => ?_)
    · exfalso; omega
    · refine r_iloadN 26 dX5_readPlan_25 rfl rfl ?_
      refine r_ifeqF 29 dX5_readPlan_26 rfl 56 (by decide) (by decide) (by decide) ?_
      refine r_aloadN 30 dX5_readPlan_29 rfl rfl ?_
      refine r_iloadN 31 dX5_readPlan_30 rfl rfl ?_
      refine r_cv1 34 dX5_readPlan_31 rfl gX5_59 rfl (by decide) (sh_30 z _) rfl rfl (Nat.le_of_ble_eq_true rfl) (Nat.le_of_ble_eq_true rfl) rfl ?_
      refine x_readItem hz hnn hs ha hp h5 (by omega) (fun c2 b1 f1 f2 f3 f4 => ?_) (fun c2 b0 f1 f2 => ?_)
      · refine r_ifeqF 37 dX5_readPlan_34 rfl 48 (by decide) (by decide) (by decide) ?_
        have hr := iOk_rng hp b1
        have hs3 := RS_frQ hs f1
        have h4b := f3.trans h4
        refine r_aloadN 38 dX5_readPlan_37 rfl rfl ?_
        refine r_cv0 41 dX5_readPlan_38 rfl gX5_55 rfl (by decide) (sh_30 z _) rfl rfl (Nat.le_of_ble_eq_true rfl) (Nat.le_of_ble_eq_true rfl) rfl ?_
        refine x_goesOn hs3 f2 hr.2.2.1 (fun y38 => ?_) (fun y38 z38 => ?_) (fun w38 => ?_)
        · refine r_ifeqF 44 dX5_readPlan_41 rfl 48 (by decide) (by decide) (by decide) ?_
          refine r_iconst 45 dX5_readPlan_44 rfl ?_
          refine r_goto 49 dX5_readPlan_45 (by decide) ?_
          refine r_istore3 50 dX5_readPlan_49 rfl rfl (by decide) ?_
          refine r_iinc4 53 dX5_readPlan_50 rfl rfl (by decide) ?_
          refine r_goto 18 dX5_readPlan_53 (by decide) ?_
          refine ih (i + 1) (iQ T e p + 1) (l ++ [iX T e p]) _ (by omega) (by omega) (RH_tr hG (RH_tr (RQ_RH f1) RH_30)) (RS_frQ hs3 (RF_RQ (RF_cu (by omega)))) ?_ ?_ (PI_fr f4 (RF_cu (by omega))) (by rw [List.length_append]; show l.length + 1 = i + 1; omega) (by rw [hq, tItems, if_pos b1, if_pos y38.1, if_neg (by omega), if_pos y38.2])
          · rw [cu_ap, if_pos ⟨rfl, rfl, rfl⟩]
          · rw [cu_ap, if_neg (by omega)]; exact h4b
        · refine r_ifeqT 48 0 dX5_readPlan_41 (by decide) (by decide) (by decide) ?_
          refine r_iconst 49 dX5_readPlan_48 rfl ?_
          refine r_istore3 50 dX5_readPlan_49 rfl rfl (by decide) ?_
          refine r_iinc4 53 dX5_readPlan_50 rfl rfl (by decide) ?_
          refine r_goto 18 dX5_readPlan_53 (by decide) ?_
          refine r_iload 20 dX5_readPlan_18 rfl rfl ?_
          refine r_bipush 22 dX5_readPlan_20 rfl (by decide) ?_
          refine r_icge 56 25 dX5_readPlan_22 rfl (by decide) (by omega) (by omega) (fun h22 => ?_) (fun h22 => ?_)
          · refine r_iloadN 57 dX5_readPlan_56 rfl rfl ?_
            refine r_ifeqT 71 0 dX5_readPlan_57 (by decide) (by decide) (by decide) ?_
            first
              | (have hq3 : tItems T e n 8 0 [] = (iQ T e p, (l ++ [iX T e p]), true) := by rw [hq, tItems, if_pos b1, if_neg w38]
                 exact x_plan71 (by omega) (fun _ => k1 c2 (by rw [hq3]) (RH_tr hG (RQ_RH f1)) h4b (by rw [hq3]; exact f4)) (fun h => absurd h4b h))
              | (have hq3 : tItems T e n 8 0 [] = (iQ T e p, (l ++ [iX T e p]), false) := by
                   rw [hq, tItems, if_pos b1, if_pos y38]
                   first
                     | (rw [if_pos rfl]; done)
                     | (rw [if_neg (by omega), if_neg z38]; done)
                 have h4c : cu c2 30 0 4 ((iQ T e p : Nat) : Int) 30 0 4 = ((iQ T e p : Nat) : Int) := rfl
                 have hr3 := hr.2.2.1
                 exact x_plan71 (by rw [h4c]; omega) (fun h => by rw [h4c] at h; omega) (fun _ => k0 _ (by rw [hq3]) (RH_tr hG (RH_tr (RQ_RH f1) RH_30)) (by rw [hq3]; exact h4c)))
              | (have hq3 : tItems T e n 8 0 [] = (iF T e n p, l, false) := by rw [hq, tItems, if_neg (bne b0)]
                 have hr3 := iF_rng (T := T) (n := n) hp
                 exact x_plan71 (by rw [f2]; omega) (fun h => by rw [f2] at h; omega) (fun _ => k0 _ (by rw [hq3]) (RH_tr hG (RQ_RH f1)) (by rw [hq3]; exact f2)))
              | (have hq3 : tItems T e n 8 0 [] = (iQ T e p, (l ++ [iX T e p]), false) := by rw [hq, tItems, if_pos b1, if_pos y38.1, if_pos rfl]
                 have h4c : cu (cu c2 30 0 2 ((iQ T e p + 1 : Nat) : Int)) 30 0 4 ((iQ T e p : Nat) : Int) 30 0 4 = ((iQ T e p : Nat) : Int) := rfl
                 have hr3 := hr.2.2.1
                 exact x_plan71 (by rw [h4c]; omega) (fun h => by rw [h4c] at h; omega) (fun _ => k0 _ (by rw [hq3]) (RH_tr hG (RH_tr (RQ_RH f1) (RH_tr RH_30 RH_30))) (by rw [hq3]; exact h4c)))
          · refine r_iloadN 26 dX5_readPlan_25 rfl rfl ?_
            refine r_ifeqT 56 0 dX5_readPlan_26 (by decide) (by decide) (by decide) ?_
            refine r_iloadN 57 dX5_readPlan_56 rfl rfl ?_
            refine r_ifeqT 71 0 dX5_readPlan_57 (by decide) (by decide) (by decide) ?_
            first
              | (have hq3 : tItems T e n 8 0 [] = (iQ T e p, (l ++ [iX T e p]), true) := by rw [hq, tItems, if_pos b1, if_neg w38]
                 exact x_plan71 (by omega) (fun _ => k1 c2 (by rw [hq3]) (RH_tr hG (RQ_RH f1)) h4b (by rw [hq3]; exact f4)) (fun h => absurd h4b h))
              | (have hq3 : tItems T e n 8 0 [] = (iQ T e p, (l ++ [iX T e p]), false) := by
                   rw [hq, tItems, if_pos b1, if_pos y38]
                   first
                     | (rw [if_pos rfl]; done)
                     | (rw [if_neg (by omega), if_neg z38]; done)
                 have h4c : cu c2 30 0 4 ((iQ T e p : Nat) : Int) 30 0 4 = ((iQ T e p : Nat) : Int) := rfl
                 have hr3 := hr.2.2.1
                 exact x_plan71 (by rw [h4c]; omega) (fun h => by rw [h4c] at h; omega) (fun _ => k0 _ (by rw [hq3]) (RH_tr hG (RH_tr (RQ_RH f1) RH_30)) (by rw [hq3]; exact h4c)))
              | (have hq3 : tItems T e n 8 0 [] = (iF T e n p, l, false) := by rw [hq, tItems, if_neg (bne b0)]
                 have hr3 := iF_rng (T := T) (n := n) hp
                 exact x_plan71 (by rw [f2]; omega) (fun h => by rw [f2] at h; omega) (fun _ => k0 _ (by rw [hq3]) (RH_tr hG (RQ_RH f1)) (by rw [hq3]; exact f2)))
              | (have hq3 : tItems T e n 8 0 [] = (iQ T e p, (l ++ [iX T e p]), false) := by rw [hq, tItems, if_pos b1, if_pos y38.1, if_pos rfl]
                 have h4c : cu (cu c2 30 0 2 ((iQ T e p + 1 : Nat) : Int)) 30 0 4 ((iQ T e p : Nat) : Int) 30 0 4 = ((iQ T e p : Nat) : Int) := rfl
                 have hr3 := hr.2.2.1
                 exact x_plan71 (by rw [h4c]; omega) (fun h => by rw [h4c] at h; omega) (fun _ => k0 _ (by rw [hq3]) (RH_tr hG (RH_tr (RQ_RH f1) (RH_tr RH_30 RH_30))) (by rw [hq3]; exact h4c)))
        · refine r_ifeqT 48 0 dX5_readPlan_41 (by decide) (by decide) (by decide) ?_
          refine r_iconst 49 dX5_readPlan_48 rfl ?_
          refine r_istore3 50 dX5_readPlan_49 rfl rfl (by decide) ?_
          refine r_iinc4 53 dX5_readPlan_50 rfl rfl (by decide) ?_
          refine r_goto 18 dX5_readPlan_53 (by decide) ?_
          refine r_iload 20 dX5_readPlan_18 rfl rfl ?_
          refine r_bipush 22 dX5_readPlan_20 rfl (by decide) ?_
          refine r_icge 56 25 dX5_readPlan_22 rfl (by decide) (by omega) (by omega) (fun h22 => ?_) (fun h22 => ?_)
          · refine r_iloadN 57 dX5_readPlan_56 rfl rfl ?_
            refine r_ifeqT 71 0 dX5_readPlan_57 (by decide) (by decide) (by decide) ?_
            first
              | (have hq3 : tItems T e n 8 0 [] = (iQ T e p, (l ++ [iX T e p]), true) := by rw [hq, tItems, if_pos b1, if_neg w38]
                 exact x_plan71 (by omega) (fun _ => k1 c2 (by rw [hq3]) (RH_tr hG (RQ_RH f1)) h4b (by rw [hq3]; exact f4)) (fun h => absurd h4b h))
              | (have hq3 : tItems T e n 8 0 [] = (iQ T e p, (l ++ [iX T e p]), false) := by
                   rw [hq, tItems, if_pos b1, if_pos y38]
                   first
                     | (rw [if_pos rfl]; done)
                     | (rw [if_neg (by omega), if_neg z38]; done)
                 have h4c : cu c2 30 0 4 ((iQ T e p : Nat) : Int) 30 0 4 = ((iQ T e p : Nat) : Int) := rfl
                 have hr3 := hr.2.2.1
                 exact x_plan71 (by rw [h4c]; omega) (fun h => by rw [h4c] at h; omega) (fun _ => k0 _ (by rw [hq3]) (RH_tr hG (RH_tr (RQ_RH f1) RH_30)) (by rw [hq3]; exact h4c)))
              | (have hq3 : tItems T e n 8 0 [] = (iF T e n p, l, false) := by rw [hq, tItems, if_neg (bne b0)]
                 have hr3 := iF_rng (T := T) (n := n) hp
                 exact x_plan71 (by rw [f2]; omega) (fun h => by rw [f2] at h; omega) (fun _ => k0 _ (by rw [hq3]) (RH_tr hG (RQ_RH f1)) (by rw [hq3]; exact f2)))
              | (have hq3 : tItems T e n 8 0 [] = (iQ T e p, (l ++ [iX T e p]), false) := by rw [hq, tItems, if_pos b1, if_pos y38.1, if_pos rfl]
                 have h4c : cu (cu c2 30 0 2 ((iQ T e p + 1 : Nat) : Int)) 30 0 4 ((iQ T e p : Nat) : Int) 30 0 4 = ((iQ T e p : Nat) : Int) := rfl
                 have hr3 := hr.2.2.1
                 exact x_plan71 (by rw [h4c]; omega) (fun h => by rw [h4c] at h; omega) (fun _ => k0 _ (by rw [hq3]) (RH_tr hG (RH_tr (RQ_RH f1) (RH_tr RH_30 RH_30))) (by rw [hq3]; exact h4c)))
          · refine r_iloadN 26 dX5_readPlan_25 rfl rfl ?_
            refine r_ifeqT 56 0 dX5_readPlan_26 (by decide) (by decide) (by decide) ?_
            refine r_iloadN 57 dX5_readPlan_56 rfl rfl ?_
            refine r_ifeqT 71 0 dX5_readPlan_57 (by decide) (by decide) (by decide) ?_
            first
              | (have hq3 : tItems T e n 8 0 [] = (iQ T e p, (l ++ [iX T e p]), true) := by rw [hq, tItems, if_pos b1, if_neg w38]
                 exact x_plan71 (by omega) (fun _ => k1 c2 (by rw [hq3]) (RH_tr hG (RQ_RH f1)) h4b (by rw [hq3]; exact f4)) (fun h => absurd h4b h))
              | (have hq3 : tItems T e n 8 0 [] = (iQ T e p, (l ++ [iX T e p]), false) := by
                   rw [hq, tItems, if_pos b1, if_pos y38]
                   first
                     | (rw [if_pos rfl]; done)
                     | (rw [if_neg (by omega), if_neg z38]; done)
                 have h4c : cu c2 30 0 4 ((iQ T e p : Nat) : Int) 30 0 4 = ((iQ T e p : Nat) : Int) := rfl
                 have hr3 := hr.2.2.1
                 exact x_plan71 (by rw [h4c]; omega) (fun h => by rw [h4c] at h; omega) (fun _ => k0 _ (by rw [hq3]) (RH_tr hG (RH_tr (RQ_RH f1) RH_30)) (by rw [hq3]; exact h4c)))
              | (have hq3 : tItems T e n 8 0 [] = (iF T e n p, l, false) := by rw [hq, tItems, if_neg (bne b0)]
                 have hr3 := iF_rng (T := T) (n := n) hp
                 exact x_plan71 (by rw [f2]; omega) (fun h => by rw [f2] at h; omega) (fun _ => k0 _ (by rw [hq3]) (RH_tr hG (RQ_RH f1)) (by rw [hq3]; exact f2)))
              | (have hq3 : tItems T e n 8 0 [] = (iQ T e p, (l ++ [iX T e p]), false) := by rw [hq, tItems, if_pos b1, if_pos y38.1, if_pos rfl]
                 have h4c : cu (cu c2 30 0 2 ((iQ T e p + 1 : Nat) : Int)) 30 0 4 ((iQ T e p : Nat) : Int) 30 0 4 = ((iQ T e p : Nat) : Int) := rfl
                 have hr3 := hr.2.2.1
                 exact x_plan71 (by rw [h4c]; omega) (fun h => by rw [h4c] at h; omega) (fun _ => k0 _ (by rw [hq3]) (RH_tr hG (RH_tr (RQ_RH f1) (RH_tr RH_30 RH_30))) (by rw [hq3]; exact h4c)))
      · refine r_ifeqT 48 0 dX5_readPlan_34 (by decide) (by decide) (by decide) ?_
        refine r_iconst 49 dX5_readPlan_48 rfl ?_
        refine r_istore3 50 dX5_readPlan_49 rfl rfl (by decide) ?_
        refine r_iinc4 53 dX5_readPlan_50 rfl rfl (by decide) ?_
        refine r_goto 18 dX5_readPlan_53 (by decide) ?_
        refine r_iload 20 dX5_readPlan_18 rfl rfl ?_
        refine r_bipush 22 dX5_readPlan_20 rfl (by decide) ?_
        refine r_icge 56 25 dX5_readPlan_22 rfl (by decide) (by omega) (by omega) (fun h22 => ?_) (fun h22 => ?_)
        · refine r_iloadN 57 dX5_readPlan_56 rfl rfl ?_
          refine r_ifeqT 71 0 dX5_readPlan_57 (by decide) (by decide) (by decide) ?_
          first
            | (have hq3 : tItems T e n 8 0 [] = (iQ T e p, (l ++ [iX T e p]), true) := by rw [hq, tItems, if_pos b1, if_neg w38]
               exact x_plan71 (by omega) (fun _ => k1 c2 (by rw [hq3]) (RH_tr hG (RQ_RH f1)) h4b (by rw [hq3]; exact f4)) (fun h => absurd h4b h))
            | (have hq3 : tItems T e n 8 0 [] = (iQ T e p, (l ++ [iX T e p]), false) := by
                 rw [hq, tItems, if_pos b1, if_pos y38]
                 first
                   | (rw [if_pos rfl]; done)
                   | (rw [if_neg (by omega), if_neg z38]; done)
               have h4c : cu c2 30 0 4 ((iQ T e p : Nat) : Int) 30 0 4 = ((iQ T e p : Nat) : Int) := rfl
               have hr3 := hr.2.2.1
               exact x_plan71 (by rw [h4c]; omega) (fun h => by rw [h4c] at h; omega) (fun _ => k0 _ (by rw [hq3]) (RH_tr hG (RH_tr (RQ_RH f1) RH_30)) (by rw [hq3]; exact h4c)))
            | (have hq3 : tItems T e n 8 0 [] = (iF T e n p, l, false) := by rw [hq, tItems, if_neg (bne b0)]
               have hr3 := iF_rng (T := T) (n := n) hp
               exact x_plan71 (by rw [f2]; omega) (fun h => by rw [f2] at h; omega) (fun _ => k0 _ (by rw [hq3]) (RH_tr hG (RQ_RH f1)) (by rw [hq3]; exact f2)))
            | (have hq3 : tItems T e n 8 0 [] = (iQ T e p, (l ++ [iX T e p]), false) := by rw [hq, tItems, if_pos b1, if_pos y38.1, if_pos rfl]
               have h4c : cu (cu c2 30 0 2 ((iQ T e p + 1 : Nat) : Int)) 30 0 4 ((iQ T e p : Nat) : Int) 30 0 4 = ((iQ T e p : Nat) : Int) := rfl
               have hr3 := hr.2.2.1
               exact x_plan71 (by rw [h4c]; omega) (fun h => by rw [h4c] at h; omega) (fun _ => k0 _ (by rw [hq3]) (RH_tr hG (RH_tr (RQ_RH f1) (RH_tr RH_30 RH_30))) (by rw [hq3]; exact h4c)))
        · refine r_iloadN 26 dX5_readPlan_25 rfl rfl ?_
          refine r_ifeqT 56 0 dX5_readPlan_26 (by decide) (by decide) (by decide) ?_
          refine r_iloadN 57 dX5_readPlan_56 rfl rfl ?_
          refine r_ifeqT 71 0 dX5_readPlan_57 (by decide) (by decide) (by decide) ?_
          first
            | (have hq3 : tItems T e n 8 0 [] = (iQ T e p, (l ++ [iX T e p]), true) := by rw [hq, tItems, if_pos b1, if_neg w38]
               exact x_plan71 (by omega) (fun _ => k1 c2 (by rw [hq3]) (RH_tr hG (RQ_RH f1)) h4b (by rw [hq3]; exact f4)) (fun h => absurd h4b h))
            | (have hq3 : tItems T e n 8 0 [] = (iQ T e p, (l ++ [iX T e p]), false) := by
                 rw [hq, tItems, if_pos b1, if_pos y38]
                 first
                   | (rw [if_pos rfl]; done)
                   | (rw [if_neg (by omega), if_neg z38]; done)
               have h4c : cu c2 30 0 4 ((iQ T e p : Nat) : Int) 30 0 4 = ((iQ T e p : Nat) : Int) := rfl
               have hr3 := hr.2.2.1
               exact x_plan71 (by rw [h4c]; omega) (fun h => by rw [h4c] at h; omega) (fun _ => k0 _ (by rw [hq3]) (RH_tr hG (RH_tr (RQ_RH f1) RH_30)) (by rw [hq3]; exact h4c)))
            | (have hq3 : tItems T e n 8 0 [] = (iF T e n p, l, false) := by rw [hq, tItems, if_neg (bne b0)]
               have hr3 := iF_rng (T := T) (n := n) hp
               exact x_plan71 (by rw [f2]; omega) (fun h => by rw [f2] at h; omega) (fun _ => k0 _ (by rw [hq3]) (RH_tr hG (RQ_RH f1)) (by rw [hq3]; exact f2)))
            | (have hq3 : tItems T e n 8 0 [] = (iQ T e p, (l ++ [iX T e p]), false) := by rw [hq, tItems, if_pos b1, if_pos y38.1, if_pos rfl]
               have h4c : cu (cu c2 30 0 2 ((iQ T e p + 1 : Nat) : Int)) 30 0 4 ((iQ T e p : Nat) : Int) 30 0 4 = ((iQ T e p : Nat) : Int) := rfl
               have hr3 := hr.2.2.1
               exact x_plan71 (by rw [h4c]; omega) (fun h => by rw [h4c] at h; omega) (fun _ => k0 _ (by rw [hq3]) (RH_tr hG (RH_tr (RQ_RH f1) (RH_tr RH_30 RH_30))) (by rw [hq3]; exact h4c)))
theorem x_readPlan {z : xZ} {d : Nat} {Q : tQ} {c : tC} {L : tL} {s e : Nat} {T : Nat → Int} {n : Int} (hz : zF z) (hnn : 0 ≤ n ∧ n ≤ 14) (h : SR c L s e T) (hs : s < 8) (hT : ∀ j, inR (T j)) (k1 : ∀ c2, (tItems T e n 8 0 []).2.2 = true → RH c c2 → c2 30 0 4 = -1 → PI c2 (tItems T e n 8 0 []).2.1 → Q (some (.int (iI 1))) c2 L) (k0 : ∀ c2, (tItems T e n 8 0 []).2.2 = false → RH c c2 → c2 30 0 4 = (((tItems T e n 8 0 []).1 : Nat) : Int) → Q (some (.int (iI 0))) c2 L) : En z (d + 7) MX5_readPlan Q 0 [some (.ref (xad z 30 0)), some (.ref (xad z 2 s)), some (.int (iI n)), none, none] [] c L := by
  refine r_aloadN 1 dX5_readPlan_0 rfl rfl ?_
  refine r_aloadN 2 dX5_readPlan_1 rfl rfl ?_
  refine r_cv1 5 dX5_readPlan_2 rfl gX5_41 rfl (by decide) (sh_30 z _) rfl rfl (Nat.le_of_ble_eq_true rfl) (Nat.le_of_ble_eq_true rfl) rfl ?_
  refine x_rbegin h hs hT (fun c2 g1 g2 g3 g4 => ?_)
  refine r_aloadN 6 dX5_readPlan_5 rfl rfl ?_
  refine r_getq 9 dX5_readPlan_6 rfl fX5_37 (by decide) (sh_30 z _) rfl ?_
  refine r_iconst 10 dX5_readPlan_9 rfl ?_
  refine r_puti 13 dX5_readPlan_10 rfl pX5_58 (ct_14 (by omega)) (sh_14 z _) rfl ?_
  refine r_iconst 14 dX5_readPlan_13 rfl ?_
  refine r_istore3 15 dX5_readPlan_14 rfl rfl (by decide) ?_
  refine r_iconst 16 dX5_readPlan_15 rfl ?_
  refine r_istore4 18 dX5_readPlan_16 rfl rfl (by decide) ?_
  refine x_plan_loop (c0 := c) (s := s) hz hnn k1 k0 7 0 0 [] _ rfl (Nat.zero_le _) (fun g i j n1 n2 n3 => ?_) ?_ ?_ ?_ ?_ rfl rfl
  · rw [cu_ap, if_neg (by omega)]
    exact g1 g i j (by omega) (by omega)
  · exact ⟨g2.1, g2.2.1, g2.2.2.1, g2.2.2.2⟩
  · exact g3
  · exact g4
  · exact ⟨rfl, fun j hj => absurd hj (Nat.not_lt_zero _)⟩
