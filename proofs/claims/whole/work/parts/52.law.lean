/-! the class reads laws -/
def lwl (w : Nat) : Int := [0, 0, 1, 1, 0, 0].getD w 0
def lwh (w : Nat) : Int := [99, 99, 9, 9, 99, 239].getD w 0
theorem lw_rng : ∀ w, w < 6 → ((0 ≤ lwl w ∧ lwl w ≤ 1) ∧ 9 ≤ lwh w ∧ lwh w ≤ 239) ∧ (xLL.getD w 0).toInt = lwl w ∧ (xML.getD w 0).toInt = lwh w := by decide +kernel
/-- which law begins at p: k of them from i on, i + k if none -/
def tWf (T : Nat → Int) (e p : Nat) : Nat → Nat → Nat
  | 0, i => i
  | k + 1, i => if p < e ∧ T p = (nm i).getD 0 0 then i else tWf T e p k (i + 1)
abbrev tW (T : Nat → Int) (e p : Nat) : Nat := tWf T e p 6 0
theorem tWf_le (T : Nat → Int) (e p : Nat) : ∀ k i, tWf T e p k i ≤ i + k
  | 0, i => Nat.le_refl _
  | k + 1, i => by
    have := tWf_le T e p k (i + 1)
    rw [tWf]
    split <;> omega
def lOk (T : Nat → Int) (e p : Nat) : Bool := decide (tW T e p < 6) && tSN T e (nm (tW T e p)) (lwl (tW T e p)) (lwh (tW T e p)) p
def lF (T : Nat → Int) (e p : Nat) : Nat := if tW T e p < 6 then tSF T e (nm (tW T e p)) p else p
abbrev lQ (T : Nat → Int) (e p : Nat) : Nat := tSQ T e (nm (tW T e p)) p
abbrev lV (T : Nat → Int) (e p : Nat) : Int := tSV T e (nm (tW T e p)) p
def RLw (c c2 : tC) : Prop := ∀ g i j, ¬ (g = 30 ∧ i = 0 ∧ 2 ≤ j ∧ j ≤ 5) → ¬ (g = 32 ∧ i = 0 ∧ j < 6) → c2 g i j = c g i j
theorem RLw_rfl (c : tC) : RLw c c := fun _ _ _ _ _ => rfl
theorem RLw_tr {a b c : tC} (h : RLw a b) (h2 : RLw b c) : RLw a c := fun g i j n n2 => (h2 g i j n n2).trans (h g i j n n2)
theorem RF_RLw {a b : tC} (h : RF a b) : RLw a b := fun g i j n _ => h g i j (by omega)
theorem RS_frL {c c2 : tC} {e : Nat} {T : Nat → Int} (h : RS c e T) (h2 : RLw c c2) : RS c2 e T := ⟨(h2 30 0 1 (by omega) (by omega)).trans h.1, h.2.1, fun j hj => (h2 31 0 j (by omega) (by omega)).trans (h.2.2.1 j hj), h.2.2.2⟩
theorem tSQ_rng {T : Nat → Int} {e p : Nat} {l : List Int} (hp : p ≤ e) : (p ≤ tSQ T e l p ∧ tSQ T e l p ≤ e) ∧ (p ≤ tSF T e l p ∧ tSF T e l p ≤ e) ∧ 0 ≤ tSV T e l p ∧ tSV T e l p < 1000000000 := by
  have h1 := tSq_rng (T := T) l p hp
  have h2 := tNum_3 (T := T) h1.2.1
  unfold tSQ tSF tSV
  omega
theorem tSN_rng {T : Nat → Int} {e p : Nat} {l : List Int} {lo hi : Int} (hp : p ≤ e) (h : tSN T e l lo hi p = true) : p + l.length < tSQ T e l p ∧ lo ≤ tSV T e l p ∧ tSV T e l p ≤ hi := by
  unfold tSN at h
  rw [Bool.and_eq_true] at h
  have h1 := (tSq_rng (T := T) l p hp).2.2 h.1
  have h2 := of_decide_eq_true (show decide _ = true from h.2)
  unfold tSQ tSV
  omega
theorem x_lawName {z : xZ} {d : Nat} {Q : tQ} {c : tC} {L : tL} {w : Nat} (hw : w < 6) (k : Q (some (.ref (sad z w))) c L) : En z (d + 1) MX5_lawName Q 0 [some (.int (iI (w : Int)))] [] c L := by
  refine r_iloadN 1 dX5_lawName_0 rfl rfl ?_
  rcases (show w = 0 ∨ w = 1 ∨ w = 2 ∨ w = 3 ∨ w = 4 ∨ w = 5 by omega) with e9 | e9 | e9 | e9 | e9 | e9
  · subst e9
    refine r_tin (35) 36 dX5_lawName_1 (by omega) (by omega) (by omega) rfl (by decide) ?_
    refine r_ldcs 38 dX5_lawName_36 rfl (kX5_119 z) ?_
    exact r_aret dX5_lawName_38 rfl k
  · subst e9
    refine r_tin (38) 39 dX5_lawName_1 (by omega) (by omega) (by omega) rfl (by decide) ?_
    refine r_ldcs 41 dX5_lawName_39 rfl (kX5_121 z) ?_
    exact r_aret dX5_lawName_41 rfl k
  · subst e9
    refine r_tin (41) 42 dX5_lawName_1 (by omega) (by omega) (by omega) rfl (by decide) ?_
    refine r_ldcs 44 dX5_lawName_42 rfl (kX5_123 z) ?_
    exact r_aret dX5_lawName_44 rfl k
  · subst e9
    refine r_tin (44) 45 dX5_lawName_1 (by omega) (by omega) (by omega) rfl (by decide) ?_
    refine r_ldcs 47 dX5_lawName_45 rfl (kX5_125 z) ?_
    exact r_aret dX5_lawName_47 rfl k
  · subst e9
    refine r_tin (47) 48 dX5_lawName_1 (by omega) (by omega) (by omega) rfl (by decide) ?_
    refine r_ldcs 50 dX5_lawName_48 rfl (kX5_127 z) ?_
    exact r_aret dX5_lawName_50 rfl k
  · subst e9
    refine r_tout 51 dX5_lawName_1 (by omega) (by omega) (by decide) ?_
    refine r_ldcs 53 dX5_lawName_51 rfl (kX5_129 z) ?_
    exact r_aret dX5_lawName_53 rfl k
theorem x_readLawOf {z : xZ} {d : Nat} {Q : tQ} {c : tC} {L : tL} {e p : Nat} {T : Nat → Int} {w : Nat} (hz : zF z) (hw : w < 6) (hs : RS c e T) (ha : c 30 0 2 = (p : Int)) (hp : p ≤ e) (k1 : ∀ c2, tSN T e (nm w) (lwl w) (lwh w) p = true → RLw c c2 → c2 30 0 2 = ((tSQ T e (nm w) p : Nat) : Int) → c2 30 0 4 = c 30 0 4 → c2 30 0 5 = c 30 0 5 + 1 → (∀ j, j < 6 → c2 32 0 j = if j = w then tSV T e (nm w) p else c 32 0 j) → Q (some (.int (iI 1))) c2 L) (k0 : ∀ c2, tSN T e (nm w) (lwl w) (lwh w) p = false → RLw c c2 → c2 30 0 4 = ((tSF T e (nm w) p : Nat) : Int) → Q (some (.int (iI 0))) c2 L) : En z (d + 8) MX5_readLawOf Q 0 [some (.ref (xad z 30 0)), some (.int (iI (w : Int)))] [] c L := by
  have hlr := lw_rng w hw
  have hsr := tSq_rng (T := T) (e := e) (nm w) p hp
  refine r_aloadN 1 dX5_readLawOf_0 rfl rfl ?_
  refine r_iloadN 2 dX5_readLawOf_1 rfl rfl ?_
  refine r_cs1 5 dX5_readLawOf_2 rfl gX5_98 (Nat.le_of_ble_eq_true rfl) (Nat.le_of_ble_eq_true rfl) rfl ?_
  refine x_lawName hw ?_
  refine r_cv1 8 dX5_readLawOf_5 rfl gX5_105 rfl (by decide) (sh_30 z _) rfl rfl (Nat.le_of_ble_eq_true rfl) (Nat.le_of_ble_eq_true rfl) rfl ?_
  refine x_takeAll (w := w) hz (by omega) hs ha hp (fun c2 b1 hP => ?_) (fun c2 b0 hB => ?_)
  · refine r_ifeqF 11 dX5_readLawOf_8 rfl 28 (by decide) (by decide) (by decide) ?_
    refine r_aloadN 12 dX5_readLawOf_11 rfl rfl ?_
    refine r_getsN 15 dX5_readLawOf_12 rfl sX5_109 (s_least z) ?_
    refine r_iloadN 16 dX5_readLawOf_15 rfl rfl ?_
    refine r_ialr 17 dX5_readLawOf_16 w rfl rfl (a_least z) (by decide) (by omega) (by omega) ?_
    refine r_getsN 20 dX5_readLawOf_17 rfl sX5_112 (s_most z) ?_
    refine r_iloadN 21 dX5_readLawOf_20 rfl rfl ?_
    refine r_ialr 22 dX5_readLawOf_21 w rfl rfl (a_most z) (by decide) (by omega) (by omega) ?_
    rw [hlr.2.1, hlr.2.2]
    refine r_cv2 25 dX5_readLawOf_22 rfl gX5_115 rfl (by decide) (sh_30 z _) rfl rfl (Nat.le_of_ble_eq_true rfl) (Nat.le_of_ble_eq_true rfl) rfl ?_
    refine x_readNumber (RS_fr hs hP.1) hP.2.1 hsr.2.1 (by constructor <;> omega) (by constructor <;> omega) (fun c3 b2 hP2 hv => ?_) (fun c3 b2 hB2 => ?_)
    · have hsn : tSN T e (nm w) (lwl w) (lwh w) p = true := by unfold tSN; rw [b1, b2]; rfl
      refine r_ifneT 30 0 dX5_readLawOf_25 (by decide) (by decide) (by decide) ?_
      refine r_aloadN 31 dX5_readLawOf_30 rfl rfl ?_
      refine r_getq 34 dX5_readLawOf_31 rfl fX5_31 (by decide) (sh_30 z _) rfl ?_
      refine r_iloadN 35 dX5_readLawOf_34 rfl rfl ?_
      refine r_aloadN 36 dX5_readLawOf_35 rfl rfl ?_
      refine r_geti 39 dX5_readLawOf_36 rfl fX5_22 (by decide) (sh_30 z _) rfl ?_
      rw [hv]
      refine r_iast 40 dX5_readLawOf_39 w rfl rfl (by decide) (sh_32 z _) (by decide) (by omega) (by omega) ?_
      refine r_aloadN 41 dX5_readLawOf_40 rfl rfl ?_
      refine r_dupr 42 dX5_readLawOf_41 rfl ?_
      refine r_geti 45 dX5_readLawOf_42 rfl fX5_28 (by decide) (sh_30 z _) rfl ?_
      refine r_iconst 46 dX5_readLawOf_45 rfl ?_
      refine r_iadd 47 dX5_readLawOf_46 rfl ?_
      refine r_puti 50 dX5_readLawOf_47 rfl pX5_28 (by decide) (sh_30 z _) rfl ?_
      refine r_iconst 51 dX5_readLawOf_50 rfl ?_
      have hPP := RP_tr hP hP2
      refine r_zret dX5_readLawOf_51 rfl (by decide) (k1 _ hsn (fun g i j n n2 => ?_) ?_ ?_ ?_ (fun j hj => ?_))
      · rw [cu_ap, if_neg (by omega), cu_ap, if_neg (by omega)]
        exact hPP.1 g i j (by omega)
      · rw [cu_ap, if_neg (by omega), cu_ap, if_neg (by omega)]
        exact hPP.2.1
      · rw [cu_ap, if_neg (by omega), cu_ap, if_neg (by omega)]
        exact hPP.2.2
      · rw [cu_ap, if_pos ⟨rfl, rfl, rfl⟩, cu_ap, if_neg (by omega), hPP.1 30 0 5 (by omega)]
      · rw [cu_ap, if_neg (by omega), cu_ap]
        by_cases q : j = w
        · rw [if_pos ⟨rfl, rfl, q⟩, if_pos q]
          rfl
        · rw [if_neg (fun h => q h.2.2), if_neg q]
          exact hPP.1 32 0 j (by omega)
    · have hsn : tSN T e (nm w) (lwl w) (lwh w) p = false := by unfold tSN; rw [b1, b2]; rfl
      refine r_ifneF 28 dX5_readLawOf_25 rfl 30 (by decide) (by decide) (by decide) ?_
      refine r_iconst 29 dX5_readLawOf_28 rfl ?_
      have hBB := RB_tr hP hB2
      exact r_zret dX5_readLawOf_29 rfl (by decide) (k0 _ hsn (RF_RLw hBB.1) hBB.2)
  · have hsn : tSN T e (nm w) (lwl w) (lwh w) p = false := by unfold tSN; rw [b0]; rfl
    refine r_ifeqT 28 0 dX5_readLawOf_8 (by decide) (by decide) (by decide) ?_
    refine r_iconst 29 dX5_readLawOf_28 rfl ?_
    exact r_zret dX5_readLawOf_29 rfl (by decide) (k0 _ hsn (RF_RLw hB.1) hB.2)
theorem x_readLaw_loop {z : xZ} {d : Nat} {Q : tQ} {c : tC} {L : tL} {e p : Nat} {T : Nat → Int} (hz : zF z) (hs : RS c e T) (ha : c 30 0 2 = (p : Int)) (hp : p ≤ e) (k1 : ∀ c2, lOk T e p = true → RLw c c2 → c2 30 0 2 = ((lQ T e p : Nat) : Int) → c2 30 0 4 = c 30 0 4 → c2 30 0 5 = c 30 0 5 + 1 → (∀ j, j < 6 → c2 32 0 j = if j = tW T e p then lV T e p else c 32 0 j) → Q (some (.int (iI 1))) c2 L) (k0 : ∀ c2, lOk T e p = false → RLw c c2 → c2 30 0 4 = ((lF T e p : Nat) : Int) → Q (some (.int (iI 0))) c2 L) : ∀ (k i : Nat), i + k = 6 → tW T e p = tWf T e p k i → En z (d + 9) MX5_readLaw Q 2 [some (.ref (xad z 30 0)), some (.int (iI (i : Int)))] [] c L := by
  intro k
  induction k with
  | zero =>
    intro i hi hq
    refine r_iloadN 3 dX5_readLaw_2 rfl rfl ?_
    refine r_bipush 5 dX5_readLaw_3 rfl (by decide) ?_
    refine r_icge 35 8 dX5_readLaw_5 rfl (by decide) (by omega) (by omega) (fun h5 => ?_) (fun h5 => ?_)
    · refine r_aloadN 36 dX5_readLaw_35 rfl rfl ?_
      refine r_aloadN 37 dX5_readLaw_36 rfl rfl ?_
      refine r_geti 40 dX5_readLaw_37 rfl fX5_19 (by decide) (sh_30 z _) rfl ?_
      refine r_cv1 43 dX5_readLaw_40 rfl gX5_63 rfl (by decide) (sh_30 z _) rfl rfl (Nat.le_of_ble_eq_true rfl) (Nat.le_of_ble_eq_true rfl) rfl ?_
      refine x_failAt ?_
      have hn : ¬ tW T e p < 6 := by rw [hq, tWf]; omega
      refine r_zret dX5_readLaw_43 rfl (by decide) (k0 _ (by unfold lOk; rw [decide_eq_false hn]; rfl) (RF_RLw (RF_cu (by omega))) ?_)
      unfold lF
      rw [cu_ap, if_pos ⟨rfl, rfl, rfl⟩, if_neg hn, ha]
    · exfalso; omega
  | succ k ih =>
    intro i hi hq
    have hr := nm_rng i (by omega) 0 (by omega)
    refine r_iloadN 3 dX5_readLaw_2 rfl rfl ?_
    refine r_bipush 5 dX5_readLaw_3 rfl (by decide) ?_
    refine r_icge 35 8 dX5_readLaw_5 rfl (by decide) (by omega) (by omega) (fun h5 => ?_) (fun h5 => ?_)
    · exfalso; omega
    · refine r_aloadN 9 dX5_readLaw_8 rfl rfl ?_
      refine r_iloadN 10 dX5_readLaw_9 rfl rfl ?_
      refine r_cs1 13 dX5_readLaw_10 rfl gX5_98 (Nat.le_of_ble_eq_true rfl) (Nat.le_of_ble_eq_true rfl) rfl ?_
      refine x_lawName (by omega) ?_
      refine r_iconst 14 dX5_readLaw_13 rfl ?_
      refine r_cr1 17 dX5_readLaw_14 rfl gX5_84 (s_cls (show i < 11 by omega)) (Nat.le_of_ble_eq_true rfl) (Nat.le_of_ble_eq_true rfl) rfl ?_
      refine s_charAt (j := 0) hz (by omega) (nm_len i (by omega)).2.2 ?_
      refine r_cv1 20 dX5_readLaw_17 rfl gX5_75 rfl (by decide) (sh_30 z _) rfl rfl (Nat.le_of_ble_eq_true rfl) (Nat.le_of_ble_eq_true rfl) rfl ?_
      refine x_isNext hs ha hp hr (fun y => ?_) (fun y => ?_)
      · refine r_ifeqF 23 dX5_readLaw_20 rfl 29 (by decide) (by decide) (by decide) ?_
        have hw : tW T e p = i := by rw [hq, tWf, if_pos y]
        refine r_aloadN 24 dX5_readLaw_23 rfl rfl ?_
        refine r_iloadN 25 dX5_readLaw_24 rfl rfl ?_
        refine r_cv1 28 dX5_readLaw_25 rfl gX5_102 rfl (by decide) (sh_30 z _) rfl rfl (Nat.le_of_ble_eq_true rfl) (Nat.le_of_ble_eq_true rfl) rfl ?_
        refine x_readLawOf hz (show i < 6 by omega) hs ha hp (fun c2 h1 h2 h3 h4 h5 h6 => ?_) (fun c2 h1 h2 h3 => ?_)
        · refine r_zret dX5_readLaw_28 rfl (by decide) (k1 c2 ?_ h2 ?_ h4 h5 (fun j hj => ?_))
          · unfold lOk; rw [hw, h1, decide_eq_true (show i < 6 by omega)]; rfl
          · unfold lQ; rw [hw]; exact h3
          · have hlv : lV T e p = tSV T e (nm i) p := by unfold lV; rw [hw]
            rw [hw, hlv]; exact h6 j hj
        · refine r_zret dX5_readLaw_28 rfl (by decide) (k0 c2 ?_ h2 ?_)
          · unfold lOk; rw [hw, h1, Bool.and_false]
          · unfold lF; rw [hw, if_pos (by omega)]; exact h3
      · refine r_ifeqT 29 0 dX5_readLaw_20 (by decide) (by decide) (by decide) ?_
        refine r_iinc1 32 dX5_readLaw_29 rfl rfl (by decide) ?_
        refine r_goto 2 dX5_readLaw_32 (by decide) ?_
        exact ih (i + 1) (by omega) (by rw [hq, tWf, if_neg y])
theorem x_readLaw {z : xZ} {d : Nat} {Q : tQ} {c : tC} {L : tL} {e p : Nat} {T : Nat → Int} (hz : zF z) (hs : RS c e T) (ha : c 30 0 2 = (p : Int)) (hp : p ≤ e) (k1 : ∀ c2, lOk T e p = true → RLw c c2 → c2 30 0 2 = ((lQ T e p : Nat) : Int) → c2 30 0 4 = c 30 0 4 → c2 30 0 5 = c 30 0 5 + 1 → (∀ j, j < 6 → c2 32 0 j = if j = tW T e p then lV T e p else c 32 0 j) → Q (some (.int (iI 1))) c2 L) (k0 : ∀ c2, lOk T e p = false → RLw c c2 → c2 30 0 4 = ((lF T e p : Nat) : Int) → Q (some (.int (iI 0))) c2 L) : En z (d + 9) MX5_readLaw Q 0 [some (.ref (xad z 30 0)), none] [] c L := by
  refine r_iconst 1 dX5_readLaw_0 rfl ?_
  refine r_istore1 2 dX5_readLaw_1 rfl rfl (by decide) ?_
  exact x_readLaw_loop hz hs ha hp k1 k0 6 0 rfl rfl
