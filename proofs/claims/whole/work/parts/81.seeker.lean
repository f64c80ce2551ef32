/-! ===== the seeker's and the class's constructors ===== -/
def wR0 : pW := fun x y => (((((((x < 0) ∨ (x = 1 ∧ y = 0)) ∨ (wSe x y)) ∨ (wTo (1) x y)) ∨ (wRe x y)) ∨ (wAc x y)) ∨ (x = 35 ∧ y = 0)) ∨ (x = 0 ∧ y = 0)
def wA0 : pW := fun x y => wR0 x y ∨ ((x = 2 ∨ x = 3) ∧ y < 8)
theorem wR0_n {x y : Nat} (h : x = 2 ∨ x = 3) : ¬ wR0 x y := by
  intro q
  unfold wR0 at q
  rcases q with ((((((q | q) | q) | q) | q) | q) | q) | q
  · omega
  · omega
  · unfold wSe at q
    rcases q with q | q
    · omega
    · unfold wTo at q; omega
  · unfold wTo at q; omega
  · unfold wRe at q; omega
  · unfold wAc at q; omega
  · omega
  · omega
theorem wR0_1 : wR0 1 0 := Or.inl (Or.inl (Or.inl (Or.inl (Or.inl (Or.inl (Or.inr ⟨rfl, rfl⟩))))))
theorem wR0_0 : wR0 0 0 := Or.inr ⟨rfl, rfl⟩
def pF2 (g i : Nat) : pD := if g = 1 ∧ i = 0 then .inr (.inr (.inr (2, 8, fun _ => none))) else pfin g i
theorem pF2_m {g i : Nat} (h : ¬ (g = 1 ∧ i = 0)) : pF2 g i = pfin g i := by
  unfold pF2
  rw [if_neg h]
theorem pF2_n {g i : Nat} (h : g ≠ 1) : pF2 g i = pfin g i := pF2_m (by omega)
def E1 (a : Nat) : pD := .inr (.inr (.inr (2, 8, fun j => if j < a then some (2, j) else none)))
def wH (a : Nat) : pW := fun x y => wR0 x y ∨ ((x = 2 ∨ x = 3) ∧ y < a)
noncomputable def hS (a : Nat) (U : pU) : pU := us (uw pfin (wH a) U) 1 0 (E1 a)
theorem hS_1 {a : Nat} {U : pU} : hS a U 1 0 = some (E1 a) := us_self _ _ _ _
theorem hS_0 {a : Nat} {U : pU} : hS a U 0 0 = some (pfin 0 0) := by
  unfold hS
  rw [us_ne (by omega), uw_y (Or.inl wR0_0)]
theorem hS_o {a x y : Nat} {U : pU} (h1 : x = 2 ∨ x = 3) (h2 : a ≤ y) : hS a U x y = U x y := by
  unfold hS
  rw [us_ne (by omega), uw_n]
  rintro (q | q)
  · exact wR0_n h1 q
  · omega
theorem hS_p {a x y : Nat} {U : pU} (h : U x y ≠ none) : hS a U x y ≠ none := us_p (uw_p h)
theorem hS_s {a : Nat} {U : pU} {D : pD} : us (uw pfin (wSh a) (us (hS a U) 2 a D)) 1 0 (E1 (a + 1)) = hS (a + 1) U := by
  funext x y
  by_cases hg : x = 1 ∧ y = 0
  · rw [hg.1, hg.2, us_self, hS_1]
  · rw [us_ne hg]
    unfold hS
    rw [us_ne hg]
    by_cases hw : wSh a x y
    · rw [uw_y hw]
      unfold wSh at hw
      rw [uw_y (Or.inr ⟨by omega, by omega⟩)]
    · rw [uw_n hw]
      unfold wSh at hw
      rw [us_ne (by omega), us_ne hg]
      by_cases cw : wH a x y
      · rw [uw_y cw, uw_y]
        rcases cw with q | q
        · exact Or.inl q
        · exact Or.inr ⟨q.1, by omega⟩
      · rw [uw_n cw, uw_n]
        rintro (q | q)
        · exact cw (Or.inl q)
        · exact cw (Or.inr ⟨q.1, by omega⟩)
theorem E1_s (a : Nat) (q : pD) (h : q = .inr (.inr (.inr (2, 8, fun x => if x = a then some (2, a) else if x < a then some (2, x) else none)))) : q = E1 (a + 1) := by
  subst h
  unfold E1
  refine congrArg (fun f => Sum.inr (Sum.inr (Sum.inr (2, 8, f)))) ?_
  funext x
  by_cases e : x = a
  · rw [if_pos e, if_pos (by omega), e]
  · rw [if_neg e]
    by_cases e2 : x < a
    · rw [if_pos e2, if_pos (by omega)]
    · rw [if_neg e2, if_neg (by omega)]
theorem hS_b {U : pU} : uw pF2 wR0 U = hS 0 U := by
  funext x y
  unfold hS
  by_cases c1 : x = 1 ∧ y = 0
  · rw [c1.1, c1.2, us_self, uw_y wR0_1]
    unfold pF2 E1
    rw [if_pos ⟨rfl, rfl⟩]
    rfl
  rw [us_ne c1]
  by_cases cw : wR0 x y
  · rw [uw_y cw, uw_y (Or.inl cw), pF2_m c1]
  · rw [uw_n cw, uw_n]
    rintro (q | q)
    · exact cw q
    · omega
theorem hS_e {U : pU} : hS 8 U = uw pfin wA0 U := by
  unfold hS
  refine uw_us rfl (fun x y => ⟨fun h => Or.inl h, ?_⟩)
  rintro (h | h)
  · exact h
  · rw [h.1, h.2]
    exact Or.inl wR0_1
theorem n_seeker {z : xZ} {d : Nat} {Q : xQ} {μ : xMem} {ad : Nat → Nat → Nat} {U : pU} (hB : PB z.1 μ ad U) (h0 : U 5 0 = some (.inl (6, [.inr none, .inr none, .inr none, .inl 0, .inl 0, .inl 0, .inl 0, .inl 0]))) (hn : ∀ x y, wSe x y → ¬ (x = 5 ∧ y = 0) → U x y = none) (k : ∀ μ2 ad2, PB z.1 μ2 ad2 (uw pfin (wSe) U) → pAg U ad ad2 → Q none μ2) : Ex (Cf z) (d + 3) MX6_init 92 1115 Q 0 [some (.ref (ad 5 0))] [] μ (0, 0) := by
  have hU : U 5 0 ≠ none := sm_ne h0
  have hA0 : pAg U ad ad := fun _ _ _ => rfl
  have hB0 : PB z.1 μ ad (us (uw pfin (fun x _ => x < 0) U) 5 0 (.inl (6, [.inr none, .inr none, .inr none, .inl 0, .inl 0, .inl 0, .inl 0, .inl 0]))) := by
    rw [uw_0 (fun x _ => Nat.not_lt_zero x), us_id h0]
    exact hB
  refine p_aload 1 dX6_init_0 rfl rfl ?_
  refine p_obj 4 dX6_init_1 rfl gX6_3 (by decide) ?_
  refine p_aload 5 dX6_init_4 rfl rfl ?_
  refine c_sub (r := (RX9, TX9, 14)) (ty := tyX9) (ci := 9) (N := MX9_init) (wTo (0)) 8 (0) [.inl 0, .inl 0, .inl 0, .inl 0, .inl 0, .inl 0, .inr none, .inr none, .inr none, .inr none, .inr none, .inr none, .inr none, .inr none] 89 1075 (90, 1089) 12 8 9 dX6_init_5 rfl dX6_init_8 rfl dX6_init_9 rfl nX6_9 rfl tyX9_ok (by decide +kernel) (by decide) gX6_11 (Nat.le_of_ble_eq_true rfl) (Nat.le_of_ble_eq_true rfl) (by decide) (by decide) rfl hB0 (by rw [us_ne (by omega), uw_n (by (try simp only [wAc, wDi, wLe, wPe, wPl, wRe, wSe, wSh, wSo, wTo]); first | (simp; done) | omega)]; exact hn _ _ (by (try simp only [wAc, wDi, wLe, wPe, wPl, wRe, wSe, wSh, wSo, wTo]); first | (simp; done) | omega) (by omega)) (fun Q2 μ1 ad1 b1 kk => n_town b1 (us_self _ _ _ _) (fun x y h1 h2 => by rw [us_ne (by (try simp only [wAc, wDi, wLe, wPe, wPl, wRe, wSe, wSh, wSo, wTo] at h1); omega), us_ne (by (try simp only [wAc, wDi, wLe, wPe, wPl, wRe, wSe, wSh, wSo, wTo] at h1); omega), uw_n (by (try simp only [wAc, wDi, wLe, wPe, wPl, wRe, wSe, wSh, wSo, wTo] at h1 ⊢); omega)]; exact hn x y (by (try simp only [wAc, wDi, wLe, wPe, wPl, wRe, wSe, wSh, wSo, wTo] at h1 ⊢); omega) (by (try simp only [wAc, wDi, wLe, wPe, wPl, wRe, wSe, wSh, wSo, wTo] at h1); omega)) kk) (fun μ1 ad1 hB1 hA1 => ?_)
  rw [uw_sub (W2 := fun x y => (x < 0) ∨ (wTo (0) x y)) (by unfold wTo; omega) (by unfold wTo; omega) (fun _ _ => Iff.rfl)] at hB1
  replace hA1 := ag_us hA0 hA1
  refine c_ref (fs2 := [.inr (some (8, 0)), .inr none, .inr none, .inl 0, .inl 0, .inl 0, .inl 0, .inl 0]) 15 dX6_init_12 rfl pX6_12 rfl hB1 hA1 hU (by rw [uw_y (by (try simp only [wAc, wDi, wLe, wPe, wPl, wRe, wSe, wSh, wSo, wTo]); first | (simp; done) | omega)]; exact sn_ne) (Nat.le_of_ble_eq_true rfl) (fun _ => rfl) (fun _ => rfl) rfl (fun μ2 hB2 => ?_)
  refine p_aload 16 dX6_init_15 rfl rfl ?_
  refine p_bipush 18 dX6_init_16 rfl (by decide) ?_
  refine c_newl (fun x y => ((x < 0) ∨ (wTo (0) x y)) ∨ (x = 6 ∧ y = 0)) 6 (0) 14 (91, 1103) 20 dX6_init_18 rfl rfl (by decide) (by decide) (by decide) hB2 hA1 (by omega) (hn _ _ (by unfold wSe; simp) (by omega)) (by first | omega | (simp only [wSe, wTo]; omega)) rfl (fun _ _ => Iff.rfl) rfl (fun μ3 ad3 hB3 hA3 => ?_)
  refine c_ref (fs2 := [.inr (some (8, 0)), .inr (some (6, 0)), .inr none, .inl 0, .inl 0, .inl 0, .inl 0, .inl 0]) 23 dX6_init_20 rfl pX6_18 rfl hB3 hA3 hU (by rw [uw_y (by (try simp only [wAc, wDi, wLe, wPe, wPl, wRe, wSe, wSh, wSo, wTo]); first | (simp; done) | omega)]; exact sn_ne) (Nat.le_of_ble_eq_true rfl) (fun _ => rfl) (fun _ => rfl) rfl (fun μ4 hB4 => ?_)
  refine p_aload 24 dX6_init_23 rfl rfl ?_
  refine p_bipush 26 dX6_init_24 rfl (by decide) ?_
  refine c_newi (fun x y => (((x < 0) ∨ (wTo (0) x y)) ∨ (x = 6 ∧ y = 0)) ∨ (x = 7 ∧ y = 0)) 7 (0) 12 (92, 1115) 28 dX6_init_26 rfl rfl (by decide) (by decide) (by decide) hB4 hA3 (by omega) (hn _ _ (by unfold wSe; simp) (by omega)) (by first | omega | (simp only [wSe, wTo]; omega)) rfl (fun _ _ => Iff.rfl) rfl (fun μ5 ad5 hB5 hA5 => ?_)
  refine c_ref (fs2 := [.inr (some (8, 0)), .inr (some (6, 0)), .inr (some (7, 0)), .inl 0, .inl 0, .inl 0, .inl 0, .inl 0]) 31 dX6_init_28 rfl pX6_22 rfl hB5 hA5 hU (by rw [uw_y (by (try simp only [wAc, wDi, wLe, wPe, wPl, wRe, wSe, wSh, wSo, wTo]); first | (simp; done) | omega)]; exact sn_ne) (Nat.le_of_ble_eq_true rfl) (fun _ => rfl) (fun _ => rfl) rfl (fun μ6 hB6 => ?_)
  refine p_aload 32 dX6_init_31 rfl rfl ?_
  refine p_iconst 33 dX6_init_32 rfl ?_
  refine c_int (fs2 := [.inr (some (8, 0)), .inr (some (6, 0)), .inr (some (7, 0)), .inl 0, .inl 0, .inl 0, .inl 0, .inl 0]) 36 dX6_init_33 rfl pX6_26 hB6 hA5 hU (Nat.le_of_ble_eq_true rfl) rfl rfl rfl (fun μ7 hB7 => ?_)
  refine p_aload 37 dX6_init_36 rfl rfl ?_
  refine p_iconst 38 dX6_init_37 rfl ?_
  refine c_int (fs2 := [.inr (some (8, 0)), .inr (some (6, 0)), .inr (some (7, 0)), .inl 0, .inl 0, .inl 0, .inl 0, .inl 0]) 41 dX6_init_38 rfl pX6_30 hB7 hA5 hU (Nat.le_of_ble_eq_true rfl) rfl rfl rfl (fun μ8 hB8 => ?_)
  refine p_aload 42 dX6_init_41 rfl rfl ?_
  refine p_iconst 43 dX6_init_42 rfl ?_
  refine c_int (fs2 := [.inr (some (8, 0)), .inr (some (6, 0)), .inr (some (7, 0)), .inl 0, .inl 0, .inl 0, .inl 0, .inl 0]) 46 dX6_init_43 rfl pX6_33 hB8 hA5 hU (Nat.le_of_ble_eq_true rfl) rfl rfl rfl (fun μ9 hB9 => ?_)
  refine p_aload 47 dX6_init_46 rfl rfl ?_
  refine p_iconst 48 dX6_init_47 rfl ?_
  refine c_int (fs2 := [.inr (some (8, 0)), .inr (some (6, 0)), .inr (some (7, 0)), .inl 0, .inl 0, .inl 0, .inl 0, .inl 0]) 51 dX6_init_48 rfl pX6_36 hB9 hA5 hU (Nat.le_of_ble_eq_true rfl) rfl rfl rfl (fun μ10 hB10 => ?_)
  refine p_aload 52 dX6_init_51 rfl rfl ?_
  refine p_iconst 53 dX6_init_52 rfl ?_
  refine c_int (fs2 := [.inr (some (8, 0)), .inr (some (6, 0)), .inr (some (7, 0)), .inl 0, .inl 0, .inl 0, .inl 0, .inl 0]) 56 dX6_init_53 rfl pX6_39 hB10 hA5 hU (Nat.le_of_ble_eq_true rfl) rfl rfl rfl (fun μ11 hB11 => ?_)
  refine e_vret dX6_init_56 rfl (by decide) (by decide) (k _ _ ?_ hA5)
  rw [uw_us (D := .inl (6, [.inr (some (8, 0)), .inr (some (6, 0)), .inr (some (7, 0)), .inl 0, .inl 0, .inl 0, .inl 0, .inl 0])) (g := 5) (i := 0) (W2 := wSe) (show _ = pfin 5 0 from rfl) (fun x y => by (try simp only [wAc, wDi, wLe, wPe, wPl, wRe, wSe, wSh, wSo, wTo]); omega)] at hB11
  exact hB11
theorem n_class_l {z : xZ} {d : Nat} {Q : xQ} {ad : Nat → Nat → Nat} {U : pU} (hU : U 0 0 ≠ none) (hn : ∀ x y, wA0 x y → ¬ (x = 0 ∧ y = 0) → U x y = none) (kk : ∀ μ1 ad1, PB z.1 μ1 ad1 (hS 8 U) → pAg U ad ad1 → Ex (Cf z) (d + 4) MX10_init 212 2877 Q 108 [some (.ref (ad 0 0)), some (.int (iI 8))] [] μ1 (212, 2877)) : ∀ (k a : Nat) (μ1 : xMem) (ad1 : Nat → Nat → Nat), a + k = 8 → PB z.1 μ1 ad1 (hS a U) → pAg U ad ad1 → Ex (Cf z) (d + 4) MX10_init 212 2877 Q 83 [some (.ref (ad 0 0)), some (.int (iI (a : Int)))] [] μ1 (196 + 2 * a, 2373 + 63 * a) := by
  intro k
  induction k with
  | zero =>
    intro a μ1 ad1 hk hB hA
    refine p_iload 84 dX10_init_83 rfl rfl ?_
    refine p_bipush 86 dX10_init_84 rfl (by decide) ?_
    refine p_icge 108 89 dX10_init_86 rfl (by decide) (by omega) (by omega) (fun _ => ?_) (fun h => ?_)
    · have e : a = 8 := by omega
      subst e
      exact kk μ1 ad1 hB hA
    · exfalso; omega
  | succ k ih =>
    intro a μ1 ad1 hk hB hA
    refine p_iload 84 dX10_init_83 rfl rfl ?_
    refine p_bipush 86 dX10_init_84 rfl (by decide) ?_
    refine p_icge 108 89 dX10_init_86 rfl (by decide) (by omega) (by omega) (fun h => ?_) (fun _ => ?_)
    · exfalso; omega
    · refine p_aload 90 dX10_init_89 rfl rfl ?_
      refine p_getf 93 dX10_init_90 rfl fX10_11 hB hS_0 (hA 0 0 hU) rfl ?_
      refine p_iload 94 dX10_init_93 rfl rfl ?_
      refine c_sub (r := (RX7, TX7, 3)) (ty := tyX7) (ci := 7) (N := MX7_init) (wSh a) 2 a [.inl 0, .inl 0, .inr none] 1 60 (196 + 2 * (a + 1), 2373 + 63 * (a + 1)) 101 97 98 dX10_init_94 rfl dX10_init_97 rfl dX10_init_98 rfl nX10_9 rfl tyX7_ok (by decide +kernel) (by decide) gX10_55 (Nat.le_of_ble_eq_true rfl) (Nat.le_of_ble_eq_true rfl) (by show _ ≤ 212; dsimp only; omega) (by show _ ≤ 2877; dsimp only; omega) (by dsimp only; exact Prod.ext (by dsimp only; omega) (by dsimp only; omega)) hB (by rw [hS_o (by omega) (by omega)]; exact hn _ _ (Or.inr ⟨Or.inl rfl, by omega⟩) (by omega)) (fun Q2 μ2 ad2 b1 k2 => n_shelf b1 (us_self _ _ _ _) (fun x y h1 h2 => by unfold wSh at h1; rw [us_ne (by omega), hS_o (by omega) (by omega)]; exact hn x y (Or.inr ⟨by omega, by omega⟩) (by omega)) k2) (fun μ2 ad2 hB2 hA2 => ?_)
      rw [show pfv ad1 (.inr (some (1, 0))) = .ref (ad2 1 0) from congrArg Value.ref (hA2 1 0 (sm_ne hS_1)).symm]
      refine p_aast (r := (RX7, TX7, 3)) (ci := 7) 102 dX10_init_101 rfl rfl rfl hB2 (by rw [uw_n (by unfold wSh; omega), us_ne (by omega), hS_1]; rfl) (by rw [uw_y (by unfold wSh; omega)]; rfl) (by omega) (by decide) (fun μ3 hB3 => ?_)
      rw [E1_s a _ rfl, hS_s] at hB3
      refine p_iinc1 105 dX10_init_102 rfl rfl (by decide) ?_
      refine p_goto 83 dX10_init_105 (by decide) ?_
      rw [show (a : Int) + 1 = ((a + 1 : Nat) : Int) by omega]
      exact ih (a + 1) μ3 ad2 (by omega) hB3 (pAg_tr hA hA2 (fun _ _ q => hS_p q))
