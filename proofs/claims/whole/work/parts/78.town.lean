/-! ===== the town's constructor ===== -/
def pF1 (t g i : Nat) : pD := if g = 9 ∧ i = t then .inr (.inr (.inr (3, 12, fun _ => none))) else if g = 10 ∧ i = t then .inr (.inr (.inr (4, 14, fun _ => none))) else if g = 11 ∧ i = t then .inr (.inr (.inr (5, 8, fun _ => none))) else if g = 27 ∧ i = t then .inr (.inl (6, fun _ => 0)) else pfin g i
theorem pF1_n {t g i : Nat} (h : ¬ (9 ≤ g ∧ g ≤ 11) ∧ g ≠ 27) : pF1 t g i = pfin g i := by
  unfold pF1
  rw [if_neg (by omega), if_neg (by omega), if_neg (by omega), if_neg (by omega)]
def E9 (t a : Nat) : pD := .inr (.inr (.inr (3, 12, fun j => if j < a then some (12, 12 * t + j) else none)))
def E10 (t a : Nat) : pD := .inr (.inr (.inr (4, 14, fun j => if j < a then some (13, 14 * t + j) else none)))
def E11 (t a : Nat) : pD := .inr (.inr (.inr (5, 8, fun j => if j < a then some (14, 8 * t + j) else none)))
def tS (t a b c : Nat) (l : Nat → Int) (U : pU) : pU := fun x y => if x = 27 ∧ y = t then some (.inr (.inl (6, l))) else if x = 9 ∧ y = t then some (E9 t a) else if x = 10 ∧ y = t then some (E10 t b) else if x = 11 ∧ y = t then some (E11 t c) else if (y = t ∧ (x = 8 ∨ (16 ≤ x ∧ x ≤ 26))) ∨ (x = 12 ∧ 12 * t ≤ y ∧ y < 12 * t + a) ∨ (x = 13 ∧ 14 * t ≤ y ∧ y < 14 * t + b) ∨ ((x = 14 ∨ (41 ≤ x ∧ x ≤ 45)) ∧ 8 * t ≤ y ∧ y < 8 * t + c) then some (pfin x y) else U x y
theorem tS_8 {t a b c : Nat} {l : Nat → Int} {U : pU} : tS t a b c l U 8 t = some (pfin 8 t) := by
  unfold tS
  rw [if_neg (by omega), if_neg (by omega), if_neg (by omega), if_neg (by omega), if_pos (by omega)]
theorem tS_9 {t a b c : Nat} {l : Nat → Int} {U : pU} : tS t a b c l U 9 t = some (E9 t a) := by
  unfold tS
  rw [if_neg (by omega), if_pos ⟨rfl, rfl⟩]
theorem tS_10 {t a b c : Nat} {l : Nat → Int} {U : pU} : tS t a b c l U 10 t = some (E10 t b) := by
  unfold tS
  rw [if_neg (by omega), if_neg (by omega), if_pos ⟨rfl, rfl⟩]
theorem tS_11 {t a b c : Nat} {l : Nat → Int} {U : pU} : tS t a b c l U 11 t = some (E11 t c) := by
  unfold tS
  rw [if_neg (by omega), if_neg (by omega), if_neg (by omega), if_pos ⟨rfl, rfl⟩]
theorem tS_27 {t a b c : Nat} {l : Nat → Int} {U : pU} : tS t a b c l U 27 t = some (.inr (.inl (6, l))) := by
  unfold tS
  rw [if_pos ⟨rfl, rfl⟩]
theorem tS_o {t a b c x y : Nat} {l : Nat → Int} {U : pU} (h1 : ¬ (y = t ∧ ((8 ≤ x ∧ x ≤ 11) ∨ (16 ≤ x ∧ x ≤ 27)))) (h2 : ¬ (x = 12 ∧ 12 * t ≤ y ∧ y < 12 * t + a)) (h3 : ¬ (x = 13 ∧ 14 * t ≤ y ∧ y < 14 * t + b)) (h4 : ¬ ((x = 14 ∨ (41 ≤ x ∧ x ≤ 45)) ∧ 8 * t ≤ y ∧ y < 8 * t + c)) : tS t a b c l U x y = U x y := by
  unfold tS
  rw [if_neg (by omega), if_neg (by omega), if_neg (by omega), if_neg (by omega), if_neg (by omega)]
theorem tS_p {t a b c x y : Nat} {l : Nat → Int} {U : pU} (h : U x y ≠ none) : tS t a b c l U x y ≠ none := by
  unfold tS
  split
  · exact sn_ne
  · split
    · exact sn_ne
    · split
      · exact sn_ne
      · split
        · exact sn_ne
        · split
          · exact sn_ne
          · exact h
theorem tS_s9 {t a b c : Nat} {l : Nat → Int} {U : pU} {D : pD} : us (uw pfin (wPe (12 * t + a)) (us (tS t a b c l U) 12 (12 * t + a) D)) 9 t (E9 t (a + 1)) = tS t (a + 1) (b) (c) l U := by
  funext x y
  by_cases hg : x = 9 ∧ y = t
  · rw [hg.1, hg.2, us_self]
    unfold tS
    rw [if_neg (by omega), if_pos ⟨rfl, rfl⟩]
  · rw [us_ne hg]
    by_cases hw : wPe (12 * t + a) x y
    · rw [uw_y hw]
      unfold wPe at hw
      unfold tS
      rw [if_neg (by omega), if_neg (by omega), if_neg (by omega), if_neg (by omega), if_pos (by omega)]
    · rw [uw_n hw]
      unfold wPe at hw
      rw [us_ne (by omega)]
      unfold tS
      by_cases c27 : x = 27 ∧ y = t
      · rw [if_pos c27, if_pos c27]
      rw [if_neg c27, if_neg c27]
      rw [if_neg hg, if_neg hg]
      by_cases c10 : x = 10 ∧ y = t
      · rw [if_pos c10, if_pos c10]
      rw [if_neg c10, if_neg c10]
      by_cases c11 : x = 11 ∧ y = t
      · rw [if_pos c11, if_pos c11]
      rw [if_neg c11, if_neg c11]
      by_cases cw : (y = t ∧ (x = 8 ∨ (16 ≤ x ∧ x ≤ 26))) ∨ (x = 12 ∧ 12 * t ≤ y ∧ y < 12 * t + a) ∨ (x = 13 ∧ 14 * t ≤ y ∧ y < 14 * t + b) ∨ ((x = 14 ∨ (41 ≤ x ∧ x ≤ 45)) ∧ 8 * t ≤ y ∧ y < 8 * t + c)
      · rw [if_pos cw, if_pos (by omega)]
      · rw [if_neg cw, if_neg (by omega)]
theorem E9_s (t a : Nat) (q : pD) (n k : Nat) (h : q = .inr (.inr (.inr (k, n, fun x => if x = a then some (12, 12 * t + a) else if x < a then some (12, 12 * t + x) else none)))) (hk : k = 3) (hn : n = 12) : q = E9 t (a + 1) := by
  subst h; subst hk; subst hn
  unfold E9
  refine congrArg (fun f => Sum.inr (Sum.inr (Sum.inr (3, 12, f)))) ?_
  funext x
  by_cases e : x = a
  · rw [if_pos e, if_pos (by omega), e]
  · rw [if_neg e]
    by_cases e2 : x < a
    · rw [if_pos e2, if_pos (by omega)]
    · rw [if_neg e2, if_neg (by omega)]
theorem tS_s10 {t a b c : Nat} {l : Nat → Int} {U : pU} {D : pD} : us (uw pfin (wSo (14 * t + b)) (us (tS t a b c l U) 13 (14 * t + b) D)) 10 t (E10 t (b + 1)) = tS t (a) (b + 1) (c) l U := by
  funext x y
  by_cases hg : x = 10 ∧ y = t
  · rw [hg.1, hg.2, us_self]
    unfold tS
    rw [if_neg (by omega), if_neg (by omega), if_pos ⟨rfl, rfl⟩]
  · rw [us_ne hg]
    by_cases hw : wSo (14 * t + b) x y
    · rw [uw_y hw]
      unfold wSo at hw
      unfold tS
      rw [if_neg (by omega), if_neg (by omega), if_neg (by omega), if_neg (by omega), if_pos (by omega)]
    · rw [uw_n hw]
      unfold wSo at hw
      rw [us_ne (by omega)]
      unfold tS
      by_cases c27 : x = 27 ∧ y = t
      · rw [if_pos c27, if_pos c27]
      rw [if_neg c27, if_neg c27]
      by_cases c9 : x = 9 ∧ y = t
      · rw [if_pos c9, if_pos c9]
      rw [if_neg c9, if_neg c9]
      rw [if_neg hg, if_neg hg]
      by_cases c11 : x = 11 ∧ y = t
      · rw [if_pos c11, if_pos c11]
      rw [if_neg c11, if_neg c11]
      by_cases cw : (y = t ∧ (x = 8 ∨ (16 ≤ x ∧ x ≤ 26))) ∨ (x = 12 ∧ 12 * t ≤ y ∧ y < 12 * t + a) ∨ (x = 13 ∧ 14 * t ≤ y ∧ y < 14 * t + b) ∨ ((x = 14 ∨ (41 ≤ x ∧ x ≤ 45)) ∧ 8 * t ≤ y ∧ y < 8 * t + c)
      · rw [if_pos cw, if_pos (by omega)]
      · rw [if_neg cw, if_neg (by omega)]
theorem E10_s (t a : Nat) (q : pD) (n k : Nat) (h : q = .inr (.inr (.inr (k, n, fun x => if x = a then some (13, 14 * t + a) else if x < a then some (13, 14 * t + x) else none)))) (hk : k = 4) (hn : n = 14) : q = E10 t (a + 1) := by
  subst h; subst hk; subst hn
  unfold E10
  refine congrArg (fun f => Sum.inr (Sum.inr (Sum.inr (4, 14, f)))) ?_
  funext x
  by_cases e : x = a
  · rw [if_pos e, if_pos (by omega), e]
  · rw [if_neg e]
    by_cases e2 : x < a
    · rw [if_pos e2, if_pos (by omega)]
    · rw [if_neg e2, if_neg (by omega)]
theorem tS_s11 {t a b c : Nat} {l : Nat → Int} {U : pU} {D : pD} : us (uw pfin (wPl (8 * t + c)) (us (tS t a b c l U) 14 (8 * t + c) D)) 11 t (E11 t (c + 1)) = tS t (a) (b) (c + 1) l U := by
  funext x y
  by_cases hg : x = 11 ∧ y = t
  · rw [hg.1, hg.2, us_self]
    unfold tS
    rw [if_neg (by omega), if_neg (by omega), if_neg (by omega), if_pos ⟨rfl, rfl⟩]
  · rw [us_ne hg]
    by_cases hw : wPl (8 * t + c) x y
    · rw [uw_y hw]
      unfold wPl at hw
      unfold tS
      rw [if_neg (by omega), if_neg (by omega), if_neg (by omega), if_neg (by omega), if_pos (by omega)]
    · rw [uw_n hw]
      unfold wPl at hw
      rw [us_ne (by omega)]
      unfold tS
      by_cases c27 : x = 27 ∧ y = t
      · rw [if_pos c27, if_pos c27]
      rw [if_neg c27, if_neg c27]
      by_cases c9 : x = 9 ∧ y = t
      · rw [if_pos c9, if_pos c9]
      rw [if_neg c9, if_neg c9]
      by_cases c10 : x = 10 ∧ y = t
      · rw [if_pos c10, if_pos c10]
      rw [if_neg c10, if_neg c10]
      rw [if_neg hg, if_neg hg]
      by_cases cw : (y = t ∧ (x = 8 ∨ (16 ≤ x ∧ x ≤ 26))) ∨ (x = 12 ∧ 12 * t ≤ y ∧ y < 12 * t + a) ∨ (x = 13 ∧ 14 * t ≤ y ∧ y < 14 * t + b) ∨ ((x = 14 ∨ (41 ≤ x ∧ x ≤ 45)) ∧ 8 * t ≤ y ∧ y < 8 * t + c)
      · rw [if_pos cw, if_pos (by omega)]
      · rw [if_neg cw, if_neg (by omega)]
theorem E11_s (t a : Nat) (q : pD) (n k : Nat) (h : q = .inr (.inr (.inr (k, n, fun x => if x = a then some (14, 8 * t + a) else if x < a then some (14, 8 * t + x) else none)))) (hk : k = 5) (hn : n = 8) : q = E11 t (a + 1) := by
  subst h; subst hk; subst hn
  unfold E11
  refine congrArg (fun f => Sum.inr (Sum.inr (Sum.inr (5, 8, f)))) ?_
  funext x
  by_cases e : x = a
  · rw [if_pos e, if_pos (by omega), e]
  · rw [if_neg e]
    by_cases e2 : x < a
    · rw [if_pos e2, if_pos (by omega)]
    · rw [if_neg e2, if_neg (by omega)]
theorem n_town_person {z : xZ} {d : Nat} {Q : xQ} {ad : Nat → Nat → Nat} {U : pU} {i : Nat} (hU : U 8 i ≠ none) (hn : ∀ x y, wTo i x y → ¬ (x = 8 ∧ y = i) → U x y = none) (kk : ∀ μ1 ad1, PB z.1 μ1 ad1 (tS i 12 0 0 (fun _ => 0) U) → pAg U ad ad1 → Ex (Cf z) (d + 2) MX9_init 89 1075 Q 134 [some (.ref (ad 8 i)), some (.int (iI 12))] [] μ1 (27, 595)) : ∀ (k a : Nat) (μ1 : xMem) (ad1 : Nat → Nat → Nat), a + k = 12 → PB z.1 μ1 ad1 (tS i a 0 0 (fun _ => 0) U) → pAg U ad ad1 → Ex (Cf z) (d + 2) MX9_init 89 1075 Q 109 [some (.ref (ad 8 i)), some (.int (iI (a : Int)))] [] μ1 (15 + 1 * a, 535 + 5 * a) := by
  intro k
  induction k with
  | zero =>
    intro a μ1 ad1 hk hB hA
    refine p_iload 110 dX9_init_109 rfl rfl ?_
    refine p_bipush 112 dX9_init_110 rfl (by decide) ?_
    refine p_icge 134 115 dX9_init_112 rfl (by decide) (by omega) (by omega) (fun _ => ?_) (fun h => ?_)
    · have e : a = 12 := by omega
      subst e
      exact kk μ1 ad1 hB hA
    · exfalso; omega
  | succ k ih =>
    intro a μ1 ad1 hk hB hA
    refine p_iload 110 dX9_init_109 rfl rfl ?_
    refine p_bipush 112 dX9_init_110 rfl (by decide) ?_
    refine p_icge 134 115 dX9_init_112 rfl (by decide) (by omega) (by omega) (fun h => ?_) (fun _ => ?_)
    · exfalso; omega
    · refine p_aload 116 dX9_init_115 rfl rfl ?_
      refine p_getf 119 dX9_init_116 rfl fX9_32 hB tS_8 (hA 8 i hU) rfl ?_
      refine p_iload 120 dX9_init_119 rfl rfl ?_
      refine c_sub (r := (RX3, TX3, 5)) (ty := tyX3) (ci := 3) (N := MX3_init) (wPe (12 * i + a)) 12 (12 * i + a) [.inl 0, .inl 0, .inl 0, .inl 0, .inl 0] 0 0 (15 + 1 * (a + 1), 535 + 5 * (a + 1)) 127 123 124 dX9_init_120 rfl dX9_init_123 rfl dX9_init_124 rfl nX9_30 rfl tyX3_ok (by decide +kernel) (by decide) gX9_72 (Nat.le_of_ble_eq_true rfl) (Nat.le_of_ble_eq_true rfl) (by show _ ≤ 89; dsimp only; omega) (by show _ ≤ 1075; dsimp only; omega) (by dsimp only; exact Prod.ext (by dsimp only; omega) (by dsimp only; omega)) hB (by rw [tS_o (by omega) (by omega) (by omega) (by omega)]; exact hn _ _ (by unfold wTo; omega) (by omega)) (fun Q2 μ2 ad2 b1 k2 => n_person b1 (us_self _ _ _ _) (fun x y h1 h2 => by unfold wPe at h1; rw [us_ne (by omega), tS_o (by omega) (by omega) (by omega) (by omega)]; exact hn x y (by unfold wTo; omega) (by omega)) k2) (fun μ2 ad2 hB2 hA2 => ?_)
      rw [show pfv ad1 (.inr (some (9, i))) = .ref (ad2 9 i) from congrArg Value.ref (hA2 9 i (sm_ne tS_9)).symm]
      refine p_aast (r := (RX3, TX3, 5)) (ci := 3) 128 dX9_init_127 rfl rfl rfl hB2 (by rw [uw_n (by unfold wPe; omega), us_ne (by omega), tS_9]; rfl) (by rw [uw_y (by unfold wPe; omega)]; rfl) (by omega) (by decide) (fun μ3 hB3 => ?_)
      rw [E9_s i a _ 12 3 rfl rfl rfl, tS_s9] at hB3
      refine p_iinc1 131 dX9_init_128 rfl rfl (by decide) ?_
      refine p_goto 109 dX9_init_131 (by decide) ?_
      rw [show (a : Int) + 1 = ((a + 1 : Nat) : Int) by omega]
      exact ih (a + 1) μ3 ad2 (by omega) hB3 (pAg_tr hA hA2 (fun _ _ q => tS_p q))
theorem n_town_source {z : xZ} {d : Nat} {Q : xQ} {ad : Nat → Nat → Nat} {U : pU} {i : Nat} (hU : U 8 i ≠ none) (hn : ∀ x y, wTo i x y → ¬ (x = 8 ∧ y = i) → U x y = none) (kk : ∀ μ1 ad1, PB z.1 μ1 ad1 (tS i 12 14 0 (fun _ => 0) U) → pAg U ad ad1 → Ex (Cf z) (d + 2) MX9_init 89 1075 Q 161 [some (.ref (ad 8 i)), some (.int (iI 14))] [] μ1 (41, 707)) : ∀ (k a : Nat) (μ1 : xMem) (ad1 : Nat → Nat → Nat), a + k = 14 → PB z.1 μ1 ad1 (tS i 12 a 0 (fun _ => 0) U) → pAg U ad ad1 → Ex (Cf z) (d + 2) MX9_init 89 1075 Q 136 [some (.ref (ad 8 i)), some (.int (iI (a : Int)))] [] μ1 (27 + 1 * a, 595 + 8 * a) := by
  intro k
  induction k with
  | zero =>
    intro a μ1 ad1 hk hB hA
    refine p_iload 137 dX9_init_136 rfl rfl ?_
    refine p_bipush 139 dX9_init_137 rfl (by decide) ?_
    refine p_icge 161 142 dX9_init_139 rfl (by decide) (by omega) (by omega) (fun _ => ?_) (fun h => ?_)
    · have e : a = 14 := by omega
      subst e
      exact kk μ1 ad1 hB hA
    · exfalso; omega
  | succ k ih =>
    intro a μ1 ad1 hk hB hA
    refine p_iload 137 dX9_init_136 rfl rfl ?_
    refine p_bipush 139 dX9_init_137 rfl (by decide) ?_
    refine p_icge 161 142 dX9_init_139 rfl (by decide) (by omega) (by omega) (fun h => ?_) (fun _ => ?_)
    · exfalso; omega
    · refine p_aload 143 dX9_init_142 rfl rfl ?_
      refine p_getf 146 dX9_init_143 rfl fX9_38 hB tS_8 (hA 8 i hU) rfl ?_
      refine p_iload 147 dX9_init_146 rfl rfl ?_
      refine c_sub (r := (RX8, TX8, 8)) (ty := tyX8) (ci := 8) (N := MX8_init) (wSo (14 * i + a)) 13 (14 * i + a) [.inl 0, .inl 0, .inl 0, .inl 0, .inl 0, .inl 0, .inl 0, .inl 0] 0 0 (27 + 1 * (a + 1), 595 + 8 * (a + 1)) 154 150 151 dX9_init_147 rfl dX9_init_150 rfl dX9_init_151 rfl nX9_36 rfl tyX8_ok (by decide +kernel) (by decide) gX9_73 (Nat.le_of_ble_eq_true rfl) (Nat.le_of_ble_eq_true rfl) (by show _ ≤ 89; dsimp only; omega) (by show _ ≤ 1075; dsimp only; omega) (by dsimp only; exact Prod.ext (by dsimp only; omega) (by dsimp only; omega)) hB (by rw [tS_o (by omega) (by omega) (by omega) (by omega)]; exact hn _ _ (by unfold wTo; omega) (by omega)) (fun Q2 μ2 ad2 b1 k2 => n_source b1 (us_self _ _ _ _) (fun x y h1 h2 => by unfold wSo at h1; rw [us_ne (by omega), tS_o (by omega) (by omega) (by omega) (by omega)]; exact hn x y (by unfold wTo; omega) (by omega)) k2) (fun μ2 ad2 hB2 hA2 => ?_)
      rw [show pfv ad1 (.inr (some (10, i))) = .ref (ad2 10 i) from congrArg Value.ref (hA2 10 i (sm_ne tS_10)).symm]
      refine p_aast (r := (RX8, TX8, 8)) (ci := 8) 155 dX9_init_154 rfl rfl rfl hB2 (by rw [uw_n (by unfold wSo; omega), us_ne (by omega), tS_10]; rfl) (by rw [uw_y (by unfold wSo; omega)]; rfl) (by omega) (by decide) (fun μ3 hB3 => ?_)
      rw [E10_s i a _ 14 4 rfl rfl rfl, tS_s10] at hB3
      refine p_iinc1 158 dX9_init_155 rfl rfl (by decide) ?_
      refine p_goto 136 dX9_init_158 (by decide) ?_
      rw [show (a : Int) + 1 = ((a + 1 : Nat) : Int) by omega]
      exact ih (a + 1) μ3 ad2 (by omega) hB3 (pAg_tr hA hA2 (fun _ _ q => tS_p q))
theorem n_town_plan {z : xZ} {d : Nat} {Q : xQ} {ad : Nat → Nat → Nat} {U : pU} {i : Nat} (hU : U 8 i ≠ none) (hn : ∀ x y, wTo i x y → ¬ (x = 8 ∧ y = i) → U x y = none) (kk : ∀ μ1 ad1, PB z.1 μ1 ad1 (tS i 12 14 8 (fun _ => 0) U) → pAg U ad ad1 → Ex (Cf z) (d + 2) MX9_init 89 1075 Q 188 [some (.ref (ad 8 i)), some (.int (iI 8))] [] μ1 (89, 1075)) : ∀ (k a : Nat) (μ1 : xMem) (ad1 : Nat → Nat → Nat), a + k = 8 → PB z.1 μ1 ad1 (tS i 12 14 a (fun _ => 0) U) → pAg U ad ad1 → Ex (Cf z) (d + 2) MX9_init 89 1075 Q 163 [some (.ref (ad 8 i)), some (.int (iI (a : Int)))] [] μ1 (41 + 6 * a, 707 + 46 * a) := by
  intro k
  induction k with
  | zero =>
    intro a μ1 ad1 hk hB hA
    refine p_iload 164 dX9_init_163 rfl rfl ?_
    refine p_bipush 166 dX9_init_164 rfl (by decide) ?_
    refine p_icge 188 169 dX9_init_166 rfl (by decide) (by omega) (by omega) (fun _ => ?_) (fun h => ?_)
    · have e : a = 8 := by omega
      subst e
      exact kk μ1 ad1 hB hA
    · exfalso; omega
  | succ k ih =>
    intro a μ1 ad1 hk hB hA
    refine p_iload 164 dX9_init_163 rfl rfl ?_
    refine p_bipush 166 dX9_init_164 rfl (by decide) ?_
    refine p_icge 188 169 dX9_init_166 rfl (by decide) (by omega) (by omega) (fun h => ?_) (fun _ => ?_)
    · exfalso; omega
    · refine p_aload 170 dX9_init_169 rfl rfl ?_
      refine p_getf 173 dX9_init_170 rfl fX9_44 hB tS_8 (hA 8 i hU) rfl ?_
      refine p_iload 174 dX9_init_173 rfl rfl ?_
      refine c_sub (r := (RX4, TX4, 6)) (ty := tyX4) (ci := 4) (N := MX4_init) (wPl (8 * i + a)) 14 (8 * i + a) [.inl 0, .inr none, .inr none, .inr none, .inr none, .inr none] 5 40 (41 + 6 * (a + 1), 707 + 46 * (a + 1)) 181 177 178 dX9_init_174 rfl dX9_init_177 rfl dX9_init_178 rfl nX9_42 rfl tyX4_ok (by decide +kernel) (by decide) gX9_74 (Nat.le_of_ble_eq_true rfl) (Nat.le_of_ble_eq_true rfl) (by show _ ≤ 89; dsimp only; omega) (by show _ ≤ 1075; dsimp only; omega) (by dsimp only; exact Prod.ext (by dsimp only; omega) (by dsimp only; omega)) hB (by rw [tS_o (by omega) (by omega) (by omega) (by omega)]; exact hn _ _ (by unfold wTo; omega) (by omega)) (fun Q2 μ2 ad2 b1 k2 => n_plan b1 (us_self _ _ _ _) (fun x y h1 h2 => by unfold wPl at h1; rw [us_ne (by omega), tS_o (by omega) (by omega) (by omega) (by omega)]; exact hn x y (by unfold wTo; omega) (by omega)) k2) (fun μ2 ad2 hB2 hA2 => ?_)
      rw [show pfv ad1 (.inr (some (11, i))) = .ref (ad2 11 i) from congrArg Value.ref (hA2 11 i (sm_ne tS_11)).symm]
      refine p_aast (r := (RX4, TX4, 6)) (ci := 4) 182 dX9_init_181 rfl rfl rfl hB2 (by rw [uw_n (by unfold wPl; omega), us_ne (by omega), tS_11]; rfl) (by rw [uw_y (by unfold wPl; omega)]; rfl) (by omega) (by decide) (fun μ3 hB3 => ?_)
      rw [E11_s i a _ 8 5 rfl rfl rfl, tS_s11] at hB3
      refine p_iinc1 185 dX9_init_182 rfl rfl (by decide) ?_
      refine p_goto 163 dX9_init_185 (by decide) ?_
      rw [show (a : Int) + 1 = ((a + 1 : Nat) : Int) by omega]
      exact ih (a + 1) μ3 ad2 (by omega) hB3 (pAg_tr hA hA2 (fun _ _ q => tS_p q))
theorem n_town {z : xZ} {d : Nat} {Q : xQ} {μ : xMem} {ad : Nat → Nat → Nat} {U : pU} {i : Nat} (hB : PB z.1 μ ad U) (h0 : U 8 i = some (.inl (9, [.inl 0, .inl 0, .inl 0, .inl 0, .inl 0, .inl 0, .inr none, .inr none, .inr none, .inr none, .inr none, .inr none, .inr none, .inr none]))) (hn : ∀ x y, wTo i x y → ¬ (x = 8 ∧ y = i) → U x y = none) (k : ∀ μ2 ad2, PB z.1 μ2 ad2 (uw pfin (wTo i) U) → pAg U ad ad2 → Q none μ2) : Ex (Cf z) (d + 2) MX9_init 89 1075 Q 0 [some (.ref (ad 8 i)), none] [] μ (0, 0) := by
  have hU : U 8 i ≠ none := sm_ne h0
  have hA0 : pAg U ad ad := fun _ _ _ => rfl
  have hB0 : PB z.1 μ ad (us (uw (pF1 i) (fun x _ => x < 0) U) 8 i (.inl (9, [.inl 0, .inl 0, .inl 0, .inl 0, .inl 0, .inl 0, .inr none, .inr none, .inr none, .inr none, .inr none, .inr none, .inr none, .inr none]))) := by
    rw [uw_0 (fun x _ => Nat.not_lt_zero x), us_id h0]
    exact hB
  refine p_aload 1 dX9_init_0 rfl rfl ?_
  refine p_obj 4 dX9_init_1 rfl gX9_3 (by decide) ?_
  refine p_aload 5 dX9_init_4 rfl rfl ?_
  refine p_iconst 6 dX9_init_5 rfl ?_
  refine c_int (fs2 := [.inl 0, .inl 0, .inl 0, .inl 0, .inl 0, .inl 0, .inr none, .inr none, .inr none, .inr none, .inr none, .inr none, .inr none, .inr none]) 9 dX9_init_6 rfl pX9_9 hB0 hA0 hU (Nat.le_of_ble_eq_true rfl) rfl rfl rfl (fun μ1 hB1 => ?_)
  refine p_aload 10 dX9_init_9 rfl rfl ?_
  refine p_iconst 11 dX9_init_10 rfl ?_
  refine c_int (fs2 := [.inl 0, .inl 0, .inl 0, .inl 0, .inl 0, .inl 0, .inr none, .inr none, .inr none, .inr none, .inr none, .inr none, .inr none, .inr none]) 14 dX9_init_11 rfl pX9_15 hB1 hA0 hU (Nat.le_of_ble_eq_true rfl) rfl rfl rfl (fun μ2 hB2 => ?_)
  refine p_aload 15 dX9_init_14 rfl rfl ?_
  refine p_iconst 16 dX9_init_15 rfl ?_
  refine c_int (fs2 := [.inl 0, .inl 0, .inl 0, .inl 0, .inl 0, .inl 0, .inr none, .inr none, .inr none, .inr none, .inr none, .inr none, .inr none, .inr none]) 19 dX9_init_16 rfl pX9_18 hB2 hA0 hU (Nat.le_of_ble_eq_true rfl) rfl rfl rfl (fun μ3 hB3 => ?_)
  refine p_aload 20 dX9_init_19 rfl rfl ?_
  refine p_iconst 21 dX9_init_20 rfl ?_
  refine c_int (fs2 := [.inl 0, .inl 0, .inl 0, .inl 0, .inl 0, .inl 0, .inr none, .inr none, .inr none, .inr none, .inr none, .inr none, .inr none, .inr none]) 24 dX9_init_21 rfl pX9_21 hB3 hA0 hU (Nat.le_of_ble_eq_true rfl) rfl rfl rfl (fun μ4 hB4 => ?_)
  refine p_aload 25 dX9_init_24 rfl rfl ?_
  refine p_iconst 26 dX9_init_25 rfl ?_
  refine c_int (fs2 := [.inl 0, .inl 0, .inl 0, .inl 0, .inl (-1), .inl 0, .inr none, .inr none, .inr none, .inr none, .inr none, .inr none, .inr none, .inr none]) 29 dX9_init_26 rfl pX9_24 hB4 hA0 hU (Nat.le_of_ble_eq_true rfl) rfl rfl rfl (fun μ5 hB5 => ?_)
  refine p_aload 30 dX9_init_29 rfl rfl ?_
  refine p_iconst 31 dX9_init_30 rfl ?_
  refine c_int (fs2 := [.inl 0, .inl 0, .inl 0, .inl 0, .inl (-1), .inl 0, .inr none, .inr none, .inr none, .inr none, .inr none, .inr none, .inr none, .inr none]) 34 dX9_init_31 rfl pX9_27 hB5 hA0 hU (Nat.le_of_ble_eq_true rfl) rfl rfl rfl (fun μ6 hB6 => ?_)
  refine p_aload 35 dX9_init_34 rfl rfl ?_
  refine p_bipush 37 dX9_init_35 rfl (by decide) ?_
  refine c_newq (fun x y => (x < 0) ∨ (x = 9 ∧ y = i)) 9 (i) 3 12 (1, 12) 40 dX9_init_37 rfl nX9_30a rfl rfl (by decide) (by decide) (by decide) hB6 hA0 (by omega) (hn _ _ (by unfold wTo; omega) (by omega)) (by first | omega | (simp only [wDi, wLe]; omega)) (by unfold pF1; rw [if_pos ⟨rfl, rfl⟩]) (fun _ _ => Iff.rfl) rfl (fun μ7 ad7 hB7 hA7 => ?_)
  refine c_ref (fs2 := [.inl 0, .inl 0, .inl 0, .inl 0, .inl (-1), .inl 0, .inr (some (9, i)), .inr none, .inr none, .inr none, .inr none, .inr none, .inr none, .inr none]) 43 dX9_init_40 rfl pX9_32 rfl hB7 hA7 hU (by rw [uw_y (Or.inr ⟨rfl, rfl⟩)]; exact sn_ne) (Nat.le_of_ble_eq_true rfl) (fun _ => rfl) (fun _ => rfl) rfl (fun μ8 hB8 => ?_)
  refine p_aload 44 dX9_init_43 rfl rfl ?_
  refine p_bipush 46 dX9_init_44 rfl (by decide) ?_
  refine c_newq (fun x y => ((x < 0) ∨ (x = 9 ∧ y = i)) ∨ (x = 10 ∧ y = i)) 10 (i) 4 14 (2, 26) 49 dX9_init_46 rfl nX9_36a rfl rfl (by decide) (by decide) (by decide) hB8 hA7 (by omega) (hn _ _ (by unfold wTo; omega) (by omega)) (by first | omega | (simp only [wDi, wLe]; omega)) (by unfold pF1; rw [if_neg (by omega), if_pos ⟨rfl, rfl⟩]) (fun _ _ => Iff.rfl) rfl (fun μ9 ad9 hB9 hA9 => ?_)
  refine c_ref (fs2 := [.inl 0, .inl 0, .inl 0, .inl 0, .inl (-1), .inl 0, .inr (some (9, i)), .inr (some (10, i)), .inr none, .inr none, .inr none, .inr none, .inr none, .inr none]) 52 dX9_init_49 rfl pX9_38 rfl hB9 hA9 hU (by rw [uw_y (Or.inr ⟨rfl, rfl⟩)]; exact sn_ne) (Nat.le_of_ble_eq_true rfl) (fun _ => rfl) (fun _ => rfl) rfl (fun μ10 hB10 => ?_)
  refine p_aload 53 dX9_init_52 rfl rfl ?_
  refine p_bipush 55 dX9_init_53 rfl (by decide) ?_
  refine c_newq (fun x y => (((x < 0) ∨ (x = 9 ∧ y = i)) ∨ (x = 10 ∧ y = i)) ∨ (x = 11 ∧ y = i)) 11 (i) 5 8 (3, 34) 58 dX9_init_55 rfl nX9_42a rfl rfl (by decide) (by decide) (by decide) hB10 hA9 (by omega) (hn _ _ (by unfold wTo; omega) (by omega)) (by first | omega | (simp only [wDi, wLe]; omega)) (by unfold pF1; rw [if_neg (by omega), if_neg (by omega), if_pos ⟨rfl, rfl⟩]) (fun _ _ => Iff.rfl) rfl (fun μ11 ad11 hB11 hA11 => ?_)
  refine c_ref (fs2 := [.inl 0, .inl 0, .inl 0, .inl 0, .inl (-1), .inl 0, .inr (some (9, i)), .inr (some (10, i)), .inr (some (11, i)), .inr none, .inr none, .inr none, .inr none, .inr none]) 61 dX9_init_58 rfl pX9_44 rfl hB11 hA11 hU (by rw [uw_y (Or.inr ⟨rfl, rfl⟩)]; exact sn_ne) (Nat.le_of_ble_eq_true rfl) (fun _ => rfl) (fun _ => rfl) rfl (fun μ12 hB12 => ?_)
  refine p_aload 62 dX9_init_61 rfl rfl ?_
  refine c_sub (r := (RX1, TX1, 7)) (ty := tyX1) (ci := 1) (N := MX1_init) (wDi (i)) 16 (i) [.inl 0, .inl 0, .inl 0, .inr none, .inr none, .inr none, .inr none] 4 320 (8, 361) 69 65 66 dX9_init_62 rfl dX9_init_65 rfl dX9_init_66 rfl nX9_48 rfl tyX1_ok (by decide +kernel) (by decide) gX9_50 (Nat.le_of_ble_eq_true rfl) (Nat.le_of_ble_eq_true rfl) (by decide) (by decide) rfl hB12 (by rw [us_ne (by omega), uw_n (by (try simp only [wAc, wDi, wLe, wPe, wPl, wRe, wSe, wSh, wSo, wTo]); first | (simp; done) | omega)]; exact hn _ _ (by (try simp only [wAc, wDi, wLe, wPe, wPl, wRe, wSe, wSh, wSo, wTo]); first | (simp; done) | omega) (by omega)) (fun Q2 μ1 ad1 b1 kk => n_diary b1 (us_self _ _ _ _) (fun x y h1 h2 => by rw [us_ne (by (try simp only [wAc, wDi, wLe, wPe, wPl, wRe, wSe, wSh, wSo, wTo] at h1); omega), us_ne (by (try simp only [wAc, wDi, wLe, wPe, wPl, wRe, wSe, wSh, wSo, wTo] at h1); omega), uw_n (by (try simp only [wAc, wDi, wLe, wPe, wPl, wRe, wSe, wSh, wSo, wTo] at h1 ⊢); omega)]; exact hn x y (by (try simp only [wAc, wDi, wLe, wPe, wPl, wRe, wSe, wSh, wSo, wTo] at h1 ⊢); omega) (by (try simp only [wAc, wDi, wLe, wPe, wPl, wRe, wSe, wSh, wSo, wTo] at h1); omega)) kk) (fun μ13 ad13 hB13 hA13 => ?_)
  rw [uw_sub2 (F := pF1 i) (fun x y h => (pF1_n (by unfold wDi at h; omega)).symm) (W2 := fun x y => ((((x < 0) ∨ (x = 9 ∧ y = i)) ∨ (x = 10 ∧ y = i)) ∨ (x = 11 ∧ y = i)) ∨ (wDi (i) x y)) (by unfold wDi; omega) (by unfold wDi; omega) (fun _ _ => Iff.rfl)] at hB13
  replace hA13 := ag_us hA11 hA13
  refine c_ref (fs2 := [.inl 0, .inl 0, .inl 0, .inl 0, .inl (-1), .inl 0, .inr (some (9, i)), .inr (some (10, i)), .inr (some (11, i)), .inr (some (16, i)), .inr none, .inr none, .inr none, .inr none]) 72 dX9_init_69 rfl pX9_51 rfl hB13 hA13 hU (by rw [uw_y (Or.inr (by unfold wDi; omega))]; exact sn_ne) (Nat.le_of_ble_eq_true rfl) (fun _ => rfl) (fun _ => rfl) rfl (fun μ14 hB14 => ?_)
  refine p_aload 73 dX9_init_72 rfl rfl ?_
  refine c_sub (r := (RX2, TX2, 4)) (ty := tyX2) (ci := 2) (N := MX2_init) (wLe (i)) 21 (i) [.inl 0, .inr none, .inr none, .inr none] 3 90 (12, 455) 80 76 77 dX9_init_73 rfl dX9_init_76 rfl dX9_init_77 rfl nX9_55 rfl tyX2_ok (by decide +kernel) (by decide) gX9_57 (Nat.le_of_ble_eq_true rfl) (Nat.le_of_ble_eq_true rfl) (by decide) (by decide) rfl hB14 (by rw [us_ne (by omega), uw_n (by (try simp only [wAc, wDi, wLe, wPe, wPl, wRe, wSe, wSh, wSo, wTo]); first | (simp; done) | omega)]; exact hn _ _ (by (try simp only [wAc, wDi, wLe, wPe, wPl, wRe, wSe, wSh, wSo, wTo]); first | (simp; done) | omega) (by omega)) (fun Q2 μ1 ad1 b1 kk => n_letters b1 (us_self _ _ _ _) (fun x y h1 h2 => by rw [us_ne (by (try simp only [wAc, wDi, wLe, wPe, wPl, wRe, wSe, wSh, wSo, wTo] at h1); omega), us_ne (by (try simp only [wAc, wDi, wLe, wPe, wPl, wRe, wSe, wSh, wSo, wTo] at h1); omega), uw_n (by (try simp only [wAc, wDi, wLe, wPe, wPl, wRe, wSe, wSh, wSo, wTo] at h1 ⊢); omega)]; exact hn x y (by (try simp only [wAc, wDi, wLe, wPe, wPl, wRe, wSe, wSh, wSo, wTo] at h1 ⊢); omega) (by (try simp only [wAc, wDi, wLe, wPe, wPl, wRe, wSe, wSh, wSo, wTo] at h1); omega)) kk) (fun μ15 ad15 hB15 hA15 => ?_)
  rw [uw_sub2 (F := pF1 i) (fun x y h => (pF1_n (by unfold wLe at h; omega)).symm) (W2 := fun x y => (((((x < 0) ∨ (x = 9 ∧ y = i)) ∨ (x = 10 ∧ y = i)) ∨ (x = 11 ∧ y = i)) ∨ (wDi (i) x y)) ∨ (wLe (i) x y)) (by unfold wLe; omega) (by unfold wLe; omega) (fun _ _ => Iff.rfl)] at hB15
  replace hA15 := ag_us hA13 hA15
  refine c_ref (fs2 := [.inl 0, .inl 0, .inl 0, .inl 0, .inl (-1), .inl 0, .inr (some (9, i)), .inr (some (10, i)), .inr (some (11, i)), .inr (some (16, i)), .inr (some (21, i)), .inr none, .inr none, .inr none]) 83 dX9_init_80 rfl pX9_58 rfl hB15 hA15 hU (by rw [uw_y (Or.inr (by unfold wLe; omega))]; exact sn_ne) (Nat.le_of_ble_eq_true rfl) (fun _ => rfl) (fun _ => rfl) rfl (fun μ16 hB16 => ?_)
  refine p_aload 84 dX9_init_83 rfl rfl ?_
  refine p_bipush 86 dX9_init_84 rfl (by decide) ?_
  refine c_newi (fun x y => ((((((x < 0) ∨ (x = 9 ∧ y = i)) ∨ (x = 10 ∧ y = i)) ∨ (x = 11 ∧ y = i)) ∨ (wDi (i) x y)) ∨ (wLe (i) x y)) ∨ (x = 25 ∧ y = i)) 25 (i) 64 (13, 519) 88 dX9_init_86 rfl rfl (by decide) (by decide) (by decide) hB16 hA15 (by omega) (hn _ _ (by unfold wTo; omega) (by omega)) (by first | omega | (simp only [wDi, wLe]; omega)) (by rw [pF1_n (by omega)]; rfl) (fun _ _ => Iff.rfl) rfl (fun μ17 ad17 hB17 hA17 => ?_)
  refine c_ref (fs2 := [.inl 0, .inl 0, .inl 0, .inl 0, .inl (-1), .inl 0, .inr (some (9, i)), .inr (some (10, i)), .inr (some (11, i)), .inr (some (16, i)), .inr (some (21, i)), .inr (some (25, i)), .inr none, .inr none]) 91 dX9_init_88 rfl pX9_62 rfl hB17 hA17 hU (by rw [uw_y (Or.inr ⟨rfl, rfl⟩)]; exact sn_ne) (Nat.le_of_ble_eq_true rfl) (fun _ => rfl) (fun _ => rfl) rfl (fun μ18 hB18 => ?_)
  refine p_aload 92 dX9_init_91 rfl rfl ?_
  refine p_bipush 94 dX9_init_92 rfl (by decide) ?_
  refine c_newi (fun x y => (((((((x < 0) ∨ (x = 9 ∧ y = i)) ∨ (x = 10 ∧ y = i)) ∨ (x = 11 ∧ y = i)) ∨ (wDi (i) x y)) ∨ (wLe (i) x y)) ∨ (x = 25 ∧ y = i)) ∨ (x = 26 ∧ y = i)) 26 (i) 10 (14, 529) 96 dX9_init_94 rfl rfl (by decide) (by decide) (by decide) hB18 hA17 (by omega) (hn _ _ (by unfold wTo; omega) (by omega)) (by first | omega | (simp only [wDi, wLe]; omega)) (by rw [pF1_n (by omega)]; rfl) (fun _ _ => Iff.rfl) rfl (fun μ19 ad19 hB19 hA19 => ?_)
  refine c_ref (fs2 := [.inl 0, .inl 0, .inl 0, .inl 0, .inl (-1), .inl 0, .inr (some (9, i)), .inr (some (10, i)), .inr (some (11, i)), .inr (some (16, i)), .inr (some (21, i)), .inr (some (25, i)), .inr (some (26, i)), .inr none]) 99 dX9_init_96 rfl pX9_66 rfl hB19 hA19 hU (by rw [uw_y (Or.inr ⟨rfl, rfl⟩)]; exact sn_ne) (Nat.le_of_ble_eq_true rfl) (fun _ => rfl) (fun _ => rfl) rfl (fun μ20 hB20 => ?_)
  refine p_aload 100 dX9_init_99 rfl rfl ?_
  refine p_bipush 102 dX9_init_100 rfl (by decide) ?_
  refine c_newi (fun x y => ((((((((x < 0) ∨ (x = 9 ∧ y = i)) ∨ (x = 10 ∧ y = i)) ∨ (x = 11 ∧ y = i)) ∨ (wDi (i) x y)) ∨ (wLe (i) x y)) ∨ (x = 25 ∧ y = i)) ∨ (x = 26 ∧ y = i)) ∨ (x = 27 ∧ y = i)) 27 (i) 6 (15, 535) 104 dX9_init_102 rfl rfl (by decide) (by decide) (by decide) hB20 hA19 (by omega) (hn _ _ (by unfold wTo; omega) (by omega)) (by first | omega | (simp only [wDi, wLe]; omega)) (by unfold pF1; rw [if_neg (by omega), if_neg (by omega), if_neg (by omega), if_pos ⟨rfl, rfl⟩]) (fun _ _ => Iff.rfl) rfl (fun μ21 ad21 hB21 hA21 => ?_)
  refine c_ref (fs2 := [.inl 0, .inl 0, .inl 0, .inl 0, .inl (-1), .inl 0, .inr (some (9, i)), .inr (some (10, i)), .inr (some (11, i)), .inr (some (16, i)), .inr (some (21, i)), .inr (some (25, i)), .inr (some (26, i)), .inr (some (27, i))]) 107 dX9_init_104 rfl pX9_69 rfl hB21 hA21 hU (by rw [uw_y (Or.inr ⟨rfl, rfl⟩)]; exact sn_ne) (Nat.le_of_ble_eq_true rfl) (fun _ => rfl) (fun _ => rfl) rfl (fun μ22 hB22 => ?_)
  have e0 : us (uw (pF1 i) (fun x y => ((((((((x < 0) ∨ (x = 9 ∧ y = i)) ∨ (x = 10 ∧ y = i)) ∨ (x = 11 ∧ y = i)) ∨ (wDi (i) x y)) ∨ (wLe (i) x y)) ∨ (x = 25 ∧ y = i)) ∨ (x = 26 ∧ y = i)) ∨ (x = 27 ∧ y = i)) U) 8 i (pfin 8 i) = tS i 0 0 0 (fun _ => 0) U := by
    rw [uw_us (W2 := fun x y => y = i ∧ ((8 ≤ x ∧ x ≤ 11) ∨ (16 ≤ x ∧ x ≤ 27))) (pF1_n (by omega)).symm (fun x y => by (try simp only [wDi, wLe]); omega)]
    funext x y
    unfold tS
    by_cases c27 : x = 27 ∧ y = i
    · rw [uw_y (by omega), if_pos c27, c27.1, c27.2]
      unfold pF1
      rw [if_neg (by omega), if_neg (by omega), if_neg (by omega), if_pos ⟨rfl, rfl⟩]
    rw [if_neg c27]
    by_cases c9 : x = 9 ∧ y = i
    · rw [uw_y (by omega), if_pos c9, c9.1, c9.2]
      unfold pF1 E9
      rw [if_pos ⟨rfl, rfl⟩]
      rfl
    rw [if_neg c9]
    by_cases c10 : x = 10 ∧ y = i
    · rw [uw_y (by omega), if_pos c10, c10.1, c10.2]
      unfold pF1 E10
      rw [if_neg (by omega), if_pos ⟨rfl, rfl⟩]
      rfl
    rw [if_neg c10]
    by_cases c11 : x = 11 ∧ y = i
    · rw [uw_y (by omega), if_pos c11, c11.1, c11.2]
      unfold pF1 E11
      rw [if_neg (by omega), if_neg (by omega), if_pos ⟨rfl, rfl⟩]
      rfl
    rw [if_neg c11]
    by_cases cw : y = i ∧ (x = 8 ∨ (16 ≤ x ∧ x ≤ 26))
    · rw [uw_y (by omega), if_pos (Or.inl cw), pF1_n (by omega)]
    · rw [uw_n (by omega), if_neg (by omega)]
  have hB9 : PB z.1 _ _ (tS i 0 0 0 (fun _ => 0) U) := e0 ▸ hB22
  clear e0
  refine p_iconst 108 dX9_init_107 rfl ?_
  refine p_istore1 109 dX9_init_108 rfl rfl (by decide) ?_
  refine n_town_person hU hn (fun μa ada hBa hAa => ?_) 12 0 _ _ rfl hB9 hA21
  refine p_iconst 135 dX9_init_134 rfl ?_
  refine p_istore1 136 dX9_init_135 rfl rfl (by decide) ?_
  refine n_town_source hU hn (fun μb adb hBb hAb => ?_) 14 0 _ _ rfl hBa hAa
  refine p_iconst 162 dX9_init_161 rfl ?_
  refine p_istore1 163 dX9_init_162 rfl rfl (by decide) ?_
  refine n_town_plan hU hn (fun μc adc hBc hAc => ?_) 8 0 _ _ rfl hBb hAb
  have h2 : (z.2.1 1, FieldType.int, 6, fun j => xFL.getD j 0) ∈ (Cf z).2.2.2.2.1 := List.mem_append_left _ (List.mem_cons_of_mem _ List.mem_cons_self)
  have h1 : ("HumUnheard", "FIRST_LAWS", "[I", Value.ref (z.2.1 1)) ∈ (Cf z).2.2.2.2.2.2.2.1 := List.mem_cons_self
  refine e_getsN dX9_init_188 (sX9_75 z) h1 ?_
  refine p_iconst 192 dX9_init_191 rfl ?_
  refine p_aload 193 dX9_init_192 rfl rfl ?_
  refine p_getf 196 dX9_init_193 rfl fX9_69 hBc tS_8 (hAc 8 i hU) rfl ?_
  refine p_iconst 197 dX9_init_196 rfl ?_
  refine p_bipush 199 dX9_init_197 rfl (by decide) ?_
  refine e_cpyr (t := 0) (cA := z.1 0) (n0 := 6) (n1 := 6) (f := fun j => xFL.getD j 0) (g := fun _ => iI 0) (a := adc 27 i) dX9_init_199 (gX9_78 z) (by decide) rfl h2 (PB_at hBc tS_27) (by decide) (by decide) (by decide) (by decide) (by decide) ?_
  refine e_vret dX9_init_202 rfl (by decide) (by decide) (k _ _ ?_ hAc)
  have hB8 := PB_set (g := 27) (i := i) (D := .inr (.inl (6, pFst))) hBc (sm_ne tS_27) (fun ad2 _ => rfl)
  have e1 : us (tS i 12 14 8 (fun _ => 0) U) 27 i (.inr (.inl (6, pFst))) = uw pfin (wTo i) U := by
    funext x y
    by_cases c27 : x = 27 ∧ y = i
    · rw [c27.1, c27.2, us_self, uw_y (by unfold wTo; omega)]
      rfl
    rw [us_ne c27]
    unfold tS
    rw [if_neg c27]
    by_cases c9 : x = 9 ∧ y = i
    · rw [if_pos c9, uw_y (by unfold wTo; omega), c9.1, c9.2]
      rfl
    rw [if_neg c9]
    by_cases c10 : x = 10 ∧ y = i
    · rw [if_pos c10, uw_y (by unfold wTo; omega), c10.1, c10.2]
      rfl
    rw [if_neg c10]
    by_cases c11 : x = 11 ∧ y = i
    · rw [if_pos c11, uw_y (by unfold wTo; omega), c11.1, c11.2]
      rfl
    rw [if_neg c11]
    by_cases cw : (y = i ∧ (x = 8 ∨ (16 ≤ x ∧ x ≤ 26))) ∨ (x = 12 ∧ 12 * i ≤ y ∧ y < 12 * i + 12) ∨ (x = 13 ∧ 14 * i ≤ y ∧ y < 14 * i + 14) ∨ ((x = 14 ∨ (41 ≤ x ∧ x ≤ 45)) ∧ 8 * i ≤ y ∧ y < 8 * i + 8)
    · rw [if_pos cw, uw_y (by unfold wTo; omega)]
    · rw [if_neg cw, uw_n (by unfold wTo; omega)]
  rw [e1] at hB8
  have e2 : (fun j => iI (pFst j)) = va_cpy (fun j => xFL.getD j 0) (fun _ => iI 0) (0 : Int32).toNatClampNeg (0 : Int32).toNatClampNeg (6 : Int32).toNatClampNeg := by
    funext j
    show _ = va_cpy (fun j => xFL.getD j 0) (fun _ => iI 0) 0 0 6 j
    unfold va_cpy
    match j with
    | 0 => rfl
    | 1 => rfl
    | 2 => rfl
    | 3 => rfl
    | 4 => rfl
    | 5 => rfl
    | n + 6 => rw [if_neg (by omega)]; rfl
  rw [e2] at hB8
  exact hB8
