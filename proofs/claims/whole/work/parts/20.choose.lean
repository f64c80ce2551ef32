/-- the class's town t stands alike in c and c2 -/
def tsame (c c2 : tC) (t : Nat) : Prop := (c2 8 t = c 8 t ∧ c2 16 t = c 16 t ∧ c2 21 t = c 21 t ∧ c2 25 t = c 25 t ∧ c2 26 t = c 26 t ∧ c2 27 t = c 27 t) ∧ (c2 17 t = c 17 t ∧ c2 18 t = c 18 t ∧ c2 19 t = c 19 t ∧ c2 20 t = c 20 t) ∧ (c2 22 t = c 22 t ∧ c2 23 t = c 23 t ∧ c2 24 t = c 24 t) ∧ (∀ i, c2 12 (tp t i) = c 12 (tp t i)) ∧ (∀ i, c2 13 (ts t i) = c 13 (ts t i)) ∧ ∀ i, c2 14 (tl t i) = c 14 (tl t i) ∧ c2 41 (tl t i) = c 41 (tl t i) ∧ c2 42 (tl t i) = c 42 (tl t i) ∧ c2 43 (tl t i) = c 43 (tl t i) ∧ c2 44 (tl t i) = c 44 (tl t i) ∧ c2 45 (tl t i) = c 45 (tl t i)
theorem RT_fr {c c2 : tC} {t : Nat} {S : sS} {A : sA} (h : tsame c c2 t) (hR : RT c t S A) : RT c2 t S A := by
  obtain ⟨⟨h8, h16, h21, h25, h26, h27⟩, ⟨h17, h18, h19, h20⟩, ⟨h22, h23, h24⟩, h12, h13, hp⟩ := h
  have h14 := fun i => (hp i).1
  have h41 := fun i => (hp i).2.1
  have h42 := fun i => (hp i).2.2.1
  have h43 := fun i => (hp i).2.2.2.1
  have h44 := fun i => (hp i).2.2.2.2.1
  have h45 := fun i => (hp i).2.2.2.2.2
  revert hR
  unfold RT RT_scal RT_rng RT_per RT_src RT_off RT_beat RT_law RT_size RT_storm RT_plan RT_press RT_pmon RT_match RT_mmon RT_came RT_let
  simp only [h8, h16, h21, h25, h26, h27, h17, h18, h19, h20, h22, h23, h24, h12, h13, h14, h41, h42, h43, h44, h45]
  exact id
/-- nothing changes but kinds 5, 6, 7 -/
def kfr (c c2 : tC) : Prop := ∀ g, g ≠ 5 → g ≠ 7 → c2 g = c g
theorem kfr_same {c c2 : tC} (h : kfr c c2) (t : Nat) : tsame c c2 t := by
  have q : ∀ g, g ≠ 5 → g ≠ 7 → c2 g = c g := h
  unfold tsame
  rw [q 8 (by decide) (by decide), q 16 (by decide) (by decide), q 21 (by decide) (by decide), q 25 (by decide) (by decide), q 26 (by decide) (by decide), q 27 (by decide) (by decide), q 17 (by decide) (by decide), q 18 (by decide) (by decide), q 19 (by decide) (by decide), q 20 (by decide) (by decide), q 22 (by decide) (by decide), q 23 (by decide) (by decide), q 24 (by decide) (by decide), q 12 (by decide) (by decide), q 13 (by decide) (by decide), q 14 (by decide) (by decide), q 41 (by decide) (by decide), q 42 (by decide) (by decide), q 43 (by decide) (by decide), q 44 (by decide) (by decide), q 45 (by decide) (by decide)]
  exact ⟨⟨rfl, rfl, rfl, rfl, rfl, rfl⟩, ⟨rfl, rfl, rfl, rfl⟩, ⟨rfl, rfl, rfl⟩, fun _ => rfl, fun _ => rfl, fun _ => ⟨rfl, rfl, rfl, rfl, rfl, rfl⟩⟩
theorem kfr_RX {c c2 : tC} (h : kfr c c2) (hR : RX c) : RX c2 := by
  have e1 : c2 50 = c 50 := h 50 (by decide) (by decide)
  have e2 : c2 51 = c 51 := h 51 (by decide) (by decide)
  show RT c2 0 (c2 50 0) (c2 51)
  rw [e1, e2]
  exact RT_fr (kfr_same h 0) hR
def sfr (c c2 : tC) : Prop := (∀ g, g ≠ 5 → c2 g = c g) ∧ c2 5 0 3 = c 5 0 3 ∧ c2 5 0 4 = c 5 0 4
theorem sfr_rfl (c : tC) : sfr c c := ⟨fun _ _ => rfl, rfl, rfl⟩
theorem sfr_trans {a b c : tC} (h1 : sfr a b) (h2 : sfr b c) : sfr a c := ⟨fun g hg => (h2.1 g hg).trans (h1.1 g hg), h2.2.1.trans h1.2.1, h2.2.2.trans h1.2.2⟩
theorem sfr_k {a b : tC} (h : sfr a b) : kfr a b := fun g h5 _ => h.1 g h5
/-! sets of sources -/
theorem sb_iff {X Y : Nat} : X ||| Y = Y ↔ ∀ i, X.testBit i = true → Y.testBit i = true := by
  constructor
  · intro h i hi
    have := congrArg (fun v => v.testBit i) h
    simp only [Nat.testBit_or, hi, Bool.true_or] at this
    exact this.symm
  · intro h
    apply Nat.eq_of_testBit_eq
    intro i
    rw [Nat.testBit_or]
    cases hx : X.testBit i with
    | true => rw [h i hx]; rfl
    | false => rw [Bool.false_or]
theorem sb_le {X Y : Nat} (h : X ||| Y = Y) : X ≤ Y := by rw [← h]; exact Nat.left_le_or
theorem sb_trans {X Y Z : Nat} (h : X ||| Y = Y) (h2 : Y ||| Z = Z) : X ||| Z = Z := sb_iff.mpr fun i hi => sb_iff.mp h2 i (sb_iff.mp h i hi)
theorem sb_or {X Y Z : Nat} (h : X ||| Z = Z) (h2 : Y ||| Z = Z) : (X ||| Y) ||| Z = Z := by rw [Nat.or_assoc, h2, h]
theorem sb_l (X Y : Nat) : X ||| (X ||| Y) = X ||| Y := by rw [← Nat.or_assoc, Nat.or_self]
theorem sb_r (X Y : Nat) : Y ||| (X ||| Y) = X ||| Y := by rw [Nat.or_comm X Y, sb_l]
theorem nand_or {a b : Nat} (ha : a < 2 ^ 31) : b ||| nand a b = b ||| a := by
  apply Nat.eq_of_testBit_eq
  intro i
  rw [Nat.testBit_or, Nat.testBit_or, nand_bit ha]
  cases b.testBit i <;> simp
theorem nand_zero {a b : Nat} (ha : a < 2 ^ 31) : nand a b = 0 ↔ a ||| b = b := by
  rw [sb_iff]
  constructor
  · intro h i hi
    have := nand_bit ha b i
    rw [h, Nat.zero_testBit, hi] at this
    cases hb : b.testBit i with
    | true => rfl
    | false => rw [hb] at this; simp at this
  · intro h
    apply Nat.eq_of_testBit_eq
    intro i
    rw [nand_bit ha, Nat.zero_testBit]
    cases hi : a.testBit i with
    | true => rw [h i hi]; rfl
    | false => rfl
theorem nand_dis {a b : Nat} (ha : a < 2 ^ 31) (i : Nat) : ¬ (b.testBit i = true ∧ (nand a b).testBit i = true) := by
  rw [nand_bit ha]
  cases b.testBit i <;> simp
def fPr (A : sA) (X : Nat) : Nat → Int
  | 0 => 0
  | n + 1 => fPr A X n + (if X.testBit n = true then A 25 n else 0)
theorem fPr_or {A : sA} {X Y : Nat} (h : ∀ i, ¬ (X.testBit i = true ∧ Y.testBit i = true)) : ∀ n, fPr A (X ||| Y) n = fPr A X n + fPr A Y n := by
  intro n
  induction n with
  | zero => rfl
  | succ n ih =>
    rw [fPr, fPr, fPr, ih, Nat.testBit_or]
    have := h n
    cases hx : X.testBit n <;> cases hy : Y.testBit n <;> simp_all <;> omega
theorem fPr_rng {A : sA} {n : Nat} (hA : ∀ s, s < n → 0 ≤ A 25 s ∧ A 25 s ≤ 99) (X : Nat) : ∀ i, i ≤ n → 0 ≤ fPr A X i ∧ fPr A X i ≤ 99 * i := by
  intro i
  induction i with
  | zero => intro _; exact ⟨Int.le_refl _, Int.le_refl _⟩
  | succ i ih =>
    intro hi
    have h1 := ih (by omega)
    have h2 := hA i (by omega)
    rw [fPr]
    split <;> omega
theorem fPr_mono {A : sA} {n : Nat} (hA : ∀ s, s < n → 0 ≤ A 25 s ∧ A 25 s ≤ 99) {X Y : Nat} (h : X ||| Y = Y) : ∀ i, i ≤ n → fPr A X i ≤ fPr A Y i := by
  intro i
  induction i with
  | zero => intro _; exact Int.le_refl _
  | succ i ih =>
    intro hi
    have h1 := ih (by omega)
    have h2 := hA i (by omega)
    have h3 := sb_iff.mp h i
    rw [fPr, fPr]
    cases hx : X.testBit i with
    | true => rw [h3 hx, if_pos rfl]; omega
    | false => rw [if_neg (by decide)]; split <;> omega
theorem fPr_stop {A : sA} {X i : Nat} (h : X >>> i = 0) : ∀ k, fPr A X (i + k) = fPr A X i := by
  intro k
  induction k with
  | zero => rfl
  | succ k ih =>
    have hb : X.testBit (i + k) = false := by
      have e : (X >>> i).testBit k = X.testBit (i + k) := Nat.testBit_shiftRight ..
      rw [← e, h, Nat.zero_testBit]
    rw [← Nat.add_assoc, fPr, ih, hb, if_neg (by decide), Int.add_zero]
theorem cntN_mono {f g : Nat → Bool} : ∀ {n : Nat}, (∀ i, i < n → f i = true → g i = true) → cntN f n ≤ cntN g n := by
  intro n
  induction n with
  | zero => intro _; exact Nat.le_refl _
  | succ n ih =>
    intro h
    have h1 := ih (fun i hi => h i (by omega))
    have h2 := h n (by omega)
    rw [cntN, cntN]
    cases hf : f n with
    | true => rw [h2 hf, if_pos rfl]; omega
    | false => rw [if_neg (by decide)]; omega
def wOr (W : Nat → Nat) (U : Nat) : Nat → Nat → Nat
  | _, 0 => 0
  | nx, r + 1 => (if W nx ||| U = U then W nx else 0) ||| wOr W U (nx + 1) r
def wCt (W : Nat → Nat) (U : Nat) : Nat → Nat → Nat
  | _, 0 => 0
  | nx, r + 1 => (if W nx ||| U = U then 1 else 0) + wCt W U (nx + 1) r
theorem wCt_le (W : Nat → Nat) (U : Nat) : ∀ r nx, wCt W U nx r ≤ r := by
  intro r
  induction r with
  | zero => intro _; exact Nat.le_refl _
  | succ r ih => intro nx; have := ih (nx + 1); rw [wCt]; split <;> omega
theorem wCt_cnt (W : Nat → Nat) (U : Nat) : ∀ r nx, cntN (fun i => decide (W i ||| U = U)) nx + wCt W U nx r = cntN (fun i => decide (W i ||| U = U)) (nx + r) := by
  intro r
  induction r with
  | zero => intro nx; rfl
  | succ r ih =>
    intro nx
    have h := ih (nx + 1)
    rw [show nx + (r + 1) = nx + 1 + r by omega, ← h, wCt, cntN]
    by_cases e : W nx ||| U = U
    · rw [if_pos e, if_pos (decide_eq_true e)]; omega
    · rw [if_neg e, if_neg (by rw [decide_eq_false e]; decide)]; omega
theorem wOr_sub (W : Nat → Nat) (U : Nat) : ∀ r nx, wOr W U nx r ||| U = U := by
  intro r
  induction r with
  | zero => intro nx; exact Nat.zero_or _
  | succ r ih =>
    intro nx
    rw [wOr]
    refine sb_or ?_ (ih (nx + 1))
    by_cases e : W nx ||| U = U
    · rw [if_pos e]; exact e
    · rw [if_neg e]; exact Nat.zero_or _
theorem wOr_in {W : Nat → Nat} {U : Nat} : ∀ (r nx i : Nat), nx ≤ i → i < nx + r → W i ||| U = U → W i ||| wOr W U nx r = wOr W U nx r := by
  intro r
  induction r with
  | zero => intro nx i h1 h2; omega
  | succ r ih =>
    intro nx i h1 h2 h3
    rw [wOr]
    by_cases e : i = nx
    · subst e; rw [if_pos h3]; exact sb_l _ _
    · exact sb_trans (ih (nx + 1) i (by omega) (by omega) h3) (sb_r _ _)
theorem wOr_ext {W : Nat → Nat} {U V : Nat} : ∀ (r nx : Nat), (∀ i, nx ≤ i → i < nx + r → (W i ||| U = U ↔ W i ||| V = V)) → wOr W U nx r = wOr W V nx r := by
  intro r
  induction r with
  | zero => intro nx _; rfl
  | succ r ih =>
    intro nx h
    rw [wOr, wOr, ih (nx + 1) (fun i h1 h2 => h i (by omega) (by omega))]
    by_cases e : W nx ||| U = U
    · rw [if_pos e, if_pos ((h nx (by omega) (by omega)).mp e)]
    · rw [if_neg e, if_neg (fun q => e ((h nx (by omega) (by omega)).mpr q))]
theorem ishr_in {a i : Nat} (ha : a < 2 ^ 31) (hi : i < 31) : -2147483648 ≤ ishr a i ∧ ishr a i < 2147483648 := by
  have h := Nat.shiftRight_le a i
  rw [ishr_nat ha hi]
  generalize a >>> i = y at h
  constructor <;> omega
theorem x_price_loop {z : xZ} {d : Nat} {Q : tQ} {c : tC} {L : tL} {n X : Nat} (hR : RX c) (hn : c 50 0 2 = (n : Int)) (hX : X < 2 ^ 31) (kk : ∀ r, r = fPr (c 51) X n → Q (some (.int (iI r))) c L) : ∀ (k i : Nat) (m : Int), i + k = n → m = fPr (c 51) X i → En z (d + 2) MX6_priceOf Q 4 [some (.ref (xad z 5 0)), some (.int (iI (X : Int))), some (.int (iI m)), some (.int (iI (i : Int)))] [] c L := by
  have hg := R0_rng hR
  have hc := R0_scal hR
  intro k
  induction k with
  | zero =>
    intro i m hi hm
    refine r_iloadN 5 dX6_priceOf_4 rfl rfl ?_
    refine r_aloadN 6 dX6_priceOf_5 rfl rfl ?_
    refine r_getq 9 dX6_priceOf_6 rfl fX6_12 (by decide) (sh_5 z _) rfl ?_
    refine r_geti 12 dX6_priceOf_9 rfl fX6_42 (by decide) (sh_8 z _) rfl ?_
    refine r_icge 50 15 dX6_priceOf_12 rfl (by decide) (by omega) (by omega) (fun h12 => ?_) (fun h12 => ?_)
    · refine r_iloadN 51 dX6_priceOf_50 rfl rfl ?_
      refine r_ret dX6_priceOf_51 rfl (kk _ ?_)
      first
        | (rw [hm, show i = n by omega]; done)
        | (have hz : X >>> i = 0 := by rw [ishr_nat hX (by omega)] at h18; omega
           rw [hm, ← fPr_stop hz (n - i), show i + (n - i) = n by omega])
    · exfalso; omega
  | succ k ih =>
    intro i m hi hm
    have hqi := R0_src hR i (by omega)
    refine r_iloadN 5 dX6_priceOf_4 rfl rfl ?_
    refine r_aloadN 6 dX6_priceOf_5 rfl rfl ?_
    refine r_getq 9 dX6_priceOf_6 rfl fX6_12 (by decide) (sh_5 z _) rfl ?_
    refine r_geti 12 dX6_priceOf_9 rfl fX6_42 (by decide) (sh_8 z _) rfl ?_
    refine r_icge 50 15 dX6_priceOf_12 rfl (by decide) (by omega) (by omega) (fun h12 => ?_) (fun h12 => ?_)
    · refine r_iloadN 51 dX6_priceOf_50 rfl rfl ?_
      refine r_ret dX6_priceOf_51 rfl (kk _ ?_)
      first
        | (rw [hm, show i = n by omega]; done)
        | (have hz : X >>> i = 0 := by rw [ishr_nat hX (by omega)] at h18; omega
           rw [hm, ← fPr_stop hz (n - i), show i + (n - i) = n by omega])
    · refine r_iloadN 16 dX6_priceOf_15 rfl rfl ?_
      refine r_iloadN 17 dX6_priceOf_16 rfl rfl ?_
      refine r_ishr 18 dX6_priceOf_17 rfl ?_
      refine r_ifeq 50 21 dX6_priceOf_18 rfl (by decide) (ishr_in hX (by omega)) (fun h18 => ?_) (fun h18 => ?_)
      · refine r_iloadN 51 dX6_priceOf_50 rfl rfl ?_
        refine r_ret dX6_priceOf_51 rfl (kk _ ?_)
        first
          | (rw [hm, show i = n by omega]; done)
          | (have hz : X >>> i = 0 := by rw [ishr_nat hX (by omega)] at h18; omega
             rw [hm, ← fPr_stop hz (n - i), show i + (n - i) = n by omega])
      · refine r_iloadN 22 dX6_priceOf_21 rfl rfl ?_
        refine r_iloadN 23 dX6_priceOf_22 rfl rfl ?_
        refine r_cs2 26 dX6_priceOf_23 rfl gX6_91 (Nat.le_of_ble_eq_true rfl) (Nat.le_of_ble_eq_true rfl) rfl ?_
        refine x_hasBit hX (by omega) (fun y23 => ?_) (fun y23 => ?_)
        · refine r_ifeqF 29 dX6_priceOf_26 rfl 44 (by decide) (by decide) (by decide) ?_
          refine r_iloadN 30 dX6_priceOf_29 rfl rfl ?_
          refine r_aloadN 31 dX6_priceOf_30 rfl rfl ?_
          refine r_getq 34 dX6_priceOf_31 rfl fX6_12 (by decide) (sh_5 z _) rfl ?_
          refine r_getq 37 dX6_priceOf_34 rfl fX6_129 (by decide) (sh_8 z _) rfl ?_
          refine r_iloadN 38 dX6_priceOf_37 rfl rfl ?_
          refine r_aald 39 dX6_priceOf_38 (i) rfl rfl (by decide) (sh_10a z) rfl (by decide) (by omega) (by omega) ?_
          refine r_geti 42 dX6_priceOf_39 rfl fX6_133 (ct_13 (by omega)) (sh_13 z _) rfl ?_
          refine r_iadd 43 dX6_priceOf_42 rfl ?_
          refine r_istore2 44 dX6_priceOf_43 rfl rfl (by decide) ?_
          refine r_iinc3 47 dX6_priceOf_44 rfl rfl (by decide) ?_
          refine r_goto 4 dX6_priceOf_47 (by decide) ?_
          refine ih (i + 1) _ (by omega) ?_
          rw [fPr]
          first
            | (rw [if_pos y23]; omega)
            | (rw [if_neg (by rw [y23]; decide)]; omega)
        · refine r_ifeqT 44 0 dX6_priceOf_26 (by decide) (by decide) (by decide) ?_
          refine r_iinc3 47 dX6_priceOf_44 rfl rfl (by decide) ?_
          refine r_goto 4 dX6_priceOf_47 (by decide) ?_
          refine ih (i + 1) _ (by omega) ?_
          rw [fPr]
          first
            | (rw [if_pos y23]; omega)
            | (rw [if_neg (by rw [y23]; decide)]; omega)
theorem x_priceOf {z : xZ} {d : Nat} {Q : tQ} {c : tC} {L : tL} {n X : Nat} (hR : RX c) (hn : c 50 0 2 = (n : Int)) (hX : X < 2 ^ 31) (k : ∀ r, r = fPr (c 51) X n → Q (some (.int (iI r))) c L) : En z (d + 2) MX6_priceOf Q 0 [some (.ref (xad z 5 0)), some (.int (iI (X : Int))), none, none] [] c L := by
  refine r_iconst 1 dX6_priceOf_0 rfl ?_
  refine r_istore2 2 dX6_priceOf_1 rfl rfl (by decide) ?_
  refine r_iconst 3 dX6_priceOf_2 rfl ?_
  refine r_istore3 4 dX6_priceOf_3 rfl rfl (by decide) ?_
  exact x_price_loop hR hn hX k n 0 _ (by omega) rfl
def fKy (c : tC) : Int := c 5 0 6 * 1000000000 - c 5 0 7 * 100000 - c 5 0 5
def fBst (c : tC) (W : Nat → Nat) (wc n : Nat) (bu : Int) : Prop := ∃ Y : Nat, Y < 2 ^ n ∧ c 5 0 5 = (Y : Int) ∧ c 5 0 7 = fPr (c 51) Y n ∧ 0 ≤ c 5 0 6 ∧ c 5 0 6 ≤ ((cntN (fun i => decide (W i ||| Y = Y)) wc : Nat) : Int) ∧ c 5 0 7 ≤ bu ∧ (∀ s, Y.testBit s = true → fTalk (c 51) s = false)
theorem x_keep {z : xZ} {d : Nat} {Q : tQ} {c : tC} {L : tL} {X p r : Int} (hr : (0 ≤ c 5 0 6 ∧ c 5 0 6 ≤ 100) ∧ (0 ≤ c 5 0 7 ∧ c 5 0 7 ≤ 9000) ∧ 0 ≤ c 5 0 5 ∧ c 5 0 5 ≤ 50000) (hx : (0 ≤ X ∧ X ≤ 50000) ∧ (0 ≤ p ∧ p ≤ 9000) ∧ 0 ≤ r ∧ r ≤ 100) (k : ∀ c2 : tC, sfr c c2 → ((c2 5 0 5 = X ∧ c2 5 0 7 = p ∧ c2 5 0 6 = r ∧ fKy c ≤ fKy c2) ∨ (c2 = c ∧ r * 1000000000 - p * 100000 - X ≤ fKy c)) → Q none c2 L) : En z (d + 1) MX6_keepIfBetter Q 0 [some (.ref (xad z 5 0)), some (.int (iI X)), some (.int (iI p)), some (.int (iI r)), none] [] c L := by
  refine r_iloadN 1 dX6_keepIfBetter_0 rfl rfl ?_
  refine r_aloadN 2 dX6_keepIfBetter_1 rfl rfl ?_
  refine r_geti 5 dX6_keepIfBetter_2 rfl fX6_36 (by decide) (sh_5 z _) rfl ?_
  refine r_icle 12 8 dX6_keepIfBetter_5 rfl (by decide) (by omega) (by omega) (fun h5 => ?_) (fun h5 => ?_)
  · refine r_iconst 13 dX6_keepIfBetter_12 rfl ?_
    refine r_istore4 15 dX6_keepIfBetter_13 rfl rfl (by decide) ?_
    refine r_iloadN 16 dX6_keepIfBetter_15 rfl rfl ?_
    refine r_aloadN 17 dX6_keepIfBetter_16 rfl rfl ?_
    refine r_geti 20 dX6_keepIfBetter_17 rfl fX6_36 (by decide) (sh_5 z _) rfl ?_
    refine r_icne 54 23 dX6_keepIfBetter_20 rfl (by decide) (by omega) (by omega) (fun h20 => ?_) (fun h20 => ?_)
    · refine r_iload 56 dX6_keepIfBetter_54 rfl rfl ?_
      refine r_ifeqT 74 0 dX6_keepIfBetter_56 (by decide) (by decide) (by decide) ?_
      first
        | exact r_vret dX6_keepIfBetter_74 rfl (k c (sfr_rfl c) (Or.inr ⟨rfl, by unfold fKy; omega⟩))
        | exact r_vret dX6_keepIfBetter_74 rfl (k _ ⟨fun g hg => by funext i j; simp [cu, hg], by simp [cu], by simp [cu]⟩ (Or.inl ⟨by simp [cu], by simp [cu], by simp [cu], by unfold fKy; simp [cu]; omega⟩))
    · refine r_iloadN 24 dX6_keepIfBetter_23 rfl rfl ?_
      refine r_aloadN 25 dX6_keepIfBetter_24 rfl rfl ?_
      refine r_geti 28 dX6_keepIfBetter_25 rfl fX6_39 (by decide) (sh_5 z _) rfl ?_
      refine r_iclt 47 31 dX6_keepIfBetter_28 rfl (by decide) (by omega) (by omega) (fun h28 => ?_) (fun h28 => ?_)
      · refine r_iconst 48 dX6_keepIfBetter_47 rfl ?_
        refine r_goto 52 dX6_keepIfBetter_48 (by decide) ?_
        refine r_istore4 54 dX6_keepIfBetter_52 rfl rfl (by decide) ?_
        refine r_iload 56 dX6_keepIfBetter_54 rfl rfl ?_
        refine r_ifeqF 59 dX6_keepIfBetter_56 rfl 74 (by decide) (by decide) (by decide) ?_
        refine r_aloadN 60 dX6_keepIfBetter_59 rfl rfl ?_
        refine r_iloadN 61 dX6_keepIfBetter_60 rfl rfl ?_
        refine r_puti 64 dX6_keepIfBetter_61 rfl pX6_33 (by decide) (sh_5 z _) rfl ?_
        refine r_aloadN 65 dX6_keepIfBetter_64 rfl rfl ?_
        refine r_iloadN 66 dX6_keepIfBetter_65 rfl rfl ?_
        refine r_puti 69 dX6_keepIfBetter_66 rfl pX6_39 (by decide) (sh_5 z _) rfl ?_
        refine r_aloadN 70 dX6_keepIfBetter_69 rfl rfl ?_
        refine r_iloadN 71 dX6_keepIfBetter_70 rfl rfl ?_
        refine r_puti 74 dX6_keepIfBetter_71 rfl pX6_36 (by decide) (sh_5 z _) rfl ?_
        first
          | exact r_vret dX6_keepIfBetter_74 rfl (k c (sfr_rfl c) (Or.inr ⟨rfl, by unfold fKy; omega⟩))
          | exact r_vret dX6_keepIfBetter_74 rfl (k _ ⟨fun g hg => by funext i j; simp [cu, hg], by simp [cu], by simp [cu]⟩ (Or.inl ⟨by simp [cu], by simp [cu], by simp [cu], by unfold fKy; simp [cu]; omega⟩))
      · refine r_iloadN 32 dX6_keepIfBetter_31 rfl rfl ?_
        refine r_aloadN 33 dX6_keepIfBetter_32 rfl rfl ?_
        refine r_geti 36 dX6_keepIfBetter_33 rfl fX6_39 (by decide) (sh_5 z _) rfl ?_
        refine r_icne 51 39 dX6_keepIfBetter_36 rfl (by decide) (by omega) (by omega) (fun h36 => ?_) (fun h36 => ?_)
        · refine r_iconst 52 dX6_keepIfBetter_51 rfl ?_
          refine r_istore4 54 dX6_keepIfBetter_52 rfl rfl (by decide) ?_
          refine r_iload 56 dX6_keepIfBetter_54 rfl rfl ?_
          refine r_ifeqT 74 0 dX6_keepIfBetter_56 (by decide) (by decide) (by decide) ?_
          first
            | exact r_vret dX6_keepIfBetter_74 rfl (k c (sfr_rfl c) (Or.inr ⟨rfl, by unfold fKy; omega⟩))
            | exact r_vret dX6_keepIfBetter_74 rfl (k _ ⟨fun g hg => by funext i j; simp [cu, hg], by simp [cu], by simp [cu]⟩ (Or.inl ⟨by simp [cu], by simp [cu], by simp [cu], by unfold fKy; simp [cu]; omega⟩))
        · refine r_iloadN 40 dX6_keepIfBetter_39 rfl rfl ?_
          refine r_aloadN 41 dX6_keepIfBetter_40 rfl rfl ?_
          refine r_geti 44 dX6_keepIfBetter_41 rfl fX6_33 (by decide) (sh_5 z _) rfl ?_
          refine r_icge 51 47 dX6_keepIfBetter_44 rfl (by decide) (by omega) (by omega) (fun h44 => ?_) (fun h44 => ?_)
          · refine r_iconst 52 dX6_keepIfBetter_51 rfl ?_
            refine r_istore4 54 dX6_keepIfBetter_52 rfl rfl (by decide) ?_
            refine r_iload 56 dX6_keepIfBetter_54 rfl rfl ?_
            refine r_ifeqT 74 0 dX6_keepIfBetter_56 (by decide) (by decide) (by decide) ?_
            first
              | exact r_vret dX6_keepIfBetter_74 rfl (k c (sfr_rfl c) (Or.inr ⟨rfl, by unfold fKy; omega⟩))
              | exact r_vret dX6_keepIfBetter_74 rfl (k _ ⟨fun g hg => by funext i j; simp [cu, hg], by simp [cu], by simp [cu]⟩ (Or.inl ⟨by simp [cu], by simp [cu], by simp [cu], by unfold fKy; simp [cu]; omega⟩))
          · refine r_iconst 48 dX6_keepIfBetter_47 rfl ?_
            refine r_goto 52 dX6_keepIfBetter_48 (by decide) ?_
            refine r_istore4 54 dX6_keepIfBetter_52 rfl rfl (by decide) ?_
            refine r_iload 56 dX6_keepIfBetter_54 rfl rfl ?_
            refine r_ifeqF 59 dX6_keepIfBetter_56 rfl 74 (by decide) (by decide) (by decide) ?_
            refine r_aloadN 60 dX6_keepIfBetter_59 rfl rfl ?_
            refine r_iloadN 61 dX6_keepIfBetter_60 rfl rfl ?_
            refine r_puti 64 dX6_keepIfBetter_61 rfl pX6_33 (by decide) (sh_5 z _) rfl ?_
            refine r_aloadN 65 dX6_keepIfBetter_64 rfl rfl ?_
            refine r_iloadN 66 dX6_keepIfBetter_65 rfl rfl ?_
            refine r_puti 69 dX6_keepIfBetter_66 rfl pX6_39 (by decide) (sh_5 z _) rfl ?_
            refine r_aloadN 70 dX6_keepIfBetter_69 rfl rfl ?_
            refine r_iloadN 71 dX6_keepIfBetter_70 rfl rfl ?_
            refine r_puti 74 dX6_keepIfBetter_71 rfl pX6_36 (by decide) (sh_5 z _) rfl ?_
            first
              | exact r_vret dX6_keepIfBetter_74 rfl (k c (sfr_rfl c) (Or.inr ⟨rfl, by unfold fKy; omega⟩))
              | exact r_vret dX6_keepIfBetter_74 rfl (k _ ⟨fun g hg => by funext i j; simp [cu, hg], by simp [cu], by simp [cu]⟩ (Or.inl ⟨by simp [cu], by simp [cu], by simp [cu], by unfold fKy; simp [cu]; omega⟩))
  · refine r_iconst 9 dX6_keepIfBetter_8 rfl ?_
    refine r_goto 13 dX6_keepIfBetter_9 (by decide) ?_
    refine r_istore4 15 dX6_keepIfBetter_13 rfl rfl (by decide) ?_
    refine r_iloadN 16 dX6_keepIfBetter_15 rfl rfl ?_
    refine r_aloadN 17 dX6_keepIfBetter_16 rfl rfl ?_
    refine r_geti 20 dX6_keepIfBetter_17 rfl fX6_36 (by decide) (sh_5 z _) rfl ?_
    refine r_icne 54 23 dX6_keepIfBetter_20 rfl (by decide) (by omega) (by omega) (fun h20 => ?_) (fun h20 => ?_)
    · refine r_iload 56 dX6_keepIfBetter_54 rfl rfl ?_
      refine r_ifeqF 59 dX6_keepIfBetter_56 rfl 74 (by decide) (by decide) (by decide) ?_
      refine r_aloadN 60 dX6_keepIfBetter_59 rfl rfl ?_
      refine r_iloadN 61 dX6_keepIfBetter_60 rfl rfl ?_
      refine r_puti 64 dX6_keepIfBetter_61 rfl pX6_33 (by decide) (sh_5 z _) rfl ?_
      refine r_aloadN 65 dX6_keepIfBetter_64 rfl rfl ?_
      refine r_iloadN 66 dX6_keepIfBetter_65 rfl rfl ?_
      refine r_puti 69 dX6_keepIfBetter_66 rfl pX6_39 (by decide) (sh_5 z _) rfl ?_
      refine r_aloadN 70 dX6_keepIfBetter_69 rfl rfl ?_
      refine r_iloadN 71 dX6_keepIfBetter_70 rfl rfl ?_
      refine r_puti 74 dX6_keepIfBetter_71 rfl pX6_36 (by decide) (sh_5 z _) rfl ?_
      first
        | exact r_vret dX6_keepIfBetter_74 rfl (k c (sfr_rfl c) (Or.inr ⟨rfl, by unfold fKy; omega⟩))
        | exact r_vret dX6_keepIfBetter_74 rfl (k _ ⟨fun g hg => by funext i j; simp [cu, hg], by simp [cu], by simp [cu]⟩ (Or.inl ⟨by simp [cu], by simp [cu], by simp [cu], by unfold fKy; simp [cu]; omega⟩))
    · refine r_iloadN 24 dX6_keepIfBetter_23 rfl rfl ?_
      refine r_aloadN 25 dX6_keepIfBetter_24 rfl rfl ?_
      refine r_geti 28 dX6_keepIfBetter_25 rfl fX6_39 (by decide) (sh_5 z _) rfl ?_
      refine r_iclt 47 31 dX6_keepIfBetter_28 rfl (by decide) (by omega) (by omega) (fun h28 => ?_) (fun h28 => ?_)
      · refine r_iconst 48 dX6_keepIfBetter_47 rfl ?_
        refine r_goto 52 dX6_keepIfBetter_48 (by decide) ?_
        refine r_istore4 54 dX6_keepIfBetter_52 rfl rfl (by decide) ?_
        refine r_iload 56 dX6_keepIfBetter_54 rfl rfl ?_
        refine r_ifeqF 59 dX6_keepIfBetter_56 rfl 74 (by decide) (by decide) (by decide) ?_
        refine r_aloadN 60 dX6_keepIfBetter_59 rfl rfl ?_
        refine r_iloadN 61 dX6_keepIfBetter_60 rfl rfl ?_
        refine r_puti 64 dX6_keepIfBetter_61 rfl pX6_33 (by decide) (sh_5 z _) rfl ?_
        refine r_aloadN 65 dX6_keepIfBetter_64 rfl rfl ?_
        refine r_iloadN 66 dX6_keepIfBetter_65 rfl rfl ?_
        refine r_puti 69 dX6_keepIfBetter_66 rfl pX6_39 (by decide) (sh_5 z _) rfl ?_
        refine r_aloadN 70 dX6_keepIfBetter_69 rfl rfl ?_
        refine r_iloadN 71 dX6_keepIfBetter_70 rfl rfl ?_
        refine r_puti 74 dX6_keepIfBetter_71 rfl pX6_36 (by decide) (sh_5 z _) rfl ?_
        first
          | exact r_vret dX6_keepIfBetter_74 rfl (k c (sfr_rfl c) (Or.inr ⟨rfl, by unfold fKy; omega⟩))
          | exact r_vret dX6_keepIfBetter_74 rfl (k _ ⟨fun g hg => by funext i j; simp [cu, hg], by simp [cu], by simp [cu]⟩ (Or.inl ⟨by simp [cu], by simp [cu], by simp [cu], by unfold fKy; simp [cu]; omega⟩))
      · refine r_iloadN 32 dX6_keepIfBetter_31 rfl rfl ?_
        refine r_aloadN 33 dX6_keepIfBetter_32 rfl rfl ?_
        refine r_geti 36 dX6_keepIfBetter_33 rfl fX6_39 (by decide) (sh_5 z _) rfl ?_
        refine r_icne 51 39 dX6_keepIfBetter_36 rfl (by decide) (by omega) (by omega) (fun h36 => ?_) (fun h36 => ?_)
        · refine r_iconst 52 dX6_keepIfBetter_51 rfl ?_
          refine r_istore4 54 dX6_keepIfBetter_52 rfl rfl (by decide) ?_
          refine r_iload 56 dX6_keepIfBetter_54 rfl rfl ?_
          refine r_ifeqT 74 0 dX6_keepIfBetter_56 (by decide) (by decide) (by decide) ?_
          first
            | exact r_vret dX6_keepIfBetter_74 rfl (k c (sfr_rfl c) (Or.inr ⟨rfl, by unfold fKy; omega⟩))
            | exact r_vret dX6_keepIfBetter_74 rfl (k _ ⟨fun g hg => by funext i j; simp [cu, hg], by simp [cu], by simp [cu]⟩ (Or.inl ⟨by simp [cu], by simp [cu], by simp [cu], by unfold fKy; simp [cu]; omega⟩))
        · refine r_iloadN 40 dX6_keepIfBetter_39 rfl rfl ?_
          refine r_aloadN 41 dX6_keepIfBetter_40 rfl rfl ?_
          refine r_geti 44 dX6_keepIfBetter_41 rfl fX6_33 (by decide) (sh_5 z _) rfl ?_
          refine r_icge 51 47 dX6_keepIfBetter_44 rfl (by decide) (by omega) (by omega) (fun h44 => ?_) (fun h44 => ?_)
          · refine r_iconst 52 dX6_keepIfBetter_51 rfl ?_
            refine r_istore4 54 dX6_keepIfBetter_52 rfl rfl (by decide) ?_
            refine r_iload 56 dX6_keepIfBetter_54 rfl rfl ?_
            refine r_ifeqT 74 0 dX6_keepIfBetter_56 (by decide) (by decide) (by decide) ?_
            first
              | exact r_vret dX6_keepIfBetter_74 rfl (k c (sfr_rfl c) (Or.inr ⟨rfl, by unfold fKy; omega⟩))
              | exact r_vret dX6_keepIfBetter_74 rfl (k _ ⟨fun g hg => by funext i j; simp [cu, hg], by simp [cu], by simp [cu]⟩ (Or.inl ⟨by simp [cu], by simp [cu], by simp [cu], by unfold fKy; simp [cu]; omega⟩))
          · refine r_iconst 48 dX6_keepIfBetter_47 rfl ?_
            refine r_goto 52 dX6_keepIfBetter_48 (by decide) ?_
            refine r_istore4 54 dX6_keepIfBetter_52 rfl rfl (by decide) ?_
            refine r_iload 56 dX6_keepIfBetter_54 rfl rfl ?_
            refine r_ifeqF 59 dX6_keepIfBetter_56 rfl 74 (by decide) (by decide) (by decide) ?_
            refine r_aloadN 60 dX6_keepIfBetter_59 rfl rfl ?_
            refine r_iloadN 61 dX6_keepIfBetter_60 rfl rfl ?_
            refine r_puti 64 dX6_keepIfBetter_61 rfl pX6_33 (by decide) (sh_5 z _) rfl ?_
            refine r_aloadN 65 dX6_keepIfBetter_64 rfl rfl ?_
            refine r_iloadN 66 dX6_keepIfBetter_65 rfl rfl ?_
            refine r_puti 69 dX6_keepIfBetter_66 rfl pX6_39 (by decide) (sh_5 z _) rfl ?_
            refine r_aloadN 70 dX6_keepIfBetter_69 rfl rfl ?_
            refine r_iloadN 71 dX6_keepIfBetter_70 rfl rfl ?_
            refine r_puti 74 dX6_keepIfBetter_71 rfl pX6_36 (by decide) (sh_5 z _) rfl ?_
            first
              | exact r_vret dX6_keepIfBetter_74 rfl (k c (sfr_rfl c) (Or.inr ⟨rfl, by unfold fKy; omega⟩))
              | exact r_vret dX6_keepIfBetter_74 rfl (k _ ⟨fun g hg => by funext i j; simp [cu, hg], by simp [cu], by simp [cu]⟩ (Or.inl ⟨by simp [cu], by simp [cu], by simp [cu], by unfold fKy; simp [cu]; omega⟩))
theorem x_choose0 {z : xZ} {d : Nat} {Q : tQ} {L : tL} {n wc nx X rd : Nat} {bu pr : Int} {W : Nat → Nat} {c : tC} (hR : RX c) (hn : c 50 0 2 = (n : Int)) (h3 : c 5 0 3 = (wc : Int)) (hwc : wc ≤ 12) (h4 : c 5 0 4 = bu) (hbu : 0 ≤ bu ∧ bu ≤ 999) (hW : ∀ i, i < wc → c 7 0 i = (W i : Int) ∧ W i < 2 ^ n) (hWa : ∀ i, i < wc → ∀ s, (W i).testBit s = true → fTalk (c 51) s = false) (hB : fBst c W wc n bu)  (hnx : nx + 0 = wc) (hX : X < 2 ^ n) (hXa : ∀ s, X.testBit s = true → fTalk (c 51) s = false) (hpr : pr = fPr (c 51) X n) (hrd : rd ≤ cntN (fun i => decide (W i ||| X = X)) nx) (k : ∀ c2 : tC, sfr c c2 → fBst c2 W wc n bu → fKy c ≤ fKy c2 → (∀ U, U < 2 ^ n → X ||| U = U → fPr (c 51) U n ≤ bu → U = X ||| wOr W U nx 0 → ((rd : Int) + (wCt W U nx 0 : Nat)) * 1000000000 - fPr (c 51) U n * 100000 - U ≤ fKy c2) → Q none c2 L) : En z (d + 3) MX6_choose Q 0 [some (.ref (xad z 5 0)), some (.int (iI (nx : Int))), some (.int (iI (X : Int))), some (.int (iI pr)), some (.int (iI (rd : Int))), none] [] c L := by
  have hg := R0_rng hR
  have hA25 : ∀ s, s < n → 0 ≤ c 51 25 s ∧ c 51 25 s ≤ 99 := fun s hs => (R0_src hR s (by omega)).2.2.2.2.2.2.2.2.1
  have hp14 : (2 : Nat) ^ n ≤ 2 ^ 14 := Nat.pow_le_pow_right (by decide) (by omega)
  have hprb := fPr_rng hA25 X n (Nat.le_refl _)
  obtain ⟨Y, hY1, hY2, hY3, hY4, hY5, hY6, hY7⟩ := id hB
  have hYb := fPr_rng hA25 Y n (Nat.le_refl _)
  have hYc := cntN_le (fun i => decide (W i ||| Y = Y)) wc
  have hrdb := cntN_le (fun i => decide (W i ||| X = X)) nx
  refine r_iloadN 1 dX6_choose_0 rfl rfl ?_
  refine r_aloadN 2 dX6_choose_1 rfl rfl ?_
  refine r_geti 5 dX6_choose_2 rfl fX6_30 (by decide) (sh_5 z _) rfl ?_
  refine r_icgt 24 8 dX6_choose_5 rfl (by decide) (by omega) (by omega) (fun h5 => ?_) (fun h5 => ?_)
  · refine r_vret dX6_choose_24 rfl (k c (sfr_rfl c) hB (Int.le_refl _) ?_)
    intro U hU hXU hpU hcl
    have hm := fPr_mono hA25 hXU n (Nat.le_refl _)
    have hUb := fPr_rng hA25 U n (Nat.le_refl _)
    have hct := wCt_le W U 0 nx
    first
      | (exfalso; omega)
      | (unfold fKy; omega)
  · refine r_iload 10 dX6_choose_8 rfl rfl ?_
    refine r_aloadN 11 dX6_choose_10 rfl rfl ?_
    refine r_geti 14 dX6_choose_11 rfl fX6_26 (by decide) (sh_5 z _) rfl ?_
    refine r_iadd 15 dX6_choose_14 rfl ?_
    refine r_iloadN 16 dX6_choose_15 rfl rfl ?_
    refine r_isub 17 dX6_choose_16 rfl ?_
    refine r_aloadN 18 dX6_choose_17 rfl rfl ?_
    refine r_geti 21 dX6_choose_18 rfl fX6_36 (by decide) (sh_5 z _) rfl ?_
    refine r_icge 25 24 dX6_choose_21 rfl (by decide) (by omega) (by omega) (fun h21 => ?_) (fun h21 => ?_)
    · refine r_iloadN 26 dX6_choose_25 rfl rfl ?_
      refine r_aloadN 27 dX6_choose_26 rfl rfl ?_
      refine r_geti 30 dX6_choose_27 rfl fX6_26 (by decide) (sh_5 z _) rfl ?_
      refine r_iclt 42 33 dX6_choose_30 rfl (by decide) (by omega) (by omega) (fun h30 => ?_) (fun h30 => ?_)
      · exfalso; omega
      · refine r_aloadN 34 dX6_choose_33 rfl rfl ?_
        refine r_iloadN 35 dX6_choose_34 rfl rfl ?_
        refine r_iloadN 36 dX6_choose_35 rfl rfl ?_
        refine r_iload 38 dX6_choose_36 rfl rfl ?_
        refine r_cv3 41 dX6_choose_38 rfl gX6_122 rfl (by decide) (sh_5 z _) rfl rfl (Nat.le_of_ble_eq_true rfl) (Nat.le_of_ble_eq_true rfl) rfl ?_
        refine x_keep (by omega) (by omega) (fun c2 f2 o2 => ?_)
        refine r_vret dX6_choose_41 rfl (k c2 f2 ?_ ?_ ?_)
        · rcases o2 with ⟨a1, a2, a3, a4⟩ | ⟨a1, a2⟩
          · refine ⟨X, hX, a1, by rw [a2, hpr, f2.1 51 (by decide)], by omega, ?_, by omega, fun s hs => by rw [f2.1 51 (by decide)]; exact hXa s hs⟩
            rw [a3, ← show nx = wc by omega]
            omega
          · rw [a1]; exact hB
        · rcases o2 with ⟨a1, a2, a3, a4⟩ | ⟨a1, a2⟩
          · exact a4
          · rw [a1]; exact Int.le_refl _
        · intro U hU hXU hpU hcl
          have e : U = X := by rw [hcl]; exact Nat.or_zero X
          subst e
          show ((rd : Int) + (0 : Nat)) * 1000000000 - fPr (c 51) U n * 100000 - U ≤ fKy c2
          rcases o2 with ⟨a1, a2, a3, a4⟩ | ⟨a1, a2⟩
          · unfold fKy; omega
          · rw [a1]; omega
    · refine r_vret dX6_choose_24 rfl (k c (sfr_rfl c) hB (Int.le_refl _) ?_)
      intro U hU hXU hpU hcl
      have hm := fPr_mono hA25 hXU n (Nat.le_refl _)
      have hUb := fPr_rng hA25 U n (Nat.le_refl _)
      have hct := wCt_le W U 0 nx
      first
        | (exfalso; omega)
        | (unfold fKy; omega)
theorem x_choose {z : xZ} {d : Nat} {L : tL} {n wc : Nat} {bu : Int} {W : Nat → Nat} : ∀ (r : Nat) (Q : tQ) (c : tC) (nx X rd : Nat) (pr : Int) (hR : RX c) (hn : c 50 0 2 = (n : Int)) (h3 : c 5 0 3 = (wc : Int)) (hwc : wc ≤ 12) (h4 : c 5 0 4 = bu) (hbu : 0 ≤ bu ∧ bu ≤ 999) (hW : ∀ i, i < wc → c 7 0 i = (W i : Int) ∧ W i < 2 ^ n) (hWa : ∀ i, i < wc → ∀ s, (W i).testBit s = true → fTalk (c 51) s = false) (hB : fBst c W wc n bu)  (hnx : nx + r = wc) (hX : X < 2 ^ n) (hXa : ∀ s, X.testBit s = true → fTalk (c 51) s = false) (hpr : pr = fPr (c 51) X n) (hrd : rd ≤ cntN (fun i => decide (W i ||| X = X)) nx) (k : ∀ c2 : tC, sfr c c2 → fBst c2 W wc n bu → fKy c ≤ fKy c2 → (∀ U, U < 2 ^ n → X ||| U = U → fPr (c 51) U n ≤ bu → U = X ||| wOr W U nx r → ((rd : Int) + (wCt W U nx r : Nat)) * 1000000000 - fPr (c 51) U n * 100000 - U ≤ fKy c2) → Q none c2 L), En z (d + r + 3) MX6_choose Q 0 [some (.ref (xad z 5 0)), some (.int (iI (nx : Int))), some (.int (iI (X : Int))), some (.int (iI pr)), some (.int (iI (rd : Int))), none] [] c L := by
  intro r
  induction r with
  | zero => intro Q c nx X rd pr hR hn h3 hwc h4 hbu hW hWa hB hnx hX hXa hpr hrd k; exact x_choose0 hR hn h3 hwc h4 hbu hW hWa hB hnx hX hXa hpr hrd k
  | succ r ih =>
  intro Q c nx X rd pr hR hn h3 hwc h4 hbu hW hWa hB hnx hX hXa hpr hrd k
  rw [show d + (r + 1) + 3 = d + r + 3 + 1 by omega]
  have hg := R0_rng hR
  have hA25 : ∀ s, s < n → 0 ≤ c 51 25 s ∧ c 51 25 s ≤ 99 := fun s hs => (R0_src hR s (by omega)).2.2.2.2.2.2.2.2.1
  have hp14 : (2 : Nat) ^ n ≤ 2 ^ 14 := Nat.pow_le_pow_right (by decide) (by omega)
  have hprb := fPr_rng hA25 X n (Nat.le_refl _)
  obtain ⟨Y, hY1, hY2, hY3, hY4, hY5, hY6, hY7⟩ := id hB
  have hYb := fPr_rng hA25 Y n (Nat.le_refl _)
  have hYc := cntN_le (fun i => decide (W i ||| Y = Y)) wc
  have hrdb := cntN_le (fun i => decide (W i ||| X = X)) nx
  have hW1 := hW nx (by omega)
  have hW31 : W nx < 2 ^ 31 := by omega
  have hX31 : X < 2 ^ 31 := by omega
  have hmo : X ||| nand (W nx) X = X ||| W nx := nand_or hW31
  have hmlt : nand (W nx) X < 2 ^ n := nand_lt X _ hW1.2
  have hXW : X ||| W nx < 2 ^ n := Nat.or_lt_two_pow hX hW1.2
  refine r_iloadN 1 dX6_choose_0 rfl rfl ?_
  refine r_aloadN 2 dX6_choose_1 rfl rfl ?_
  refine r_geti 5 dX6_choose_2 rfl fX6_30 (by decide) (sh_5 z _) rfl ?_
  refine r_icgt 24 8 dX6_choose_5 rfl (by decide) (by omega) (by omega) (fun h5 => ?_) (fun h5 => ?_)
  · refine r_vret dX6_choose_24 rfl (k c (sfr_rfl c) hB (Int.le_refl _) ?_)
    intro U hU hXU hpU hcl
    have hm := fPr_mono hA25 hXU n (Nat.le_refl _)
    have hUb := fPr_rng hA25 U n (Nat.le_refl _)
    have hct := wCt_le W U (r + 1) nx
    first
      | (exfalso; omega)
      | (unfold fKy; omega)
  · refine r_iload 10 dX6_choose_8 rfl rfl ?_
    refine r_aloadN 11 dX6_choose_10 rfl rfl ?_
    refine r_geti 14 dX6_choose_11 rfl fX6_26 (by decide) (sh_5 z _) rfl ?_
    refine r_iadd 15 dX6_choose_14 rfl ?_
    refine r_iloadN 16 dX6_choose_15 rfl rfl ?_
    refine r_isub 17 dX6_choose_16 rfl ?_
    refine r_aloadN 18 dX6_choose_17 rfl rfl ?_
    refine r_geti 21 dX6_choose_18 rfl fX6_36 (by decide) (sh_5 z _) rfl ?_
    refine r_icge 25 24 dX6_choose_21 rfl (by decide) (by omega) (by omega) (fun h21 => ?_) (fun h21 => ?_)
    · refine r_iloadN 26 dX6_choose_25 rfl rfl ?_
      refine r_aloadN 27 dX6_choose_26 rfl rfl ?_
      refine r_geti 30 dX6_choose_27 rfl fX6_26 (by decide) (sh_5 z _) rfl ?_
      refine r_iclt 42 33 dX6_choose_30 rfl (by decide) (by omega) (by omega) (fun h30 => ?_) (fun h30 => ?_)
      · refine r_aloadN 43 dX6_choose_42 rfl rfl ?_
        refine r_getq 46 dX6_choose_43 rfl fX6_22 (by decide) (sh_5 z _) rfl ?_
        refine r_iloadN 47 dX6_choose_46 rfl rfl ?_
        refine r_iald 48 dX6_choose_47 (nx) rfl rfl (by decide) (sh_7 z _) (by decide) (by omega) (by omega) ?_
        refine r_iloadN 49 dX6_choose_48 rfl rfl ?_
        refine r_iconst 50 dX6_choose_49 rfl ?_
        refine r_ixor 51 dX6_choose_50 rfl ?_
        refine r_iand 52 dX6_choose_51 rfl ?_
        rw [hW1.1, inot_nat hW31 hX31]
        refine r_istore5 54 dX6_choose_52 rfl rfl (by decide) ?_
        refine r_aloadN 55 dX6_choose_54 rfl rfl ?_
        refine r_iloadN 56 dX6_choose_55 rfl rfl ?_
        refine r_iconst 57 dX6_choose_56 rfl ?_
        refine r_iadd 58 dX6_choose_57 rfl ?_
        refine r_iloadN 59 dX6_choose_58 rfl rfl ?_
        refine r_iload 61 dX6_choose_59 rfl rfl ?_
        refine r_ior 62 dX6_choose_61 rfl ?_
        rw [ior_nat hX31 (by omega)]
        refine r_iloadN 63 dX6_choose_62 rfl rfl ?_
        refine r_aloadN 64 dX6_choose_63 rfl rfl ?_
        refine r_iload 66 dX6_choose_64 rfl rfl ?_
        refine r_cv1 69 dX6_choose_66 rfl gX6_126 rfl (by decide) (sh_5 z _) rfl rfl (Nat.le_of_ble_eq_true rfl) (Nat.le_of_ble_eq_true rfl) rfl ?_
        refine x_priceOf hR hn (X := nand (W nx) X) (by omega) (fun r66 e66 => ?_)
        refine r_iadd 70 dX6_choose_69 rfl ?_
        refine r_iload 72 dX6_choose_70 rfl rfl ?_
        refine r_iconst 73 dX6_choose_72 rfl ?_
        refine r_iadd 74 dX6_choose_73 rfl ?_
        refine r_cv4 77 dX6_choose_74 rfl gX6_118 rfl (by decide) (sh_5 z _) rfl rfl (Nat.le_of_ble_eq_true rfl) (Nat.le_of_ble_eq_true rfl) rfl ?_
        refine ih _ c (nx + 1) (X ||| nand (W nx) X) (rd + 1) (pr + r66) hR hn h3 hwc h4 hbu hW hWa hB (by omega) (by rw [hmo]; exact hXW) (fun s hs => by
        rw [hmo, Nat.testBit_or, Bool.or_eq_true] at hs
        exact hs.elim (hXa s) (hWa nx (by omega) s)) (by rw [e66, hpr, fPr_or (nand_dis hW31)]) (by
        rw [cntN, if_pos (by rw [hmo]; exact decide_eq_true (sb_r _ _))]
        have := cntN_mono (f := fun i => decide (W i ||| X = X)) (g := fun i => decide (W i ||| (X ||| nand (W nx) X) = X ||| nand (W nx) X)) (n := nx) (fun i hi q => decide_eq_true (sb_trans (of_decide_eq_true q) (sb_l _ _)))
        omega) (fun c2 f2 B2 K2 A2 => ?_)
        refine r_iload 79 dX6_choose_77 rfl rfl ?_
        refine r_ifeq 93 82 dX6_choose_79 rfl (by decide) (by omega) (fun h79 => ?_) (fun h79 => ?_)
        · first
            | (refine r_vret dX6_choose_93 rfl (k c3 (sfr_trans f2 f3) B3 (Int.le_trans K2 K3) ?_)
               intro U hU hXU hpU hcl
               by_cases e : W nx ||| U = U
               · rw [wOr, if_pos e] at hcl
                 have h := A2 U hU (by rw [hmo]; exact sb_or hXU e) hpU (by rw [hmo, Nat.or_assoc]; exact hcl)
                 rw [wCt, if_pos e]
                 omega
               · rw [wOr, if_neg e, Nat.zero_or] at hcl
                 have h := A3 U hU hXU (by rw [f2.1 51 (by decide)]; exact hpU) hcl
                 rw [f2.1 51 (by decide)] at h
                 rw [wCt, if_neg e, Nat.zero_add]
                 exact h)
            | (refine r_vret dX6_choose_93 rfl (k c2 f2 B2 K2 ?_)
               intro U hU hXU hpU hcl
               have e : W nx ||| U = U := sb_trans ((nand_zero hW31).mp (by omega)) hXU
               rw [wOr, if_pos e] at hcl
               have h := A2 U hU (by rw [hmo]; exact sb_or hXU e) hpU (by rw [hmo, Nat.or_assoc]; exact hcl)
               rw [wCt, if_pos e]
               omega)
        · refine r_aloadN 83 dX6_choose_82 rfl rfl ?_
          refine r_iloadN 84 dX6_choose_83 rfl rfl ?_
          refine r_iconst 85 dX6_choose_84 rfl ?_
          refine r_iadd 86 dX6_choose_85 rfl ?_
          refine r_iloadN 87 dX6_choose_86 rfl rfl ?_
          refine r_iloadN 88 dX6_choose_87 rfl rfl ?_
          refine r_iload 90 dX6_choose_88 rfl rfl ?_
          refine r_cv4 93 dX6_choose_90 rfl gX6_118 rfl (by decide) (sh_5 z _) rfl rfl (Nat.le_of_ble_eq_true rfl) (Nat.le_of_ble_eq_true rfl) rfl ?_
          refine ih _ c2 (nx + 1) X rd _ (kfr_RX (sfr_k f2) hR) (by rw [f2.1 50 (by decide)]; exact hn) (by rw [f2.2.1]; exact h3) hwc (by rw [f2.2.2]; exact h4) hbu (fun i hi => by rw [f2.1 7 (by decide)]; exact hW i hi) (fun i hi => by rw [f2.1 51 (by decide)]; exact hWa i hi) B2 (by omega) hX (by rw [f2.1 51 (by decide)]; exact hXa) (by rw [f2.1 51 (by decide)]; exact hpr) (by rw [cntN]; omega) (fun c3 f3 B3 K3 A3 => ?_)
          first
            | (refine r_vret dX6_choose_93 rfl (k c3 (sfr_trans f2 f3) B3 (Int.le_trans K2 K3) ?_)
               intro U hU hXU hpU hcl
               by_cases e : W nx ||| U = U
               · rw [wOr, if_pos e] at hcl
                 have h := A2 U hU (by rw [hmo]; exact sb_or hXU e) hpU (by rw [hmo, Nat.or_assoc]; exact hcl)
                 rw [wCt, if_pos e]
                 omega
               · rw [wOr, if_neg e, Nat.zero_or] at hcl
                 have h := A3 U hU hXU (by rw [f2.1 51 (by decide)]; exact hpU) hcl
                 rw [f2.1 51 (by decide)] at h
                 rw [wCt, if_neg e, Nat.zero_add]
                 exact h)
            | (refine r_vret dX6_choose_93 rfl (k c2 f2 B2 K2 ?_)
               intro U hU hXU hpU hcl
               have e : W nx ||| U = U := sb_trans ((nand_zero hW31).mp (by omega)) hXU
               rw [wOr, if_pos e] at hcl
               have h := A2 U hU (by rw [hmo]; exact sb_or hXU e) hpU (by rw [hmo, Nat.or_assoc]; exact hcl)
               rw [wCt, if_pos e]
               omega)
      · exfalso; omega
    · refine r_vret dX6_choose_24 rfl (k c (sfr_rfl c) hB (Int.le_refl _) ?_)
      intro U hU hXU hpU hcl
      have hm := fPr_mono hA25 hXU n (Nat.le_refl _)
      have hUb := fPr_rng hA25 U n (Nat.le_refl _)
      have hct := wCt_le W U (r + 1) nx
      first
        | (exfalso; omega)
        | (unfold fKy; omega)
