theorem x_airborne_loop {z : xZ} {d : Nat} {Q : tQ} {c : tC} {L : tL} {n : Nat} (hR : RX c) (hn : c 50 0 2 = (n : Int)) (kk : ∀ r, r = ((mkN (fun s => !fTalk (c 51) s) n : Nat) : Int) → Q (some (.int (iI r))) c L) : ∀ (k i : Nat) (m : Int), i + k = n → m = ((mkN (fun s => !fTalk (c 51) s) i : Nat) : Int) → En z (d + 2) MX9_airborne Q 4 [some (.ref (xad z 8 0)), some (.int (iI m)), some (.int (iI (i : Int)))] [] c L := by
  have hg := R0_rng hR
  have hc := R0_scal hR
  intro k
  induction k with
  | zero =>
    intro i m hi hm
    refine r_iloadN 5 dX9_airborne_4 rfl rfl ?_
    refine r_aloadN 6 dX9_airborne_5 rfl rfl ?_
    refine r_geti 9 dX9_airborne_6 rfl fX9_18 (by decide) (sh_8 z _) rfl ?_
    refine r_icge 37 12 dX9_airborne_9 rfl (by decide) (by omega) (by omega) (fun h9 => ?_) (fun h9 => ?_)
    · refine r_iloadN 38 dX9_airborne_37 rfl rfl ?_
      refine r_ret dX9_airborne_38 rfl (kk _ ?_)
      rw [hm, show i = n by omega]
    · exfalso; omega
  | succ k ih =>
    intro i m hi hm
    refine r_iloadN 5 dX9_airborne_4 rfl rfl ?_
    refine r_aloadN 6 dX9_airborne_5 rfl rfl ?_
    refine r_geti 9 dX9_airborne_6 rfl fX9_18 (by decide) (sh_8 z _) rfl ?_
    refine r_icge 37 12 dX9_airborne_9 rfl (by decide) (by omega) (by omega) (fun h9 => ?_) (fun h9 => ?_)
    · exfalso; omega
    · refine r_aloadN 13 dX9_airborne_12 rfl rfl ?_
      refine r_getq 16 dX9_airborne_13 rfl fX9_38 (by decide) (sh_8 z _) rfl ?_
      refine r_iloadN 17 dX9_airborne_16 rfl rfl ?_
      refine r_aald 18 dX9_airborne_17 (i) rfl rfl (by decide) (sh_10a z) rfl (by decide) (by omega) (by omega) ?_
      refine r_cv0 21 dX9_airborne_18 rfl gX9_180 rfl (ct_13 (by omega)) (sh_13 z _) rfl rfl (Nat.le_of_ble_eq_true rfl) (Nat.le_of_ble_eq_true rfl) rfl ?_
      refine x_isAirborne hR (s := i) (by omega) (fun y18 => ?_) (fun y18 => ?_)
      · refine r_ifeqF 24 dX9_airborne_21 rfl 31 (by decide) (by decide) (by decide) ?_
        refine r_iloadN 25 dX9_airborne_24 rfl rfl ?_
        refine r_iloadN 26 dX9_airborne_25 rfl rfl ?_
        refine r_cs1 29 dX9_airborne_26 rfl gX9_100 (Nat.le_of_ble_eq_true rfl) (Nat.le_of_ble_eq_true rfl) rfl ?_
        refine x_bit (by omega) ?_
        refine r_ior 30 dX9_airborne_29 rfl ?_
        refine r_istore1 31 dX9_airborne_30 rfl rfl (by decide) ?_
        refine r_iinc2 34 dX9_airborne_31 rfl rfl (by decide) ?_
        refine r_goto 4 dX9_airborne_34 (by decide) ?_
        refine ih (i + 1) _ (by omega) ?_
        first
          | exact ior_step (by omega) hm (by show (!fTalk (c 51) i) = true; rw [y18]; rfl)
          | exact mkN_skip hm (by show (!fTalk (c 51) i) = false; rw [y18]; rfl)
      · refine r_ifeqT 31 0 dX9_airborne_21 (by decide) (by decide) (by decide) ?_
        refine r_iinc2 34 dX9_airborne_31 rfl rfl (by decide) ?_
        refine r_goto 4 dX9_airborne_34 (by decide) ?_
        refine ih (i + 1) _ (by omega) ?_
        first
          | exact ior_step (by omega) hm (by show (!fTalk (c 51) i) = true; rw [y18]; rfl)
          | exact mkN_skip hm (by show (!fTalk (c 51) i) = false; rw [y18]; rfl)
theorem x_airborne {z : xZ} {d : Nat} {Q : tQ} {c : tC} {L : tL} {n : Nat} (hR : RX c) (hn : c 50 0 2 = (n : Int)) (k : ∀ r, r = ((mkN (fun s => !fTalk (c 51) s) n : Nat) : Int) → Q (some (.int (iI r))) c L) : En z (d + 2) MX9_airborne Q 0 [some (.ref (xad z 8 0)), none, none] [] c L := by
  refine r_iconst 1 dX9_airborne_0 rfl ?_
  refine r_istore1 2 dX9_airborne_1 rfl rfl (by decide) ?_
  refine r_iconst 3 dX9_airborne_2 rfl ?_
  refine r_istore2 4 dX9_airborne_3 rfl rfl (by decide) ?_
  exact x_airborne_loop hR hn k n 0 _ (by omega) rfl
def fNear (A : sA) (t : Int) (s : Nat) : Bool := decide (max (t - A 21 s) (A 21 s - t) ≤ A 11 4)
theorem x_nearTo_loop {z : xZ} {d : Nat} {Q : tQ} {c : tC} {L : tL} {n : Nat} {t : Int} (hR : RX c) (hn : c 50 0 2 = (n : Int)) (ht : 0 ≤ t ∧ t ≤ 99) (kk : ∀ r, r = ((mkN (fNear (c 51) t) n : Nat) : Int) → Q (some (.int (iI r))) c L) : ∀ (k i : Nat) (m : Int), i + k = n → m = ((mkN (fNear (c 51) t) i : Nat) : Int) → En z (d + 2) MX9_nearTo Q 4 [some (.ref (xad z 8 0)), some (.int (iI t)), some (.int (iI m)), some (.int (iI (i : Int)))] [] c L := by
  have hg := R0_rng hR
  have hc := R0_scal hR
  have hlw := R0_law hR
  intro k
  induction k with
  | zero =>
    intro i m hi hm
    refine r_iloadN 5 dX9_nearTo_4 rfl rfl ?_
    refine r_aloadN 6 dX9_nearTo_5 rfl rfl ?_
    refine r_geti 9 dX9_nearTo_6 rfl fX9_18 (by decide) (sh_8 z _) rfl ?_
    refine r_icge 48 12 dX9_nearTo_9 rfl (by decide) (by omega) (by omega) (fun h9 => ?_) (fun h9 => ?_)
    · refine r_iloadN 49 dX9_nearTo_48 rfl rfl ?_
      refine r_ret dX9_nearTo_49 rfl (kk _ ?_)
      rw [hm, show i = n by omega]
    · exfalso; omega
  | succ k ih =>
    intro i m hi hm
    refine r_iloadN 5 dX9_nearTo_4 rfl rfl ?_
    refine r_aloadN 6 dX9_nearTo_5 rfl rfl ?_
    refine r_geti 9 dX9_nearTo_6 rfl fX9_18 (by decide) (sh_8 z _) rfl ?_
    refine r_icge 48 12 dX9_nearTo_9 rfl (by decide) (by omega) (by omega) (fun h9 => ?_) (fun h9 => ?_)
    · exfalso; omega
    · refine r_iloadN 13 dX9_nearTo_12 rfl rfl ?_
      refine r_aloadN 14 dX9_nearTo_13 rfl rfl ?_
      refine r_getq 17 dX9_nearTo_14 rfl fX9_38 (by decide) (sh_8 z _) rfl ?_
      refine r_iloadN 18 dX9_nearTo_17 rfl rfl ?_
      refine r_aald 19 dX9_nearTo_18 (i) rfl rfl (by decide) (sh_10a z) rfl (by decide) (by omega) (by omega) ?_
      refine r_geti 22 dX9_nearTo_19 rfl fX9_111 (ct_13 (by omega)) (sh_13 z _) rfl ?_
      have hqi := R0_src hR i (by omega)
      refine r_isub 23 dX9_nearTo_22 rfl ?_
      refine r_abs 26 dX9_nearTo_23 rfl (gX9_217) (Nat.le_of_ble_eq_true rfl) (by omega) ?_
      refine r_aloadN 27 dX9_nearTo_26 rfl rfl ?_
      refine r_getq 30 dX9_nearTo_27 rfl fX9_69 (by decide) (sh_8 z _) rfl ?_
      refine r_iconst 31 dX9_nearTo_30 rfl ?_
      refine r_iald 32 dX9_nearTo_31 (4) rfl rfl (by decide) (sh_27 z _) (by decide) (by omega) (by omega) ?_
      refine r_icgt 42 35 dX9_nearTo_32 rfl (by decide) (by omega) (by omega) (fun h32 => ?_) (fun h32 => ?_)
      · refine r_iinc3 45 dX9_nearTo_42 rfl rfl (by decide) ?_
        refine r_goto 4 dX9_nearTo_45 (by decide) ?_
        refine ih (i + 1) _ (by omega) ?_
        have hqi := R0_src hR i (by omega)
        first
          | exact ior_step (by omega) hm (decide_eq_true (by omega))
          | exact mkN_skip hm (decide_eq_false (by omega))
      · refine r_iloadN 36 dX9_nearTo_35 rfl rfl ?_
        refine r_iloadN 37 dX9_nearTo_36 rfl rfl ?_
        refine r_cs1 40 dX9_nearTo_37 rfl gX9_100 (Nat.le_of_ble_eq_true rfl) (Nat.le_of_ble_eq_true rfl) rfl ?_
        refine x_bit (by omega) ?_
        refine r_ior 41 dX9_nearTo_40 rfl ?_
        refine r_istore2 42 dX9_nearTo_41 rfl rfl (by decide) ?_
        refine r_iinc3 45 dX9_nearTo_42 rfl rfl (by decide) ?_
        refine r_goto 4 dX9_nearTo_45 (by decide) ?_
        refine ih (i + 1) _ (by omega) ?_
        have hqi := R0_src hR i (by omega)
        first
          | exact ior_step (by omega) hm (decide_eq_true (by omega))
          | exact mkN_skip hm (decide_eq_false (by omega))
theorem x_nearTo {z : xZ} {d : Nat} {Q : tQ} {c : tC} {L : tL} {n : Nat} {t : Int} (hR : RX c) (hn : c 50 0 2 = (n : Int)) (ht : 0 ≤ t ∧ t ≤ 99) (k : ∀ r, r = ((mkN (fNear (c 51) t) n : Nat) : Int) → Q (some (.int (iI r))) c L) : En z (d + 2) MX9_nearTo Q 0 [some (.ref (xad z 8 0)), some (.int (iI t)), none, none] [] c L := by
  refine r_iconst 1 dX9_nearTo_0 rfl ?_
  refine r_istore2 2 dX9_nearTo_1 rfl rfl (by decide) ?_
  refine r_iconst 3 dX9_nearTo_2 rfl ?_
  refine r_istore3 4 dX9_nearTo_3 rfl rfl (by decide) ?_
  exact x_nearTo_loop hR hn ht k n 0 _ (by omega) rfl
def fLack (A : sA) (p : Nat) (spot : Int) : Nat → Int
  | 0 => -1
  | n + 1 => if fTalk A n = true then fLack A p spot n else if fLack A p spot n = -1 then max 0 (fNeed A p (A 21 n) - fLvl A n spot) else min (fLack A p spot n) (max 0 (fNeed A p (A 21 n) - fLvl A n spot))
theorem fNeed_bd {c : tC} (hR : RX c) {p : Nat} (hp : (p : Int) < c 50 0 1) {t : Int} (ht : 0 ≤ t ∧ t ≤ 99) : 0 ≤ fNeed (c 51) p t ∧ fNeed (c 51) p t ≤ 100000 := by
  have hpp := R0_per hR p hp
  unfold fNeed
  have h1 : 0 ≤ max (c 51 15 p - t) (t - c 51 15 p) ∧ max (c 51 15 p - t) (t - c 51 15 p) ≤ 100 := by omega
  have h2 := Int.mul_nonneg (show 0 ≤ c 51 17 p by omega) h1.1
  have h3 := Int.mul_le_mul (show c 51 17 p ≤ 9 by omega) h1.2 h1.1 (by decide : (0 : Int) ≤ 9)
  omega
theorem fLack_bd {c : tC} (hR : RX c) {n p sp : Nat} (hn : c 50 0 2 = (n : Int)) (hp : (p : Int) < c 50 0 1) (hsp : sp < 64) : ∀ i, i ≤ n → -1 ≤ fLack (c 51) p (sp : Int) i ∧ fLack (c 51) p (sp : Int) i ≤ 1000000 := by
  intro i
  induction i with
  | zero => intro _; exact ⟨Int.le_refl _, by show (-1 : Int) ≤ 1000000; decide⟩
  | succ i ih =>
    intro hi
    have h1 := ih (by omega)
    have hq := R0_src hR i (by omega)
    have h2 := fNeed_bd hR hp (t := c 51 21 i) (by omega)
    have h3 := fLvl_bd hR hn (show i < n by omega) hsp
    rw [fLack]
    (repeat' split) <;> omega
theorem x_lack_loop {z : xZ} {d : Nat} {Q : tQ} {c : tC} {L : tL} {n p sp : Nat} (hR : RX c) (hn : c 50 0 2 = (n : Int)) (hp : (p : Int) < c 50 0 1) (hsp : c 51 14 p = (sp : Int)) (kk : ∀ r, r = fLack (c 51) p (c 51 14 p) n → Q (some (.int (iI r))) c L) : ∀ (k i : Nat) (m : Int) (v5 : Option Value), i + k = n → m = fLack (c 51) p (sp : Int) i → En z (d + 4) MX9_lackOf Q 12 [some (.ref (xad z 8 0)), some (.int (iI (p : Int))), some (.ref (xad z 12 p)), some (.int (iI m)), some (.int (iI (i : Int))), v5] [] c L := by
  have hg := R0_rng hR
  have hc := R0_scal hR
  have hpp := R0_per hR p hp
  intro k
  induction k with
  | zero =>
    intro i m v5 hi hm
    have hb := fLack_bd hR hn hp (show sp < 64 by omega) i (by omega)
    refine r_iload 14 dX9_lackOf_12 rfl rfl ?_
    refine r_aloadN 15 dX9_lackOf_14 rfl rfl ?_
    refine r_geti 18 dX9_lackOf_15 rfl fX9_18 (by decide) (sh_8 z _) rfl ?_
    refine r_icge 88 21 dX9_lackOf_18 rfl (by decide) (by omega) (by omega) (fun h18 => ?_) (fun h18 => ?_)
    · refine r_iloadN 89 dX9_lackOf_88 rfl rfl ?_
      refine r_ret dX9_lackOf_89 rfl (kk _ ?_)
      rw [hm, show i = n by omega, hsp]
    · exfalso; omega
  | succ k ih =>
    intro i m v5 hi hm
    have hb := fLack_bd hR hn hp (show sp < 64 by omega) i (by omega)
    have hqi := R0_src hR i (by omega)
    have hlv := fLvl_bd hR hn (show i < n by omega) (show sp < 64 by omega)
    have hnd := fNeed_bd hR hp (t := c 13 i 2) (by omega)
    refine r_iload 14 dX9_lackOf_12 rfl rfl ?_
    refine r_aloadN 15 dX9_lackOf_14 rfl rfl ?_
    refine r_geti 18 dX9_lackOf_15 rfl fX9_18 (by decide) (sh_8 z _) rfl ?_
    refine r_icge 88 21 dX9_lackOf_18 rfl (by decide) (by omega) (by omega) (fun h18 => ?_) (fun h18 => ?_)
    · exfalso; omega
    · refine r_aloadN 22 dX9_lackOf_21 rfl rfl ?_
      refine r_getq 25 dX9_lackOf_22 rfl fX9_38 (by decide) (sh_8 z _) rfl ?_
      refine r_iload 27 dX9_lackOf_25 rfl rfl ?_
      refine r_aald 28 dX9_lackOf_27 (i) rfl rfl (by decide) (sh_10a z) rfl (by decide) (by omega) (by omega) ?_
      refine r_cv0 31 dX9_lackOf_28 rfl gX9_180 rfl (ct_13 (by omega)) (sh_13 z _) rfl rfl (Nat.le_of_ble_eq_true rfl) (Nat.le_of_ble_eq_true rfl) rfl ?_
      refine x_isAirborne hR (s := i) (by omega) (fun y28 => ?_) (fun y28 => ?_)
      · refine r_ifeqF 34 dX9_lackOf_31 rfl 82 (by decide) (by decide) (by decide) ?_
        refine r_iconst 35 dX9_lackOf_34 rfl ?_
        refine r_aloadN 36 dX9_lackOf_35 rfl rfl ?_
        refine r_aloadN 37 dX9_lackOf_36 rfl rfl ?_
        refine r_getq 40 dX9_lackOf_37 rfl fX9_38 (by decide) (sh_8 z _) rfl ?_
        refine r_iload 42 dX9_lackOf_40 rfl rfl ?_
        refine r_aald 43 dX9_lackOf_42 (i) rfl rfl (by decide) (sh_10a z) rfl (by decide) (by omega) (by omega) ?_
        refine r_geti 46 dX9_lackOf_43 rfl fX9_111 (ct_13 (by omega)) (sh_13 z _) rfl ?_
        refine r_cv1 49 dX9_lackOf_46 rfl gX9_203 rfl (ct_12 (by omega)) (sh_12 z _) rfl rfl (Nat.le_of_ble_eq_true rfl) (Nat.le_of_ble_eq_true rfl) rfl ?_
        refine x_needFor hR (p := p) hp (by omega) (fun r46 e46 => ?_)
        refine r_aloadN 50 dX9_lackOf_49 rfl rfl ?_
        refine r_iload 52 dX9_lackOf_50 rfl rfl ?_
        refine r_aloadN 53 dX9_lackOf_52 rfl rfl ?_
        refine r_geti 56 dX9_lackOf_53 rfl fX9_127 (ct_12 (by omega)) (sh_12 z _) rfl ?_
        rw [show c 12 p 0 = (sp : Int) by omega]
        refine r_cv2 59 dX9_lackOf_56 rfl gX9_193 rfl (by decide) (sh_8 z _) rfl rfl (Nat.le_of_ble_eq_true rfl) (Nat.le_of_ble_eq_true rfl) rfl ?_
        refine x_levelAt hR hn (s := i) (sp := sp) (by omega) (by omega) (fun r56 e56 => ?_)
        refine r_isub 60 dX9_lackOf_59 rfl ?_
        refine r_max 63 dX9_lackOf_60 rfl (gX9_222) (Nat.le_of_ble_eq_true rfl) (by omega) (by omega) ?_
        refine r_istore5 65 dX9_lackOf_63 rfl rfl (by decide) ?_
        refine r_iloadN 66 dX9_lackOf_65 rfl rfl ?_
        refine r_iconst 67 dX9_lackOf_66 rfl ?_
        refine r_icne 75 70 dX9_lackOf_67 rfl (by decide) (by omega) (by omega) (fun h67 => ?_) (fun h67 => ?_)
        · refine r_iloadN 76 dX9_lackOf_75 rfl rfl ?_
          refine r_iload 78 dX9_lackOf_76 rfl rfl ?_
          refine r_min 81 dX9_lackOf_78 rfl (gX9_225) (Nat.le_of_ble_eq_true rfl) (by omega) (by omega) ?_
          refine r_istore3 82 dX9_lackOf_81 rfl rfl (by decide) ?_
          refine r_iinc4 85 dX9_lackOf_82 rfl rfl (by decide) ?_
          refine r_goto 12 dX9_lackOf_85 (by decide) ?_
          refine ih (i + 1) _ _ (by omega) ?_
          rw [fLack, ← hm]
          first
            | (rw [if_pos y28]; done)
            | (rw [if_neg (by rw [y28]; decide), if_pos (by omega), e46, e56, show c 13 i 2 = c 51 21 i by omega]; done)
            | (rw [if_neg (by rw [y28]; decide), if_neg (by omega), e46, e56, show c 13 i 2 = c 51 21 i by omega]; done)
        · refine r_iload 72 dX9_lackOf_70 rfl rfl ?_
          refine r_goto 81 dX9_lackOf_72 (by decide) ?_
          refine r_istore3 82 dX9_lackOf_81 rfl rfl (by decide) ?_
          refine r_iinc4 85 dX9_lackOf_82 rfl rfl (by decide) ?_
          refine r_goto 12 dX9_lackOf_85 (by decide) ?_
          refine ih (i + 1) _ _ (by omega) ?_
          rw [fLack, ← hm]
          first
            | (rw [if_pos y28]; done)
            | (rw [if_neg (by rw [y28]; decide), if_pos (by omega), e46, e56, show c 13 i 2 = c 51 21 i by omega]; done)
            | (rw [if_neg (by rw [y28]; decide), if_neg (by omega), e46, e56, show c 13 i 2 = c 51 21 i by omega]; done)
      · refine r_ifeqT 82 0 dX9_lackOf_31 (by decide) (by decide) (by decide) ?_
        refine r_iinc4 85 dX9_lackOf_82 rfl rfl (by decide) ?_
        refine r_goto 12 dX9_lackOf_85 (by decide) ?_
        refine ih (i + 1) _ _ (by omega) ?_
        rw [fLack, ← hm]
        first
          | (rw [if_pos y28]; done)
          | (rw [if_neg (by rw [y28]; decide), if_pos (by omega), e46, e56, show c 13 i 2 = c 51 21 i by omega]; done)
          | (rw [if_neg (by rw [y28]; decide), if_neg (by omega), e46, e56, show c 13 i 2 = c 51 21 i by omega]; done)
theorem x_lackOf {z : xZ} {d : Nat} {Q : tQ} {c : tC} {L : tL} {n p : Nat} (hR : RX c) (hn : c 50 0 2 = (n : Int)) (hp : (p : Int) < c 50 0 1) (k : ∀ r, r = fLack (c 51) p (c 51 14 p) n → Q (some (.int (iI r))) c L) : En z (d + 4) MX9_lackOf Q 0 [some (.ref (xad z 8 0)), some (.int (iI (p : Int))), none, none, none, none] [] c L := by
  have hg := R0_rng hR
  have hc := R0_scal hR
  have hpp := R0_per hR p hp
  obtain ⟨sp, hsp⟩ := Int.eq_ofNat_of_zero_le (show 0 ≤ c 51 14 p by omega)
  refine r_aloadN 1 dX9_lackOf_0 rfl rfl ?_
  refine r_getq 4 dX9_lackOf_1 rfl fX9_32 (by decide) (sh_8 z _) rfl ?_
  refine r_iloadN 5 dX9_lackOf_4 rfl rfl ?_
  refine r_aald 6 dX9_lackOf_5 (p) rfl rfl (by decide) (sh_9a z) rfl (by decide) (by omega) (by omega) ?_
  refine r_astore2 7 dX9_lackOf_6 rfl rfl (by decide) ?_
  refine r_iconst 8 dX9_lackOf_7 rfl ?_
  refine r_istore3 9 dX9_lackOf_8 rfl rfl (by decide) ?_
  refine r_iconst 10 dX9_lackOf_9 rfl ?_
  refine r_istore4 12 dX9_lackOf_10 rfl rfl (by decide) ?_
  exact x_lack_loop hR hn hp hsp k n 0 _ none (by omega) rfl
def fLd (hb : Nat → Bool) (lv : Nat → Int) : Nat → Int
  | 0 => -1
  | n + 1 => if hb n = true ∧ (fLd hb lv n = -1 ∨ lv (fLd hb lv n).toNat < lv n) then (n : Int) else fLd hb lv n
theorem fLd_bd (hb : Nat → Bool) (lv : Nat → Int) : ∀ n, -1 ≤ fLd hb lv n ∧ fLd hb lv n < n := by
  intro n
  induction n with
  | zero => exact ⟨Int.le_refl _, by show (-1 : Int) < ((0 : Nat) : Int); decide⟩
  | succ n ih => rw [fLd]; split <;> omega
theorem fHear_pos {c : tC} (hR : RX c) {n s p sp : Nat} (hn : c 50 0 2 = (n : Int)) (hs : s < n) (h : fHear (c 51) p s (sp : Int) = true) : 0 < fLvl (c 51) s (sp : Int) := by
  have hq := R0_src hR s (by omega)
  unfold fHear at h
  by_cases h4 : c 51 19 s = 4
  · unfold fLvl
    rw [if_pos (show fTalk (c 51) s = true from decide_eq_true (Or.inl h4))]
    omega
  · by_cases h5 : c 51 19 s = 5
    · unfold fLvl
      rw [if_pos (show fTalk (c 51) s = true from decide_eq_true (Or.inr h5))]
      omega
    · rw [if_neg h4, if_neg h5] at h
      exact (of_decide_eq_true h).1
theorem x_loud_loop {z : xZ} {d : Nat} {Q : tQ} {c : tC} {L : tL} {n p sp : Nat} {h : Int} {F : Nat → Bool} (hR : RX c) (hn : c 50 0 2 = (n : Int)) (hp : (p : Int) < c 50 0 1) (hsp : c 51 14 p = (sp : Int)) (hF : ∀ s, s < n → F s = true → 0 < fLvl (c 51) s (sp : Int)) (kk : ∀ r, r = fLd F (fun s => fLvl (c 51) s (sp : Int)) n → Q (some (.int (iI r))) c L) : ∀ (k i : Nat) (m g : Int) (v7 : Option Value), i + k = n → m = fLd F (fun s => fLvl (c 51) s (sp : Int)) i → g = (if m = -1 then 0 else fLvl (c 51) m.toNat (sp : Int)) → (0 ≤ g ∧ g ≤ 1000000) → En z (d + 4) MX9_loudestFor Q 16 [some (.ref (xad z 8 0)), some (.int (iI (p : Int))), some (.int (iI h)), some (.int (iI ((mkN F n : Nat) : Int))), some (.int (iI m)), some (.int (iI g)), some (.int (iI (i : Int))), v7] [] c L := by
  have hg := R0_rng hR
  have hc := R0_scal hR
  have hpp := R0_per hR p hp
  have hFl := mkN_lt31 F (show n ≤ 14 by omega)
  intro k
  induction k with
  | zero =>
    intro i m g v7 hi hm hg2 hgb
    refine r_iload 18 dX9_loudestFor_16 rfl rfl ?_
    refine r_aloadN 19 dX9_loudestFor_18 rfl rfl ?_
    refine r_geti 22 dX9_loudestFor_19 rfl fX9_18 (by decide) (sh_8 z _) rfl ?_
    refine r_icge 76 25 dX9_loudestFor_22 rfl (by decide) (by omega) (by omega) (fun h22 => ?_) (fun h22 => ?_)
    · refine r_iload 78 dX9_loudestFor_76 rfl rfl ?_
      refine r_ret dX9_loudestFor_78 rfl (kk _ ?_)
      rw [hm, show i = n by omega]
    · exfalso; omega
  | succ k ih =>
    intro i m g v7 hi hm hg2 hgb
    have hmb := fLd_bd F (fun s => fLvl (c 51) s (sp : Int)) i
    have hlv := fLvl_bd hR hn (show i < n by omega) (show sp < 64 by omega)
    refine r_iload 18 dX9_loudestFor_16 rfl rfl ?_
    refine r_aloadN 19 dX9_loudestFor_18 rfl rfl ?_
    refine r_geti 22 dX9_loudestFor_19 rfl fX9_18 (by decide) (sh_8 z _) rfl ?_
    refine r_icge 76 25 dX9_loudestFor_22 rfl (by decide) (by omega) (by omega) (fun h22 => ?_) (fun h22 => ?_)
    · exfalso; omega
    · refine r_iloadN 26 dX9_loudestFor_25 rfl rfl ?_
      refine r_iload 28 dX9_loudestFor_26 rfl rfl ?_
      refine r_cs2 31 dX9_loudestFor_28 rfl gX9_156 (Nat.le_of_ble_eq_true rfl) (Nat.le_of_ble_eq_true rfl) rfl ?_
      refine x_hasBit hFl (by omega) (fun y28 => ?_) (fun y28 => ?_)
      · refine r_ifeqF 34 dX9_loudestFor_31 rfl 52 (by decide) (by decide) (by decide) ?_
        refine r_aloadN 35 dX9_loudestFor_34 rfl rfl ?_
        refine r_iload 37 dX9_loudestFor_35 rfl rfl ?_
        refine r_aloadN 38 dX9_loudestFor_37 rfl rfl ?_
        refine r_getq 41 dX9_loudestFor_38 rfl fX9_32 (by decide) (sh_8 z _) rfl ?_
        refine r_iloadN 42 dX9_loudestFor_41 rfl rfl ?_
        refine r_aald 43 dX9_loudestFor_42 (p) rfl rfl (by decide) (sh_9a z) rfl (by decide) (by omega) (by omega) ?_
        refine r_geti 46 dX9_loudestFor_43 rfl fX9_127 (ct_12 (by omega)) (sh_12 z _) rfl ?_
        rw [show c 12 p 0 = (sp : Int) by omega]
        refine r_cv2 49 dX9_loudestFor_46 rfl gX9_193 rfl (by decide) (sh_8 z _) rfl rfl (Nat.le_of_ble_eq_true rfl) (Nat.le_of_ble_eq_true rfl) rfl ?_
        refine x_levelAt hR hn (s := i) (sp := sp) (by omega) (by omega) (fun r46 e46 => ?_)
        refine r_goto 53 dX9_loudestFor_49 (by decide) ?_
        refine r_istore7 55 dX9_loudestFor_53 rfl rfl (by decide) ?_
        refine r_iload 57 dX9_loudestFor_55 rfl rfl ?_
        refine r_iload 59 dX9_loudestFor_57 rfl rfl ?_
        refine r_icle 70 62 dX9_loudestFor_59 rfl (by decide) (by omega) (by omega) (fun h59 => ?_) (fun h59 => ?_)
        · refine r_iinc6 73 dX9_loudestFor_70 rfl rfl (by decide) ?_
          refine r_goto 16 dX9_loudestFor_73 (by decide) ?_
          refine ih (i + 1) _ _ _ (by omega) ?_ ?_ ?_
          · rw [fLd, ← hm]
            (try rw [mk_bit (by omega)] at y28)
            first
              | (exfalso; omega)
              | (rw [if_pos ⟨y28, by
                  by_cases e : m = -1
                  · exact Or.inl e
                  · right; rw [if_neg e] at hg2; show fLvl (c 51) m.toNat (sp : Int) < fLvl (c 51) i (sp : Int); omega⟩]; done)
              | (rw [if_neg (fun q => by rw [y28] at q; exact absurd q.1 (by decide))]; done)
              | (have y29 : F i = true := y28
                 rw [if_neg (fun q => by
                  rcases q.2 with e | e
                  · rw [if_pos e] at hg2; have := hF i (by omega) y28; omega
                  · have e : fLvl (c 51) m.toNat (sp : Int) < fLvl (c 51) i (sp : Int) := e
                    have hm1 : ¬ m = -1 := fun z => by rw [if_pos z] at hg2; have := hF i (by omega) y28; omega
                    rw [if_neg hm1] at hg2; omega)]; done)
          · first
              | exact hg2
              | (exfalso; omega)
              | (rw [if_neg (by omega), Int.toNat_natCast]; exact e46)
          · first
              | exact hgb
              | omega
        · refine r_iload 64 dX9_loudestFor_62 rfl rfl ?_
          refine r_istore4 66 dX9_loudestFor_64 rfl rfl (by decide) ?_
          refine r_iload 68 dX9_loudestFor_66 rfl rfl ?_
          refine r_istore5 70 dX9_loudestFor_68 rfl rfl (by decide) ?_
          refine r_iinc6 73 dX9_loudestFor_70 rfl rfl (by decide) ?_
          refine r_goto 16 dX9_loudestFor_73 (by decide) ?_
          refine ih (i + 1) _ _ _ (by omega) ?_ ?_ ?_
          · rw [fLd, ← hm]
            (try rw [mk_bit (by omega)] at y28)
            first
              | (exfalso; omega)
              | (rw [if_pos ⟨y28, by
                  by_cases e : m = -1
                  · exact Or.inl e
                  · right; rw [if_neg e] at hg2; show fLvl (c 51) m.toNat (sp : Int) < fLvl (c 51) i (sp : Int); omega⟩]; done)
              | (rw [if_neg (fun q => by rw [y28] at q; exact absurd q.1 (by decide))]; done)
              | (have y29 : F i = true := y28
                 rw [if_neg (fun q => by
                  rcases q.2 with e | e
                  · rw [if_pos e] at hg2; have := hF i (by omega) y28; omega
                  · have e : fLvl (c 51) m.toNat (sp : Int) < fLvl (c 51) i (sp : Int) := e
                    have hm1 : ¬ m = -1 := fun z => by rw [if_pos z] at hg2; have := hF i (by omega) y28; omega
                    rw [if_neg hm1] at hg2; omega)]; done)
          · first
              | exact hg2
              | (exfalso; omega)
              | (rw [if_neg (by omega), Int.toNat_natCast]; exact e46)
          · first
              | exact hgb
              | omega
      · refine r_ifeqT 52 0 dX9_loudestFor_31 (by decide) (by decide) (by decide) ?_
        refine r_iconst 53 dX9_loudestFor_52 rfl ?_
        refine r_istore7 55 dX9_loudestFor_53 rfl rfl (by decide) ?_
        refine r_iload 57 dX9_loudestFor_55 rfl rfl ?_
        refine r_iload 59 dX9_loudestFor_57 rfl rfl ?_
        refine r_icle 70 62 dX9_loudestFor_59 rfl (by decide) (by omega) (by omega) (fun h59 => ?_) (fun h59 => ?_)
        · refine r_iinc6 73 dX9_loudestFor_70 rfl rfl (by decide) ?_
          refine r_goto 16 dX9_loudestFor_73 (by decide) ?_
          refine ih (i + 1) _ _ _ (by omega) ?_ ?_ ?_
          · rw [fLd, ← hm]
            (try rw [mk_bit (by omega)] at y28)
            first
              | (exfalso; omega)
              | (rw [if_pos ⟨y28, by
                  by_cases e : m = -1
                  · exact Or.inl e
                  · right; rw [if_neg e] at hg2; show fLvl (c 51) m.toNat (sp : Int) < fLvl (c 51) i (sp : Int); omega⟩]; done)
              | (rw [if_neg (fun q => by rw [y28] at q; exact absurd q.1 (by decide))]; done)
              | (have y29 : F i = true := y28
                 rw [if_neg (fun q => by
                  rcases q.2 with e | e
                  · rw [if_pos e] at hg2; have := hF i (by omega) y28; omega
                  · have e : fLvl (c 51) m.toNat (sp : Int) < fLvl (c 51) i (sp : Int) := e
                    have hm1 : ¬ m = -1 := fun z => by rw [if_pos z] at hg2; have := hF i (by omega) y28; omega
                    rw [if_neg hm1] at hg2; omega)]; done)
          · first
              | exact hg2
              | (exfalso; omega)
              | (rw [if_neg (by omega), Int.toNat_natCast]; exact e46)
          · first
              | exact hgb
              | omega
        · refine r_iload 64 dX9_loudestFor_62 rfl rfl ?_
          refine r_istore4 66 dX9_loudestFor_64 rfl rfl (by decide) ?_
          refine r_iload 68 dX9_loudestFor_66 rfl rfl ?_
          refine r_istore5 70 dX9_loudestFor_68 rfl rfl (by decide) ?_
          refine r_iinc6 73 dX9_loudestFor_70 rfl rfl (by decide) ?_
          refine r_goto 16 dX9_loudestFor_73 (by decide) ?_
          refine ih (i + 1) _ _ _ (by omega) ?_ ?_ ?_
          · rw [fLd, ← hm]
            (try rw [mk_bit (by omega)] at y28)
            first
              | (exfalso; omega)
              | (rw [if_pos ⟨y28, by
                  by_cases e : m = -1
                  · exact Or.inl e
                  · right; rw [if_neg e] at hg2; show fLvl (c 51) m.toNat (sp : Int) < fLvl (c 51) i (sp : Int); omega⟩]; done)
              | (rw [if_neg (fun q => by rw [y28] at q; exact absurd q.1 (by decide))]; done)
              | (have y29 : F i = true := y28
                 rw [if_neg (fun q => by
                  rcases q.2 with e | e
                  · rw [if_pos e] at hg2; have := hF i (by omega) y28; omega
                  · have e : fLvl (c 51) m.toNat (sp : Int) < fLvl (c 51) i (sp : Int) := e
                    have hm1 : ¬ m = -1 := fun z => by rw [if_pos z] at hg2; have := hF i (by omega) y28; omega
                    rw [if_neg hm1] at hg2; omega)]; done)
          · first
              | exact hg2
              | (exfalso; omega)
              | (rw [if_neg (by omega), Int.toNat_natCast]; exact e46)
          · first
              | exact hgb
              | omega
theorem x_loudestFor {z : xZ} {d : Nat} {Q : tQ} {c : tC} {L : tL} {n p : Nat} {h : Int} (hR : RX c) (hn : c 50 0 2 = (n : Int)) (hp : (p : Int) < c 50 0 1) (hh : 0 ≤ h ∧ h ≤ 239) (k : ∀ r, r = fLd (fun s => fHear (c 51) p s (c 51 14 p) && fSnd (c 50 0) (c 51) s h) (fun s => fLvl (c 51) s (c 51 14 p)) n → Q (some (.int (iI r))) c L) : En z (d + 6) MX9_loudestFor Q 0 [some (.ref (xad z 8 0)), some (.int (iI (p : Int))), some (.int (iI h)), none, none, none, none, none] [] c L := by
  have hg := R0_rng hR
  have hc := R0_scal hR
  have hpp := R0_per hR p hp
  obtain ⟨sp, hsp⟩ := Int.eq_ofNat_of_zero_le (show 0 ≤ c 51 14 p by omega)
  rw [hsp] at k
  refine r_aloadN 1 dX9_loudestFor_0 rfl rfl ?_
  refine r_iloadN 2 dX9_loudestFor_1 rfl rfl ?_
  refine r_iloadN 3 dX9_loudestFor_2 rfl rfl ?_
  refine r_cv2 6 dX9_loudestFor_3 rfl gX9_209 rfl (by decide) (sh_8 z _) rfl rfl (Nat.le_of_ble_eq_true rfl) (Nat.le_of_ble_eq_true rfl) rfl ?_
  refine x_heardBy hR hn hp hh (fun r3 e3 => ?_)
  unfold fHeard at e3
  rw [hn, Int.toNat_natCast, hsp] at e3
  subst e3
  refine r_istore3 7 dX9_loudestFor_6 rfl rfl (by decide) ?_
  refine r_iconst 8 dX9_loudestFor_7 rfl ?_
  refine r_istore4 10 dX9_loudestFor_8 rfl rfl (by decide) ?_
  refine r_iconst 11 dX9_loudestFor_10 rfl ?_
  refine r_istore5 13 dX9_loudestFor_11 rfl rfl (by decide) ?_
  refine r_iconst 14 dX9_loudestFor_13 rfl ?_
  refine r_istore6 16 dX9_loudestFor_14 rfl rfl (by decide) ?_
  exact x_loud_loop hR hn hp hsp (fun s hs q => fHear_pos hR hn hs (by simp only [Bool.and_eq_true] at q; exact q.1)) k n 0 _ _ none (by omega) rfl rfl (by omega)
