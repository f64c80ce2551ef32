theorem m_place_loop {z : xZ} {d : Nat} {Q : tQ} {c : tC} {L : tL} {n : Nat} {a b lo : Int} {G : Nat → Bool} (hR : RX c) (hn : c 50 0 2 = (n : Int)) (hlo : 1 ≤ lo ∧ lo ≤ 99) (kk : ∀ r, r = (((fFnd (fun sp => cntN (fMet (c 51) G (sp : Int) lo) n) 64).1 : Nat) : Int) → Q (some (.int (iI r))) c L) : ∀ (k i : Nat) (f m : Int) (v8 : Option Value), i + k = 64 → f = (((fFnd (fun sp => cntN (fMet (c 51) G (sp : Int) lo) n) i).1 : Nat) : Int) → (m = (((fFnd (fun sp => cntN (fMet (c 51) G (sp : Int) lo) n) i).2 : Nat) : Int) ∨ (i = 0 ∧ m = -1)) → En z (d + 4) MX11_place Q 44 [some (.ref (xad z 50 0)), some (.int (iI lo)), some (.int (iI a)), some (.int (iI b)), some (.int (iI ((mkN G n : Nat) : Int))), some (.int (iI f)), some (.int (iI m)), some (.int (iI (i : Int))), v8] [] c L := by
  have hg := R0_rng hR
  have hc := R0_scal hR
  intro k
  induction k with
  | zero =>
    intro i f m v8 hi hf hm
    refine r_iload 46 dX11_place_44 rfl rfl ?_
    refine r_bipush 48 dX11_place_46 rfl (by decide) ?_
    refine r_icge 83 51 dX11_place_48 rfl (by decide) (by omega) (by omega) (fun h48 => ?_) (fun h48 => ?_)
    · refine r_iload 85 dX11_place_83 rfl rfl ?_
      refine r_ret dX11_place_85 rfl (kk _ ?_)
      rw [hf, show i = 64 by omega]
    · exfalso; omega
  | succ k ih =>
    intro i f m v8 hi hf hm
    have hb := fFnd_bd (v := (fun sp => cntN (fMet (c 51) G (sp : Int) lo) n)) (b := 14) (fun k => Nat.le_trans (cntN_le _ n) (by omega)) i
    refine r_iload 46 dX11_place_44 rfl rfl ?_
    refine r_bipush 48 dX11_place_46 rfl (by decide) ?_
    refine r_icge 83 51 dX11_place_48 rfl (by decide) (by omega) (by omega) (fun h48 => ?_) (fun h48 => ?_)
    · exfalso; omega
    · refine r_aloadN 52 dX11_place_51 rfl rfl ?_
      refine r_iload 54 dX11_place_52 rfl rfl ?_
      refine r_iloadN 55 dX11_place_54 rfl rfl ?_
      refine r_iload 57 dX11_place_55 rfl rfl ?_
      refine r_cv3 60 dX11_place_57 rfl gX11_345 rfl (by decide) (sh_50 z _) rfl rfl (Nat.le_of_ble_eq_true rfl) (Nat.le_of_ble_eq_true rfl) rfl ?_
      refine m_metered hR hn (sp := i) (by omega) hlo rfl (fun r57 e57 => ?_)
      refine r_istore8 62 dX11_place_60 rfl rfl (by decide) ?_
      have hb2 : r57 ≤ 14 := by rw [e57]; exact Nat.le_trans (cntN_le _ n) (by omega)
      refine r_iload 64 dX11_place_62 rfl rfl ?_
      refine r_iload 66 dX11_place_64 rfl rfl ?_
      refine r_icle 77 69 dX11_place_66 rfl (by decide) (by omega) (by omega) (fun h66 => ?_) (fun h66 => ?_)
      · refine r_iinc7 80 dX11_place_77 rfl rfl (by decide) ?_
        refine r_goto 44 dX11_place_80 (by decide) ?_
        refine ih (i + 1) _ _ _ (by omega) ?_ ?_
        · rw [fFnd, ← e57]
          rcases hm with hm | ⟨hm1, hm2⟩
          · first
              | (rw [if_pos (by omega)]; done)
              | (rw [if_neg (by omega)]; exact hf)
          · subst hm1
            first
              | (exfalso; omega)
              | (split
                 · rfl
                 · rfl)
        · rw [fFnd, ← e57]
          left
          rcases hm with hm | ⟨hm1, hm2⟩
          · first
              | (rw [if_pos (by omega)]; done)
              | (rw [if_neg (by omega)]; exact hm)
          · subst hm1
            have hz : (fFnd (fun sp => cntN (fMet (c 51) G (sp : Int) lo) n) 0).2 = 0 := rfl
            first
              | (exfalso; omega)
              | (split
                 · rfl
                 · rw [hz]; omega)
      · refine r_iload 71 dX11_place_69 rfl rfl ?_
        refine r_istore6 73 dX11_place_71 rfl rfl (by decide) ?_
        refine r_iload 75 dX11_place_73 rfl rfl ?_
        refine r_istore5 77 dX11_place_75 rfl rfl (by decide) ?_
        refine r_iinc7 80 dX11_place_77 rfl rfl (by decide) ?_
        refine r_goto 44 dX11_place_80 (by decide) ?_
        refine ih (i + 1) _ _ _ (by omega) ?_ ?_
        · rw [fFnd, ← e57]
          rcases hm with hm | ⟨hm1, hm2⟩
          · first
              | (rw [if_pos (by omega)]; done)
              | (rw [if_neg (by omega)]; exact hf)
          · subst hm1
            first
              | (exfalso; omega)
              | (split
                 · rfl
                 · rfl)
        · rw [fFnd, ← e57]
          left
          rcases hm with hm | ⟨hm1, hm2⟩
          · first
              | (rw [if_pos (by omega)]; done)
              | (rw [if_neg (by omega)]; exact hm)
          · subst hm1
            have hz : (fFnd (fun sp => cntN (fMet (c 51) G (sp : Int) lo) n) 0).2 = 0 := rfl
            first
              | (exfalso; omega)
              | (split
                 · rfl
                 · rw [hz]; omega)
theorem m_place {z : xZ} {d : Nat} {Q : tQ} {c : tC} {L : tL} {n : Nat} {lo a b : Int} (hR : RX c) (hn : c 50 0 2 = (n : Int)) (hlo : inR lo) (ha : inR a) (hb : inR b) (k : ∀ r w, (r, w) = gPlace (c 50 0) (c 51) lo a b → Q (some (.int (iI r))) (mRe c w) L) : En z (d + 20) MX11_place Q 0 [some (.ref (xad z 50 0)), some (.int (iI lo)), some (.int (iI a)), some (.int (iI b)), none, none, none, none, none] [] c L := by
  have lo1 := hlo.1
  have lo2 := hlo.2
  have a1 := ha.1
  have a2 := ha.2
  have b1 := hb.1
  have b2 := hb.2
  have hg := R0_rng hR
  have hc := R0_scal hR
  refine r_iloadN 1 dX11_place_0 rfl rfl ?_
  refine r_iconst 2 dX11_place_1 rfl ?_
  refine r_iclt 20 5 dX11_place_2 rfl (by decide) (by omega) (by omega) (fun h2 => ?_) (fun h2 => ?_)
  · refine r_aloadN 21 dX11_place_20 rfl rfl ?_
    refine r_bipush 23 dX11_place_21 rfl (by decide) ?_
    refine r_cv1 26 dX11_place_23 rfl gX11_184 rfl (by decide) (sh_50 z _) rfl rfl (Nat.le_of_ble_eq_true rfl) (Nat.le_of_ble_eq_true rfl) rfl ?_
    refine m_no (k0 := 6) (by decide) (by decide) ?_
    refine r_ret dX11_place_26 rfl (k _ 6 ?_)
    unfold gPlace
    rw [if_pos (by omega)]
  · refine r_iloadN 6 dX11_place_5 rfl rfl ?_
    refine r_bipush 8 dX11_place_6 rfl (by decide) ?_
    refine r_icgt 20 11 dX11_place_8 rfl (by decide) (by omega) (by omega) (fun h8 => ?_) (fun h8 => ?_)
    · refine r_aloadN 21 dX11_place_20 rfl rfl ?_
      refine r_bipush 23 dX11_place_21 rfl (by decide) ?_
      refine r_cv1 26 dX11_place_23 rfl gX11_184 rfl (by decide) (sh_50 z _) rfl rfl (Nat.le_of_ble_eq_true rfl) (Nat.le_of_ble_eq_true rfl) rfl ?_
      refine m_no (k0 := 6) (by decide) (by decide) ?_
      refine r_ret dX11_place_26 rfl (k _ 6 ?_)
      unfold gPlace
      rw [if_pos (by omega)]
    · refine r_aloadN 12 dX11_place_11 rfl rfl ?_
      refine r_iloadN 13 dX11_place_12 rfl rfl ?_
      refine r_iloadN 14 dX11_place_13 rfl rfl ?_
      refine r_cv2 17 dX11_place_14 rfl gX11_334 rfl (by decide) (sh_50 z _) rfl rfl (Nat.le_of_ble_eq_true rfl) (Nat.le_of_ble_eq_true rfl) rfl ?_
      refine m_isHours (by assumption) (by assumption) (fun y14 => ?_) (fun y14 => ?_)
      · refine r_ifneT 27 0 dX11_place_17 (by decide) (by decide) (by decide) ?_
        refine r_aloadN 28 dX11_place_27 rfl rfl ?_
        refine r_iloadN 29 dX11_place_28 rfl rfl ?_
        refine r_iloadN 30 dX11_place_29 rfl rfl ?_
        refine r_cv2 33 dX11_place_30 rfl gX11_328 rfl (by decide) (sh_50 z _) rfl rfl (Nat.le_of_ble_eq_true rfl) (Nat.le_of_ble_eq_true rfl) rfl ?_
        refine m_sounding hR hn (by omega) (fun r30 e30 => ?_)
        subst e30
        refine r_istore4 35 dX11_place_33 rfl rfl (by decide) ?_
        refine r_iconst 36 dX11_place_35 rfl ?_
        refine r_istore5 38 dX11_place_36 rfl rfl (by decide) ?_
        refine r_iconst 39 dX11_place_38 rfl ?_
        refine r_istore6 41 dX11_place_39 rfl rfl (by decide) ?_
        refine r_iconst 42 dX11_place_41 rfl ?_
        refine r_istore7 44 dX11_place_42 rfl rfl (by decide) ?_
        exact m_place_loop hR hn (by omega) (fun r e => k r 0 (by unfold gPlace; rw [if_neg (by omega), hn, Int.toNat_natCast, e]; rfl)) 64 0 _ _ none (by omega) rfl (Or.inr ⟨rfl, rfl⟩)
      · refine r_ifneF 20 dX11_place_17 rfl 27 (by decide) (by decide) (by decide) ?_
        refine r_aloadN 21 dX11_place_20 rfl rfl ?_
        refine r_bipush 23 dX11_place_21 rfl (by decide) ?_
        refine r_cv1 26 dX11_place_23 rfl gX11_184 rfl (by decide) (sh_50 z _) rfl rfl (Nat.le_of_ble_eq_true rfl) (Nat.le_of_ble_eq_true rfl) rfl ?_
        refine m_no (k0 := 6) (by decide) (by decide) ?_
        refine r_ret dX11_place_26 rfl (k _ 6 ?_)
        unfold gPlace
        rw [if_pos (by omega)]
theorem m_meter {z : xZ} {d : Nat} {Q : tQ} {c : tC} {L : tL} {n : Nat} {v lo a b : Int} (hR : RX c) (hn : c 50 0 2 = (n : Int)) (hv : inR v) (hlo : inR lo) (ha : inR a) (hb : inR b) (k : ∀ r w, (r, w) = gMeter (c 50 0) (c 51) v lo a b → Q (some (.int (iI r))) (mRe c w) L) : En z (d + 20) MX11_meter Q 0 [some (.ref (xad z 50 0)), some (.int (iI v)), some (.int (iI lo)), some (.int (iI a)), some (.int (iI b))] [] c L := by
  have v1 := hv.1
  have v2 := hv.2
  have lo1 := hlo.1
  have lo2 := hlo.2
  have a1 := ha.1
  have a2 := ha.2
  have b1 := hb.1
  have b2 := hb.2
  have hg := R0_rng hR
  have hc := R0_scal hR
  refine r_aloadN 1 dX11_meter_0 rfl rfl ?_
  refine r_iloadN 2 dX11_meter_1 rfl rfl ?_
  refine r_cv1 5 dX11_meter_2 rfl gX11_191 rfl (by decide) (sh_50 z _) rfl rfl (Nat.le_of_ble_eq_true rfl) (Nat.le_of_ble_eq_true rfl) rfl ?_
  refine m_isSpot (by assumption) (fun y2 => ?_) (fun y2 => ?_)
  · refine r_ifneT 14 0 dX11_meter_5 (by decide) (by decide) (by decide) ?_
    refine r_iloadN 15 dX11_meter_14 rfl rfl ?_
    refine r_iconst 16 dX11_meter_15 rfl ?_
    refine r_iclt 35 19 dX11_meter_16 rfl (by decide) (by omega) (by omega) (fun h16 => ?_) (fun h16 => ?_)
    · refine r_aloadN 36 dX11_meter_35 rfl rfl ?_
      refine r_bipush 38 dX11_meter_36 rfl (by decide) ?_
      refine r_cv1 41 dX11_meter_38 rfl gX11_184 rfl (by decide) (sh_50 z _) rfl rfl (Nat.le_of_ble_eq_true rfl) (Nat.le_of_ble_eq_true rfl) rfl ?_
      refine m_no (k0 := 6) (by decide) (by decide) ?_
      refine r_ret dX11_meter_41 rfl (k _ 6 ?_)
      unfold gMeter
      rw [if_neg (by omega), if_pos (by omega)]
    · refine r_iloadN 20 dX11_meter_19 rfl rfl ?_
      refine r_bipush 22 dX11_meter_20 rfl (by decide) ?_
      refine r_icgt 35 25 dX11_meter_22 rfl (by decide) (by omega) (by omega) (fun h22 => ?_) (fun h22 => ?_)
      · refine r_aloadN 36 dX11_meter_35 rfl rfl ?_
        refine r_bipush 38 dX11_meter_36 rfl (by decide) ?_
        refine r_cv1 41 dX11_meter_38 rfl gX11_184 rfl (by decide) (sh_50 z _) rfl rfl (Nat.le_of_ble_eq_true rfl) (Nat.le_of_ble_eq_true rfl) rfl ?_
        refine m_no (k0 := 6) (by decide) (by decide) ?_
        refine r_ret dX11_meter_41 rfl (k _ 6 ?_)
        unfold gMeter
        rw [if_neg (by omega), if_pos (by omega)]
      · refine r_aloadN 26 dX11_meter_25 rfl rfl ?_
        refine r_iloadN 27 dX11_meter_26 rfl rfl ?_
        refine r_iload 29 dX11_meter_27 rfl rfl ?_
        refine r_cv2 32 dX11_meter_29 rfl gX11_334 rfl (by decide) (sh_50 z _) rfl rfl (Nat.le_of_ble_eq_true rfl) (Nat.le_of_ble_eq_true rfl) rfl ?_
        refine m_isHours (by assumption) (by assumption) (fun y29 => ?_) (fun y29 => ?_)
        · refine r_ifneT 42 0 dX11_meter_32 (by decide) (by decide) (by decide) ?_
          obtain ⟨sp, hsp0⟩ := Int.eq_ofNat_of_zero_le (show 0 ≤ v by omega)
          subst hsp0
          refine r_aloadN 43 dX11_meter_42 rfl rfl ?_
          refine r_iloadN 44 dX11_meter_43 rfl rfl ?_
          refine r_iloadN 45 dX11_meter_44 rfl rfl ?_
          refine r_aloadN 46 dX11_meter_45 rfl rfl ?_
          refine r_iloadN 47 dX11_meter_46 rfl rfl ?_
          refine r_iload 49 dX11_meter_47 rfl rfl ?_
          refine r_cv2 52 dX11_meter_49 rfl gX11_328 rfl (by decide) (sh_50 z _) rfl rfl (Nat.le_of_ble_eq_true rfl) (Nat.le_of_ble_eq_true rfl) rfl ?_
          refine m_sounding hR hn (by omega) (fun r49 e49 => ?_)
          refine r_cv3 55 dX11_meter_52 rfl gX11_345 rfl (by decide) (sh_50 z _) rfl rfl (Nat.le_of_ble_eq_true rfl) (Nat.le_of_ble_eq_true rfl) rfl ?_
          refine m_metered hR hn (sp := sp) (by omega) (by omega) e49 (fun r52 e52 => ?_)
          refine r_ret dX11_meter_55 rfl (k _ 0 ?_)
          unfold gMeter
          rw [if_neg (by omega), if_neg (by omega), e52, hn, Int.toNat_natCast]
          rfl
        · refine r_ifneF 35 dX11_meter_32 rfl 42 (by decide) (by decide) (by decide) ?_
          refine r_aloadN 36 dX11_meter_35 rfl rfl ?_
          refine r_bipush 38 dX11_meter_36 rfl (by decide) ?_
          refine r_cv1 41 dX11_meter_38 rfl gX11_184 rfl (by decide) (sh_50 z _) rfl rfl (Nat.le_of_ble_eq_true rfl) (Nat.le_of_ble_eq_true rfl) rfl ?_
          refine m_no (k0 := 6) (by decide) (by decide) ?_
          refine r_ret dX11_meter_41 rfl (k _ 6 ?_)
          unfold gMeter
          rw [if_neg (by omega), if_pos (by omega)]
  · refine r_ifneF 8 dX11_meter_5 rfl 14 (by decide) (by decide) (by decide) ?_
    refine r_aloadN 9 dX11_meter_8 rfl rfl ?_
    refine r_iconst 10 dX11_meter_9 rfl ?_
    refine r_cv1 13 dX11_meter_10 rfl gX11_184 rfl (by decide) (sh_50 z _) rfl rfl (Nat.le_of_ble_eq_true rfl) (Nat.le_of_ble_eq_true rfl) rfl ?_
    refine m_no (k0 := 1) (by decide) (by decide) ?_
    refine r_ret dX11_meter_13 rfl (k _ 1 ?_)
    unfold gMeter
    rw [if_pos (by omega)]
theorem m_bed_loop {z : xZ} {d : Nat} {Q : tQ} {c : tC} {L : tL} {n p ho : Nat} {a b : Int} {G : Nat → Bool} (hR : RX c) (hn : c 50 0 2 = (n : Int)) (hp : (p : Int) < c 50 0 1) (hho : c 51 14 p = (ho : Int)) (hho2 : ho < 64) (kk : ∀ r : Nat, fBedP (c 51) G p n ho r → Q (some (.int (iI (r : Int)))) c L) : ∀ (k i : Nat) (f w q : Int) (v9 v10 : Option Value), i + k = 64 → ((i = 0 ∧ f = -1 ∧ w = 0 ∧ q = 0) ∨ ∃ r : Nat, r < i ∧ f = (r : Int) ∧ w = ((fBedN (c 51) G p n r : Nat) : Int) ∧ q = fFar (r : Int) (ho : Int) ∧ ∀ s, s < i → fBedK (c 51) G p n ho r ≤ fBedK (c 51) G p n ho s ∧ (fBedK (c 51) G p n ho s = fBedK (c 51) G p n ho r → r ≤ s)) → En z (d + 5) MX11_bed Q 50 [some (.ref (xad z 50 0)), some (.int (iI (p : Int))), some (.int (iI a)), some (.int (iI b)), some (.int (iI ((mkN G n : Nat) : Int))), some (.int (iI f)), some (.int (iI w)), some (.int (iI q)), some (.int (iI (i : Int))), v9, v10] [] c L := by
  have hg := R0_rng hR
  have hc := R0_scal hR
  intro k
  induction k with
  | zero =>
    intro i f w q v9 v10 hi hA
    refine r_iload 52 dX11_bed_50 rfl rfl ?_
    refine r_bipush 54 dX11_bed_52 rfl (by decide) ?_
    refine r_icge 156 57 dX11_bed_54 rfl (by decide) (by omega) (by omega) (fun h54 => ?_) (fun h54 => ?_)
    · refine r_iload 158 dX11_bed_156 rfl rfl ?_
      rcases hA with ⟨a1, a2, a3, a4⟩ | ⟨r, hr, hf, hw, hq, hS⟩
      · exfalso; omega
      · rw [hf]
        exact r_ret dX11_bed_158 rfl (kk r ⟨by omega, fun s hs => hS s (by omega)⟩)
    · exfalso; omega
  | succ k ih =>
    intro i f w q v9 v10 hi hA
    have hab : -1 ≤ f ∧ f < 64 ∧ 0 ≤ w ∧ w ≤ 14 ∧ 0 ≤ q ∧ q ≤ 14 := by
      rcases hA with ⟨a1, a2, a3, a4⟩ | ⟨r, hr, hf, hw, hq, hS⟩
      · omega
      · have hb2 := fFar_bd (show r < 64 by omega) hho2
        have hb4 : fBedN (c 51) G p n r ≤ 14 := Nat.le_trans (cntN_le _ n) (by omega)
        omega
    refine r_iload 52 dX11_bed_50 rfl rfl ?_
    refine r_bipush 54 dX11_bed_52 rfl (by decide) ?_
    refine r_icge 156 57 dX11_bed_54 rfl (by decide) (by omega) (by omega) (fun h54 => ?_) (fun h54 => ?_)
    · exfalso; omega
    · refine r_aloadN 58 dX11_bed_57 rfl rfl ?_
      refine r_aloadN 59 dX11_bed_58 rfl rfl ?_
      refine r_iloadN 60 dX11_bed_59 rfl rfl ?_
      refine r_iload 62 dX11_bed_60 rfl rfl ?_
      refine r_iload 64 dX11_bed_62 rfl rfl ?_
      refine r_cv3 67 dX11_bed_64 rfl gX11_331 rfl (by decide) (sh_50 z _) rfl rfl (Nat.le_of_ble_eq_true rfl) (Nat.le_of_ble_eq_true rfl) rfl ?_
      refine m_heardOf hR hn (sp := i) (by omega) hp rfl (fun r64 e64 => ?_)
      refine r_cv1 70 dX11_bed_67 rfl gX11_348 rfl (by decide) (sh_50 z _) rfl rfl (Nat.le_of_ble_eq_true rfl) (Nat.le_of_ble_eq_true rfl) rfl ?_
      refine m_many (n := n) (by omega) e64 (fun r67 e67 => ?_)
      refine r_istore9 72 dX11_bed_70 rfl rfl (by decide) ?_
      refine r_aloadN 73 dX11_bed_72 rfl rfl ?_
      refine r_iload 75 dX11_bed_73 rfl rfl ?_
      refine r_bipush 77 dX11_bed_75 rfl (by decide) ?_
      refine r_idiv 78 dX11_bed_77 rfl (by omega) (by omega) ?_
      refine r_aloadN 79 dX11_bed_78 rfl rfl ?_
      refine r_getq 82 dX11_bed_79 rfl fX11_29 (by decide) (sh_50 z _) rfl ?_
      refine r_iloadN 83 dX11_bed_82 rfl rfl ?_
      refine r_iald (n := 12) 84 dX11_bed_83 (p) rfl rfl (by decide) (sh_51 z _) (by decide) (by omega) (by omega) ?_
      rw [hho]
      refine r_bipush 86 dX11_bed_84 rfl (by decide) ?_
      refine r_idiv 87 dX11_bed_86 rfl (by omega) (by omega) ?_
      refine r_cv2 90 dX11_bed_87 rfl gX11_266 rfl (by decide) (sh_50 z _) rfl rfl (Nat.le_of_ble_eq_true rfl) (Nat.le_of_ble_eq_true rfl) rfl ?_
      refine m_apart (by omega) (by omega) (fun r87 e87 => ?_)
      refine r_aloadN 91 dX11_bed_90 rfl rfl ?_
      refine r_iload 93 dX11_bed_91 rfl rfl ?_
      refine r_bipush 95 dX11_bed_93 rfl (by decide) ?_
      refine r_irem 96 dX11_bed_95 rfl (by omega) (by omega) ?_
      refine r_aloadN 97 dX11_bed_96 rfl rfl ?_
      refine r_getq 100 dX11_bed_97 rfl fX11_29 (by decide) (sh_50 z _) rfl ?_
      refine r_iloadN 101 dX11_bed_100 rfl rfl ?_
      refine r_iald (n := 12) 102 dX11_bed_101 (p) rfl rfl (by decide) (sh_51 z _) (by decide) (by omega) (by omega) ?_
      rw [hho]
      refine r_bipush 104 dX11_bed_102 rfl (by decide) ?_
      refine r_irem 105 dX11_bed_104 rfl (by omega) (by omega) ?_
      refine r_cv2 108 dX11_bed_105 rfl gX11_266 rfl (by decide) (sh_50 z _) rfl rfl (Nat.le_of_ble_eq_true rfl) (Nat.le_of_ble_eq_true rfl) rfl ?_
      refine m_apart (by omega) (by omega) (fun r105 e105 => ?_)
      refine r_iadd 109 dX11_bed_108 rfl ?_
      refine r_istore10 111 dX11_bed_109 rfl rfl (by decide) ?_
      have hb1 : 0 ≤ r87 + r105 ∧ r87 + r105 ≤ 14 := by
        have h := fFar_bd (show i < 64 by omega) hho2
        unfold fFar at h
        rw [e87, e105]
        exact h
      have hb3 : r67 ≤ 14 := by rw [e67]; exact Nat.le_trans (cntN_le _ n) (by omega)
      refine r_iload 113 dX11_bed_111 rfl rfl ?_
      refine r_iconst 114 dX11_bed_113 rfl ?_
      refine r_iceq 138 117 dX11_bed_114 rfl (by decide) (by omega) (by omega) (fun h114 => ?_) (fun h114 => ?_)
      · refine r_iload 140 dX11_bed_138 rfl rfl ?_
        refine r_istore5 142 dX11_bed_140 rfl rfl (by decide) ?_
        refine r_iload 144 dX11_bed_142 rfl rfl ?_
        refine r_istore6 146 dX11_bed_144 rfl rfl (by decide) ?_
        refine r_iload 148 dX11_bed_146 rfl rfl ?_
        refine r_istore7 150 dX11_bed_148 rfl rfl (by decide) ?_
        refine r_iinc8 153 dX11_bed_150 rfl rfl (by decide) ?_
        refine r_goto 50 dX11_bed_153 (by decide) ?_
        have hk1 : fBedK (c 51) G p n ho i = 100 * (r67 : Int) + (r87 + r105) := by unfold fBedK; rw [e67, e87, e105]; rfl
        rcases hA with ⟨a1, a2, a3, a4⟩ | ⟨r, hr, hf, hw, hq, hS⟩
        · first
            | (exfalso; omega)
            | (refine ih (i + 1) _ _ _ _ _ (by omega) (Or.inr ⟨i, by omega, rfl, by rw [e67]; rfl, by rw [e87, e105]; rfl, fun s hs => ?_⟩)
               rw [show s = i by omega]
               exact ⟨Int.le_refl _, fun _ => Nat.le_refl _⟩)
        · have hk2 : fBedK (c 51) G p n ho r = 100 * w + q := by unfold fBedK; rw [hw, hq]
          have hb2 := fFar_bd (show r < 64 by omega) hho2
          first
            | (exfalso; omega)
            | (refine ih (i + 1) _ _ _ _ _ (by omega) (Or.inr ⟨i, by omega, rfl, by rw [e67]; rfl, by rw [e87, e105]; rfl, fun s hs => ?_⟩)
               by_cases e : s = i
               · rw [e]; exact ⟨Int.le_refl _, fun _ => Nat.le_refl _⟩
               · have h1 := hS s (by omega)
                 exact ⟨by omega, fun z => by omega⟩)
            | (refine ih (i + 1) _ _ _ _ _ (by omega) (Or.inr ⟨r, by omega, hf, hw, hq, fun s hs => ?_⟩)
               by_cases e : s = i
               · rw [e]; exact ⟨by omega, fun _ => by omega⟩
               · exact hS s (by omega))
      · refine r_iload 119 dX11_bed_117 rfl rfl ?_
        refine r_iload 121 dX11_bed_119 rfl rfl ?_
        refine r_iclt 138 124 dX11_bed_121 rfl (by decide) (by omega) (by omega) (fun h121 => ?_) (fun h121 => ?_)
        · refine r_iload 140 dX11_bed_138 rfl rfl ?_
          refine r_istore5 142 dX11_bed_140 rfl rfl (by decide) ?_
          refine r_iload 144 dX11_bed_142 rfl rfl ?_
          refine r_istore6 146 dX11_bed_144 rfl rfl (by decide) ?_
          refine r_iload 148 dX11_bed_146 rfl rfl ?_
          refine r_istore7 150 dX11_bed_148 rfl rfl (by decide) ?_
          refine r_iinc8 153 dX11_bed_150 rfl rfl (by decide) ?_
          refine r_goto 50 dX11_bed_153 (by decide) ?_
          have hk1 : fBedK (c 51) G p n ho i = 100 * (r67 : Int) + (r87 + r105) := by unfold fBedK; rw [e67, e87, e105]; rfl
          rcases hA with ⟨a1, a2, a3, a4⟩ | ⟨r, hr, hf, hw, hq, hS⟩
          · first
              | (exfalso; omega)
              | (refine ih (i + 1) _ _ _ _ _ (by omega) (Or.inr ⟨i, by omega, rfl, by rw [e67]; rfl, by rw [e87, e105]; rfl, fun s hs => ?_⟩)
                 rw [show s = i by omega]
                 exact ⟨Int.le_refl _, fun _ => Nat.le_refl _⟩)
          · have hk2 : fBedK (c 51) G p n ho r = 100 * w + q := by unfold fBedK; rw [hw, hq]
            have hb2 := fFar_bd (show r < 64 by omega) hho2
            first
              | (exfalso; omega)
              | (refine ih (i + 1) _ _ _ _ _ (by omega) (Or.inr ⟨i, by omega, rfl, by rw [e67]; rfl, by rw [e87, e105]; rfl, fun s hs => ?_⟩)
                 by_cases e : s = i
                 · rw [e]; exact ⟨Int.le_refl _, fun _ => Nat.le_refl _⟩
                 · have h1 := hS s (by omega)
                   exact ⟨by omega, fun z => by omega⟩)
              | (refine ih (i + 1) _ _ _ _ _ (by omega) (Or.inr ⟨r, by omega, hf, hw, hq, fun s hs => ?_⟩)
                 by_cases e : s = i
                 · rw [e]; exact ⟨by omega, fun _ => by omega⟩
                 · exact hS s (by omega))
        · refine r_iload 126 dX11_bed_124 rfl rfl ?_
          refine r_iload 128 dX11_bed_126 rfl rfl ?_
          refine r_icne 150 131 dX11_bed_128 rfl (by decide) (by omega) (by omega) (fun h128 => ?_) (fun h128 => ?_)
          · refine r_iinc8 153 dX11_bed_150 rfl rfl (by decide) ?_
            refine r_goto 50 dX11_bed_153 (by decide) ?_
            have hk1 : fBedK (c 51) G p n ho i = 100 * (r67 : Int) + (r87 + r105) := by unfold fBedK; rw [e67, e87, e105]; rfl
            rcases hA with ⟨a1, a2, a3, a4⟩ | ⟨r, hr, hf, hw, hq, hS⟩
            · first
                | (exfalso; omega)
                | (refine ih (i + 1) _ _ _ _ _ (by omega) (Or.inr ⟨i, by omega, rfl, by rw [e67]; rfl, by rw [e87, e105]; rfl, fun s hs => ?_⟩)
                   rw [show s = i by omega]
                   exact ⟨Int.le_refl _, fun _ => Nat.le_refl _⟩)
            · have hk2 : fBedK (c 51) G p n ho r = 100 * w + q := by unfold fBedK; rw [hw, hq]
              have hb2 := fFar_bd (show r < 64 by omega) hho2
              first
                | (exfalso; omega)
                | (refine ih (i + 1) _ _ _ _ _ (by omega) (Or.inr ⟨i, by omega, rfl, by rw [e67]; rfl, by rw [e87, e105]; rfl, fun s hs => ?_⟩)
                   by_cases e : s = i
                   · rw [e]; exact ⟨Int.le_refl _, fun _ => Nat.le_refl _⟩
                   · have h1 := hS s (by omega)
                     exact ⟨by omega, fun z => by omega⟩)
                | (refine ih (i + 1) _ _ _ _ _ (by omega) (Or.inr ⟨r, by omega, hf, hw, hq, fun s hs => ?_⟩)
                   by_cases e : s = i
                   · rw [e]; exact ⟨by omega, fun _ => by omega⟩
                   · exact hS s (by omega))
          · refine r_iload 133 dX11_bed_131 rfl rfl ?_
            refine r_iload 135 dX11_bed_133 rfl rfl ?_
            refine r_icge 150 138 dX11_bed_135 rfl (by decide) (by omega) (by omega) (fun h135 => ?_) (fun h135 => ?_)
            · refine r_iinc8 153 dX11_bed_150 rfl rfl (by decide) ?_
              refine r_goto 50 dX11_bed_153 (by decide) ?_
              have hk1 : fBedK (c 51) G p n ho i = 100 * (r67 : Int) + (r87 + r105) := by unfold fBedK; rw [e67, e87, e105]; rfl
              rcases hA with ⟨a1, a2, a3, a4⟩ | ⟨r, hr, hf, hw, hq, hS⟩
              · first
                  | (exfalso; omega)
                  | (refine ih (i + 1) _ _ _ _ _ (by omega) (Or.inr ⟨i, by omega, rfl, by rw [e67]; rfl, by rw [e87, e105]; rfl, fun s hs => ?_⟩)
                     rw [show s = i by omega]
                     exact ⟨Int.le_refl _, fun _ => Nat.le_refl _⟩)
              · have hk2 : fBedK (c 51) G p n ho r = 100 * w + q := by unfold fBedK; rw [hw, hq]
                have hb2 := fFar_bd (show r < 64 by omega) hho2
                first
                  | (exfalso; omega)
                  | (refine ih (i + 1) _ _ _ _ _ (by omega) (Or.inr ⟨i, by omega, rfl, by rw [e67]; rfl, by rw [e87, e105]; rfl, fun s hs => ?_⟩)
                     by_cases e : s = i
                     · rw [e]; exact ⟨Int.le_refl _, fun _ => Nat.le_refl _⟩
                     · have h1 := hS s (by omega)
                       exact ⟨by omega, fun z => by omega⟩)
                  | (refine ih (i + 1) _ _ _ _ _ (by omega) (Or.inr ⟨r, by omega, hf, hw, hq, fun s hs => ?_⟩)
                     by_cases e : s = i
                     · rw [e]; exact ⟨by omega, fun _ => by omega⟩
                     · exact hS s (by omega))
            · refine r_iload 140 dX11_bed_138 rfl rfl ?_
              refine r_istore5 142 dX11_bed_140 rfl rfl (by decide) ?_
              refine r_iload 144 dX11_bed_142 rfl rfl ?_
              refine r_istore6 146 dX11_bed_144 rfl rfl (by decide) ?_
              refine r_iload 148 dX11_bed_146 rfl rfl ?_
              refine r_istore7 150 dX11_bed_148 rfl rfl (by decide) ?_
              refine r_iinc8 153 dX11_bed_150 rfl rfl (by decide) ?_
              refine r_goto 50 dX11_bed_153 (by decide) ?_
              have hk1 : fBedK (c 51) G p n ho i = 100 * (r67 : Int) + (r87 + r105) := by unfold fBedK; rw [e67, e87, e105]; rfl
              rcases hA with ⟨a1, a2, a3, a4⟩ | ⟨r, hr, hf, hw, hq, hS⟩
              · first
                  | (exfalso; omega)
                  | (refine ih (i + 1) _ _ _ _ _ (by omega) (Or.inr ⟨i, by omega, rfl, by rw [e67]; rfl, by rw [e87, e105]; rfl, fun s hs => ?_⟩)
                     rw [show s = i by omega]
                     exact ⟨Int.le_refl _, fun _ => Nat.le_refl _⟩)
              · have hk2 : fBedK (c 51) G p n ho r = 100 * w + q := by unfold fBedK; rw [hw, hq]
                have hb2 := fFar_bd (show r < 64 by omega) hho2
                first
                  | (exfalso; omega)
                  | (refine ih (i + 1) _ _ _ _ _ (by omega) (Or.inr ⟨i, by omega, rfl, by rw [e67]; rfl, by rw [e87, e105]; rfl, fun s hs => ?_⟩)
                     by_cases e : s = i
                     · rw [e]; exact ⟨Int.le_refl _, fun _ => Nat.le_refl _⟩
                     · have h1 := hS s (by omega)
                       exact ⟨by omega, fun z => by omega⟩)
                  | (refine ih (i + 1) _ _ _ _ _ (by omega) (Or.inr ⟨r, by omega, hf, hw, hq, fun s hs => ?_⟩)
                     by_cases e : s = i
                     · rw [e]; exact ⟨by omega, fun _ => by omega⟩
                     · exact hS s (by omega))
theorem m_bed {z : xZ} {d : Nat} {Q : tQ} {c : tC} {L : tL} {n : Nat} {p a b : Int} (hR : RX c) (hn : c 50 0 2 = (n : Int)) (hp : inR p) (ha : inR a) (hb : inR b) (k : ∀ r w, (r, w) = gBed (c 50 0) (c 51) p a b → Q (some (.int (iI r))) (mRe c w) L) : En z (d + 20) MX11_bed Q 0 [some (.ref (xad z 50 0)), some (.int (iI p)), some (.int (iI a)), some (.int (iI b)), none, none, none, none, none, none, none] [] c L := by
  have p1 := hp.1
  have p2 := hp.2
  have a1 := ha.1
  have a2 := ha.2
  have b1 := hb.1
  have b2 := hb.2
  have hg := R0_rng hR
  have hc := R0_scal hR
  refine r_aloadN 1 dX11_bed_0 rfl rfl ?_
  refine r_iloadN 2 dX11_bed_1 rfl rfl ?_
  refine r_cv1 5 dX11_bed_2 rfl gX11_197 rfl (by decide) (sh_50 z _) rfl rfl (Nat.le_of_ble_eq_true rfl) (Nat.le_of_ble_eq_true rfl) rfl ?_
  refine m_isPerson hR (by assumption) (fun y2 => ?_) (fun y2 => ?_)
  · refine r_ifneT 14 0 dX11_bed_5 (by decide) (by decide) (by decide) ?_
    refine r_aloadN 15 dX11_bed_14 rfl rfl ?_
    refine r_iloadN 16 dX11_bed_15 rfl rfl ?_
    refine r_iloadN 17 dX11_bed_16 rfl rfl ?_
    refine r_cv2 20 dX11_bed_17 rfl gX11_334 rfl (by decide) (sh_50 z _) rfl rfl (Nat.le_of_ble_eq_true rfl) (Nat.le_of_ble_eq_true rfl) rfl ?_
    refine m_isHours (by assumption) (by assumption) (fun y17 => ?_) (fun y17 => ?_)
    · refine r_ifneT 30 0 dX11_bed_20 (by decide) (by decide) (by decide) ?_
      obtain ⟨p0, hp00⟩ := Int.eq_ofNat_of_zero_le (show 0 ≤ p by omega)
      subst hp00
      have hpp := R0_per hR p0 (by omega)
      obtain ⟨ho, hho⟩ := Int.eq_ofNat_of_zero_le (show 0 ≤ c 51 14 p0 by omega)
      refine r_aloadN 31 dX11_bed_30 rfl rfl ?_
      refine r_iloadN 32 dX11_bed_31 rfl rfl ?_
      refine r_iloadN 33 dX11_bed_32 rfl rfl ?_
      refine r_cv2 36 dX11_bed_33 rfl gX11_328 rfl (by decide) (sh_50 z _) rfl rfl (Nat.le_of_ble_eq_true rfl) (Nat.le_of_ble_eq_true rfl) rfl ?_
      refine m_sounding hR hn (by omega) (fun r33 e33 => ?_)
      subst e33
      refine r_istore4 38 dX11_bed_36 rfl rfl (by decide) ?_
      refine r_iconst 39 dX11_bed_38 rfl ?_
      refine r_istore5 41 dX11_bed_39 rfl rfl (by decide) ?_
      refine r_iconst 42 dX11_bed_41 rfl ?_
      refine r_istore6 44 dX11_bed_42 rfl rfl (by decide) ?_
      refine r_iconst 45 dX11_bed_44 rfl ?_
      refine r_istore7 47 dX11_bed_45 rfl rfl (by decide) ?_
      refine r_iconst 48 dX11_bed_47 rfl ?_
      refine r_istore8 50 dX11_bed_48 rfl rfl (by decide) ?_
      exact m_bed_loop hR hn (by omega) hho (by omega) (fun r P => k r 0 (by unfold gBed; rw [if_neg (by omega), if_neg (by omega), hn, Int.toNat_natCast, Int.toNat_natCast, hho, Int.toNat_natCast, theN_eq (P := fBedP (c 51) (gMask (c 50 0) (c 51) a b) p0 n ho) (x := r) P (fun y hy => fBedP_one P hy)])) 64 0 _ _ _ none none (by omega) (Or.inl ⟨rfl, rfl, rfl, rfl⟩)
    · refine r_ifneF 23 dX11_bed_20 rfl 30 (by decide) (by decide) (by decide) ?_
      refine r_aloadN 24 dX11_bed_23 rfl rfl ?_
      refine r_bipush 26 dX11_bed_24 rfl (by decide) ?_
      refine r_cv1 29 dX11_bed_26 rfl gX11_184 rfl (by decide) (sh_50 z _) rfl rfl (Nat.le_of_ble_eq_true rfl) (Nat.le_of_ble_eq_true rfl) rfl ?_
      refine m_no (k0 := 6) (by decide) (by decide) ?_
      refine r_ret dX11_bed_29 rfl (k _ 6 ?_)
      unfold gBed
      rw [if_neg (by omega), if_pos (by omega)]
  · refine r_ifneF 8 dX11_bed_5 rfl 14 (by decide) (by decide) (by decide) ?_
    refine r_aloadN 9 dX11_bed_8 rfl rfl ?_
    refine r_iconst 10 dX11_bed_9 rfl ?_
    refine r_cv1 13 dX11_bed_10 rfl gX11_184 rfl (by decide) (sh_50 z _) rfl rfl (Nat.le_of_ble_eq_true rfl) (Nat.le_of_ble_eq_true rfl) rfl ?_
    refine m_no (k0 := 1) (by decide) (by decide) ?_
    refine r_ret dX11_bed_13 rfl (k _ 1 ?_)
    unfold gBed
    rw [if_pos (by omega)]
theorem p2_lt {i : Nat} (h : i ≤ 30) : (2 : Nat) ^ i ≤ 1073741824 := Nat.pow_le_pow_right (n := 2) (by decide) h
theorem p2_in {i : Nat} (h : i ≤ 30) : -2147483648 ≤ ((2 ^ i : Nat) : Int) ∧ ((2 ^ i : Nat) : Int) < 2147483648 := by
  have h1 := p2_lt h
  generalize (2 : Nat) ^ i = x at h1
  omega
theorem m_rid {z : xZ} {d : Nat} {Q : tQ} {c : tC} {L : tL} {n : Nat} {v a b : Int} (hR : RX c) (hn : c 50 0 2 = (n : Int)) (hv : inR v) (ha : inR a) (hb : inR b) (k : ∀ r w (c2 : tC), efr c c2 → (r, w) = gRid (c 50 0) (c 51) v a b → Q (some (.int (iI r))) (mRe c2 w) L) : En z (d + 20) MX11_rid Q 0 [some (.ref (xad z 50 0)), some (.int (iI v)), some (.int (iI a)), some (.int (iI b))] [] c L := by
  have v1 := hv.1
  have v2 := hv.2
  have a1 := ha.1
  have a2 := ha.2
  have b1 := hb.1
  have b2 := hb.2
  have hg := R0_rng hR
  have hc := R0_scal hR
  refine r_iloadN 1 dX11_rid_0 rfl rfl ?_
  refine r_iflt 14 4 dX11_rid_1 rfl (by decide) (by omega) (fun h1 => ?_) (fun h1 => ?_)
  · refine r_aloadN 15 dX11_rid_14 rfl rfl ?_
    refine r_iconst 16 dX11_rid_15 rfl ?_
    refine r_cv1 19 dX11_rid_16 rfl gX11_184 rfl (by decide) (sh_50 z _) rfl rfl (Nat.le_of_ble_eq_true rfl) (Nat.le_of_ble_eq_true rfl) rfl ?_
    refine m_no (k0 := 1) (by decide) (by decide) ?_
    refine r_ret dX11_rid_19 rfl (k _ 1 c (efr_rfl c) ?_)
    unfold gRid
    rw [if_pos (by rw [hn, Int.toNat_natCast]; omega)]
  · refine r_iloadN 5 dX11_rid_4 rfl rfl ?_
    refine r_iconst 6 dX11_rid_5 rfl ?_
    refine r_aloadN 7 dX11_rid_6 rfl rfl ?_
    refine r_geti 10 dX11_rid_7 rfl fX11_174 (by decide) (sh_50 z _) rfl ?_
    refine r_ishl 11 dX11_rid_10 rfl ?_
    rw [hn, ishl_one n (by omega)]
    have hp14 : (2 : Nat) ^ n ≤ 2 ^ 14 := Nat.pow_le_pow_right (by decide) (by omega)
    refine r_iclt 20 14 dX11_rid_11 rfl (by decide) (by omega) (p2_in (by omega)) (fun h11 => ?_) (fun h11 => ?_)
    · refine r_aloadN 21 dX11_rid_20 rfl rfl ?_
      refine r_iloadN 22 dX11_rid_21 rfl rfl ?_
      refine r_iloadN 23 dX11_rid_22 rfl rfl ?_
      refine r_cv2 26 dX11_rid_23 rfl gX11_334 rfl (by decide) (sh_50 z _) rfl rfl (Nat.le_of_ble_eq_true rfl) (Nat.le_of_ble_eq_true rfl) rfl ?_
      refine m_isHours (by assumption) (by assumption) (fun y23 => ?_) (fun y23 => ?_)
      · refine r_ifneT 36 0 dX11_rid_26 (by decide) (by decide) (by decide) ?_
        obtain ⟨X, hX0⟩ := Int.eq_ofNat_of_zero_le (show 0 ≤ v by omega)
        subst hX0
        obtain ⟨pe, hpe⟩ := Int.eq_ofNat_of_zero_le (show 0 ≤ c 50 0 1 by omega)
        refine r_aloadN 37 dX11_rid_36 rfl rfl ?_
        refine r_iloadN 38 dX11_rid_37 rfl rfl ?_
        refine r_iloadN 39 dX11_rid_38 rfl rfl ?_
        refine r_cv2 42 dX11_rid_39 rfl gX11_337 rfl (by decide) (sh_50 z _) rfl rfl (Nat.le_of_ble_eq_true rfl) (Nat.le_of_ble_eq_true rfl) rfl ?_
        refine m_ears hR hn hpe (by omega) (fun c2 f2 E2 => ?_)
        refine r_aloadN 43 dX11_rid_42 rfl rfl ?_
        refine r_iloadN 44 dX11_rid_43 rfl rfl ?_
        refine r_cv1 47 dX11_rid_44 rfl gX11_341 rfl (by decide) (sh_50 z _) rfl rfl (Nat.le_of_ble_eq_true rfl) (Nat.le_of_ble_eq_true rfl) rfl ?_
        refine m_ridBy (n := n) (pe := pe) (A := c 51) (G := fun s => fSome (c 50 0) (c 51) s a (b + 1 - a).toNat) (by omega) (by rw [f2.1 50 (by decide)]; exact hpe) (by omega) (by omega) E2 (fun r44 e44 => ?_)
        refine r_ret dX11_rid_47 rfl (k _ 0 c2 f2 ?_)
        unfold gRid
        rw [if_neg (by rw [hn, Int.toNat_natCast]; omega), if_neg (by omega), e44, hn, hpe, Int.toNat_natCast, Int.toNat_natCast, Int.toNat_natCast]
        rfl
      · refine r_ifneF 29 dX11_rid_26 rfl 36 (by decide) (by decide) (by decide) ?_
        refine r_aloadN 30 dX11_rid_29 rfl rfl ?_
        refine r_bipush 32 dX11_rid_30 rfl (by decide) ?_
        refine r_cv1 35 dX11_rid_32 rfl gX11_184 rfl (by decide) (sh_50 z _) rfl rfl (Nat.le_of_ble_eq_true rfl) (Nat.le_of_ble_eq_true rfl) rfl ?_
        refine m_no (k0 := 6) (by decide) (by decide) ?_
        refine r_ret dX11_rid_35 rfl (k _ 6 c (efr_rfl c) ?_)
        unfold gRid
        rw [if_neg (by rw [hn, Int.toNat_natCast]; omega), if_pos (by omega)]
    · refine r_aloadN 15 dX11_rid_14 rfl rfl ?_
      refine r_iconst 16 dX11_rid_15 rfl ?_
      refine r_cv1 19 dX11_rid_16 rfl gX11_184 rfl (by decide) (sh_50 z _) rfl rfl (Nat.le_of_ble_eq_true rfl) (Nat.le_of_ble_eq_true rfl) rfl ?_
      refine m_no (k0 := 1) (by decide) (by decide) ?_
      refine r_ret dX11_rid_19 rfl (k _ 1 c (efr_rfl c) ?_)
      unfold gRid
      rw [if_pos (by rw [hn, Int.toNat_natCast]; omega)]
theorem bW_all : ∀ n, n < 31 → ∀ k, k < 32 → 0 ≤ bW n k ∧ bW n k ≤ 155117520 := by decide +kernel
theorem cntN_all {f : Nat → Bool} : ∀ {n : Nat}, (∀ i, i < n → f i = true) → cntN f n = n := by
  intro n
  induction n with
  | zero => intro _; rfl
  | succ n ih => intro h; rw [cntN, ih (fun i hi => h i (by omega)), h n (by omega)]; rfl
theorem fDb_is {v : Int} {i : Nat} (hi : i ≤ 30) (h : ∀ j, j < i → ((2 ^ j : Nat) : Int) < v) (h2 : i = 30 ∨ v ≤ ((2 ^ i : Nat) : Int)) : fDb v = i := by
  unfold fDb
  have e : cntN (fun j => decide (((2 ^ j : Nat) : Int) < v)) (i + (30 - i)) = cntN (fun j => decide (((2 ^ j : Nat) : Int) < v)) i := by
    rcases h2 with h2 | h2
    · rw [h2]
    · refine cntN_up fun j hj => decide_eq_false ?_
      have : (2 : Nat) ^ i ≤ 2 ^ j := Nat.pow_le_pow_right (by decide) hj
      omega
  rw [show i + (30 - i) = 30 by omega] at e
  rw [e, cntN_all (fun j hj => decide_eq_true (h j hj))]
theorem fDb_half {v : Int} (h : 2 ≤ v ∧ v ≤ 1000) : fDb v = fDb ((v + 1) / 2) + 1 := by
  unfold fDb
  have e1 := cntN_shift (fun j => decide (((2 ^ j : Nat) : Int) < v)) 29
  rw [if_pos (decide_eq_true (by show ((1 : Nat) : Int) < v; omega))] at e1
  have e2 : cntN (fun j => decide (((2 ^ j : Nat) : Int) < (v + 1) / 2)) 30 = cntN (fun j => decide (((2 ^ j : Nat) : Int) < (v + 1) / 2)) 29 := by
    show cntN _ 29 + _ = _
    rw [if_neg]
    · rfl
    · intro q
      have := of_decide_eq_true q
      rw [show (2 : Nat) ^ 29 = 536870912 by decide] at this
      omega
  rw [e1, e2, Nat.add_comm]
  congr 1
  refine cntN_ext fun j hj => ?_
  have e : (2 : Nat) ^ (j + 1) = 2 * 2 ^ j := by rw [Nat.pow_succ, Nat.mul_comm]
  by_cases q : ((2 ^ j : Nat) : Int) < (v + 1) / 2
  · rw [decide_eq_true q, decide_eq_true (by omega)]
  · rw [decide_eq_false q, decide_eq_false (by omega)]
theorem x_dbl_loop {z : xZ} {d : Nat} {Q : tQ} {c : tC} {L : tL} {v : Int} (hv : 0 ≤ v ∧ v ≤ 2000000) (kk : ∀ r, r = ((fDb v : Nat) : Int) → Q (some (.int (iI r))) c L) : ∀ (k i : Nat) , i + k = 30 → (∀ j, j < i → ((2 ^ j : Nat) : Int) < v) → En z (d + 1) MX10_doublingsTo Q 2 [some (.int (iI v)), some (.int (iI (i : Int)))] [] c L := by
  intro k
  induction k with
  | zero =>
    intro i hi hA
    have hp2 := p2_lt (i := i) (by omega)
    refine r_iloadN 3 dX10_doublingsTo_2 rfl rfl ?_
    refine r_bipush 5 dX10_doublingsTo_3 rfl (by decide) ?_
    refine r_icge 21 8 dX10_doublingsTo_5 rfl (by decide) (by omega) (by omega) (fun h5 => ?_) (fun h5 => ?_)
    · refine r_iloadN 22 dX10_doublingsTo_21 rfl rfl ?_
      refine r_ret dX10_doublingsTo_22 rfl (kk _ ?_)
      rw [fDb_is (i := i) (by omega) hA (by omega)]
    · exfalso; omega
  | succ k ih =>
    intro i hi hA
    have hp2 := p2_lt (i := i) (by omega)
    refine r_iloadN 3 dX10_doublingsTo_2 rfl rfl ?_
    refine r_bipush 5 dX10_doublingsTo_3 rfl (by decide) ?_
    refine r_icge 21 8 dX10_doublingsTo_5 rfl (by decide) (by omega) (by omega) (fun h5 => ?_) (fun h5 => ?_)
    · refine r_iloadN 22 dX10_doublingsTo_21 rfl rfl ?_
      refine r_ret dX10_doublingsTo_22 rfl (kk _ ?_)
      rw [fDb_is (i := i) (by omega) hA (by omega)]
    · refine r_iconst 9 dX10_doublingsTo_8 rfl ?_
      refine r_iloadN 10 dX10_doublingsTo_9 rfl rfl ?_
      refine r_ishl 11 dX10_doublingsTo_10 rfl ?_
      rw [ishl_one i (by omega)]
      refine r_iloadN 12 dX10_doublingsTo_11 rfl rfl ?_
      refine r_icge 21 15 dX10_doublingsTo_12 rfl (by decide) (p2_in (by omega)) (by omega) (fun h12 => ?_) (fun h12 => ?_)
      · refine r_iloadN 22 dX10_doublingsTo_21 rfl rfl ?_
        refine r_ret dX10_doublingsTo_22 rfl (kk _ ?_)
        rw [fDb_is (i := i) (by omega) hA (by omega)]
      · refine r_iinc1 18 dX10_doublingsTo_15 rfl rfl (by decide) ?_
        refine r_goto 2 dX10_doublingsTo_18 (by decide) ?_
        refine ih (i + 1) (by omega) (fun j hj => ?_)
        by_cases e : j = i
        · rw [e]; exact h12
        · exact hA j (by omega)
theorem x_dbl {z : xZ} {d : Nat} {Q : tQ} {c : tC} {L : tL} {v : Int} (hv : 0 ≤ v ∧ v ≤ 2000000) (k : ∀ r, r = ((fDb v : Nat) : Int) → Q (some (.int (iI r))) c L) : En z (d + 1) MX10_doublingsTo Q 0 [some (.int (iI v)), none] [] c L := by
  refine r_iconst 1 dX10_doublingsTo_0 rfl ?_
  refine r_istore1 2 dX10_doublingsTo_1 rfl rfl (by decide) ?_
  exact x_dbl_loop hv k 30 0 rfl (fun j hj => by omega)
theorem x_need {z : xZ} {d : Nat} {Q : tQ} {c : tC} {L : tL} {n : Nat} {v : Int} (hR : RX c) (hn : c 50 0 2 = (n : Int)) (hv : inR v) (k : ∀ r w, (r, w) = gNeed v → Q (some (.int (iI r))) (xRe c w) L) : En z (d + 20) MX10_need Q 0 [some (.ref (xad z 0 0)), some (.int (iI v))] [] c L := by
  have v1 := hv.1
  have v2 := hv.2
  have hg := R0_rng hR
  have hc := R0_scal hR
  refine r_iloadN 1 dX10_need_0 rfl rfl ?_
  refine r_iconst 2 dX10_need_1 rfl ?_
  refine r_ldcw (n := 1000000) 5 dX10_need_2 rfl (kX10_332 z) ?_
  refine r_cs3 8 dX10_need_5 rfl gX10_137 (Nat.le_of_ble_eq_true rfl) (Nat.le_of_ble_eq_true rfl) rfl ?_
  refine x_isWithin (by assumption) (by omega) (by omega) (fun y5 => ?_) (fun y5 => ?_)
  · refine r_ifeqF 11 dX10_need_8 rfl 20 (by decide) (by decide) (by decide) ?_
    refine r_iloadN 12 dX10_need_11 rfl rfl ?_
    refine r_iconst 13 dX10_need_12 rfl ?_
    refine r_iadd 14 dX10_need_13 rfl ?_
    refine r_cs1 17 dX10_need_14 rfl gX10_333 (Nat.le_of_ble_eq_true rfl) (Nat.le_of_ble_eq_true rfl) rfl ?_
    refine x_dbl (by omega) (fun r14 e14 => ?_)
    refine r_goto 26 dX10_need_17 (by decide) ?_
    first
      | (refine r_ret dX10_need_26 rfl (k _ 0 ?_); unfold gNeed; rw [if_pos y5, e14])
      | (refine r_ret dX10_need_26 rfl (k _ 6 ?_); unfold gNeed; rw [if_neg y5])
  · refine r_ifeqT 20 0 dX10_need_8 (by decide) (by decide) (by decide) ?_
    refine r_aloadN 21 dX10_need_20 rfl rfl ?_
    refine r_bipush 23 dX10_need_21 rfl (by decide) ?_
    refine r_cv1 26 dX10_need_23 rfl gX10_60 rfl (by decide) (sh_0 z _) rfl rfl (Nat.le_of_ble_eq_true rfl) (Nat.le_of_ble_eq_true rfl) rfl ?_
    refine x_refuse (k0 := 6) (by decide) (by decide) ?_
    first
      | (refine r_ret dX10_need_26 rfl (k _ 0 ?_); unfold gNeed; rw [if_pos y5, e14])
      | (refine r_ret dX10_need_26 rfl (k _ 6 ?_); unfold gNeed; rw [if_neg y5])
theorem x_halve {z : xZ} {d : Nat} {Q : tQ} {c : tC} {L : tL} {n : Nat} {v : Int} (hR : RX c) (hn : c 50 0 2 = (n : Int)) (hv : inR v) (k : ∀ r w, (r, w) = gHalve v → Q (some (.int (iI r))) (xRe c w) L) : En z (d + 20) MX10_halve Q 0 [some (.ref (xad z 0 0)), some (.int (iI v))] [] c L := by
  have v1 := hv.1
  have v2 := hv.2
  have hg := R0_rng hR
  have hc := R0_scal hR
  refine r_iloadN 1 dX10_halve_0 rfl rfl ?_
  refine r_iconst 2 dX10_halve_1 rfl ?_
  refine r_sipush 5 dX10_halve_2 rfl (by decide) ?_
  refine r_cs3 8 dX10_halve_5 rfl gX10_137 (Nat.le_of_ble_eq_true rfl) (Nat.le_of_ble_eq_true rfl) rfl ?_
  refine x_isWithin (by assumption) (by omega) (by omega) (fun y5 => ?_) (fun y5 => ?_)
  · refine r_ifeqF 11 dX10_halve_8 rfl 18 (by decide) (by decide) (by decide) ?_
    refine r_iloadN 12 dX10_halve_11 rfl rfl ?_
    refine r_cs1 15 dX10_halve_12 rfl gX10_333 (Nat.le_of_ble_eq_true rfl) (Nat.le_of_ble_eq_true rfl) rfl ?_
    refine x_dbl (by omega) (fun r12 e12 => ?_)
    refine r_goto 24 dX10_halve_15 (by decide) ?_
    first
      | (refine r_ret dX10_halve_24 rfl (k _ 0 ?_); unfold gHalve; rw [if_pos y5, e12])
      | (refine r_ret dX10_halve_24 rfl (k _ 6 ?_); unfold gHalve; rw [if_neg y5])
  · refine r_ifeqT 18 0 dX10_halve_8 (by decide) (by decide) (by decide) ?_
    refine r_aloadN 19 dX10_halve_18 rfl rfl ?_
    refine r_bipush 21 dX10_halve_19 rfl (by decide) ?_
    refine r_cv1 24 dX10_halve_21 rfl gX10_60 rfl (by decide) (sh_0 z _) rfl rfl (Nat.le_of_ble_eq_true rfl) (Nat.le_of_ble_eq_true rfl) rfl ?_
    refine x_refuse (k0 := 6) (by decide) (by decide) ?_
    first
      | (refine r_ret dX10_halve_24 rfl (k _ 0 ?_); unfold gHalve; rw [if_pos y5, e12])
      | (refine r_ret dX10_halve_24 rfl (k _ 6 ?_); unfold gHalve; rw [if_neg y5])
theorem m_need_loop {z : xZ} {d : Nat} {Q : tQ} {c : tC} {L : tL} {v : Int} (hv : 0 ≤ v ∧ v ≤ 1000000) (kk : ∀ r, r = ((fDb (v + 1) : Nat) : Int) → Q (some (.int (iI r))) c L) : ∀ (k i : Nat) , i + k = 29 → (∀ j, j < i → ((2 ^ j : Nat) : Int) < v + 1) → En z (d + 1) MX11_need_ Q 20 [some (.ref (xad z 50 0)), some (.int (iI v)), some (.int (iI (i : Int)))] [] c L := by
  intro k
  induction k with
  | zero =>
    intro i hi hA
    have hp2 := p2_lt (i := i) (by omega)
    refine r_iconst 21 dX11_need__20 rfl ?_
    refine r_iloadN 22 dX11_need__21 rfl rfl ?_
    refine r_ishl 23 dX11_need__22 rfl ?_
    rw [ishl_one i (by omega)]
    refine r_iloadN 24 dX11_need__23 rfl rfl ?_
    refine r_icgt 33 27 dX11_need__24 rfl (by decide) (p2_in (by omega)) (by omega) (fun h24 => ?_) (fun h24 => ?_)
    · refine r_iloadN 34 dX11_need__33 rfl rfl ?_
      refine r_ret dX11_need__34 rfl (kk _ ?_)
      rw [fDb_is (i := i) (by omega) hA (by omega)]
    · exfalso
      have e29 : (2 : Nat) ^ 29 = 536870912 := by decide
      rw [show i = 29 by omega, e29] at h24
      omega
  | succ k ih =>
    intro i hi hA
    have hp2 := p2_lt (i := i) (by omega)
    refine r_iconst 21 dX11_need__20 rfl ?_
    refine r_iloadN 22 dX11_need__21 rfl rfl ?_
    refine r_ishl 23 dX11_need__22 rfl ?_
    rw [ishl_one i (by omega)]
    refine r_iloadN 24 dX11_need__23 rfl rfl ?_
    refine r_icgt 33 27 dX11_need__24 rfl (by decide) (p2_in (by omega)) (by omega) (fun h24 => ?_) (fun h24 => ?_)
    · refine r_iloadN 34 dX11_need__33 rfl rfl ?_
      refine r_ret dX11_need__34 rfl (kk _ ?_)
      rw [fDb_is (i := i) (by omega) hA (by omega)]
    · refine r_iinc2 30 dX11_need__27 rfl rfl (by decide) ?_
      refine r_goto 20 dX11_need__30 (by decide) ?_
      refine ih (i + 1) (by omega) (fun j hj => ?_)
      by_cases e : j = i
      · rw [e]; omega
      · exact hA j (by omega)
theorem m_need_ {z : xZ} {d : Nat} {Q : tQ} {c : tC} {L : tL} {n : Nat} {v : Int} (hR : RX c) (hn : c 50 0 2 = (n : Int)) (hv : inR v) (k : ∀ r w, (r, w) = gNeed v → Q (some (.int (iI r))) (mRe c w) L) : En z (d + 20) MX11_need_ Q 0 [some (.ref (xad z 50 0)), some (.int (iI v)), none] [] c L := by
  have v1 := hv.1
  have v2 := hv.2
  have hg := R0_rng hR
  have hc := R0_scal hR
  refine r_iloadN 1 dX11_need__0 rfl rfl ?_
  refine r_iflt 11 4 dX11_need__1 rfl (by decide) (by omega) (fun h1 => ?_) (fun h1 => ?_)
  · refine r_aloadN 12 dX11_need__11 rfl rfl ?_
    refine r_bipush 14 dX11_need__12 rfl (by decide) ?_
    refine r_cv1 17 dX11_need__14 rfl gX11_184 rfl (by decide) (sh_50 z _) rfl rfl (Nat.le_of_ble_eq_true rfl) (Nat.le_of_ble_eq_true rfl) rfl ?_
    refine m_no (k0 := 6) (by decide) (by decide) ?_
    refine r_ret dX11_need__17 rfl (k _ 6 ?_)
    unfold gNeed
    rw [if_neg (by omega)]
  · refine r_iloadN 5 dX11_need__4 rfl rfl ?_
    refine r_ldcw (n := 1000000) 8 dX11_need__5 rfl (kX11_344 z) ?_
    refine r_icle 18 11 dX11_need__8 rfl (by decide) (by omega) (by omega) (fun h8 => ?_) (fun h8 => ?_)
    · refine r_iconst 19 dX11_need__18 rfl ?_
      refine r_istore2 20 dX11_need__19 rfl rfl (by decide) ?_
      exact m_need_loop (by omega) (fun r e => k r 0 (by unfold gNeed; rw [if_pos (by omega), e])) 29 0 rfl (fun j hj => by omega)
    · refine r_aloadN 12 dX11_need__11 rfl rfl ?_
      refine r_bipush 14 dX11_need__12 rfl (by decide) ?_
      refine r_cv1 17 dX11_need__14 rfl gX11_184 rfl (by decide) (sh_50 z _) rfl rfl (Nat.le_of_ble_eq_true rfl) (Nat.le_of_ble_eq_true rfl) rfl ?_
      refine m_no (k0 := 6) (by decide) (by decide) ?_
      refine r_ret dX11_need__17 rfl (k _ 6 ?_)
      unfold gNeed
      rw [if_neg (by omega)]
theorem m_halve_loop {z : xZ} {d : Nat} {Q : tQ} {c : tC} {L : tL} {v : Int} {T : Nat}  (kk : Q (some (.int (iI (T : Int)))) c L) : ∀ (k i : Nat) (t : Int), i ≤ k + 1 → 1 ≤ i → i ≤ 1000 → t + ((fDb (i : Int) : Nat) : Int) = (T : Int) → En z (d + 1) MX11_halve Q 23 [some (.ref (xad z 50 0)), some (.int (iI v)), some (.int (iI t)), some (.int (iI (i : Int)))] [] c L := by
  intro k
  induction k with
  | zero =>
    intro i t hi h1 h2 hT
    refine r_iloadN 24 dX11_halve_23 rfl rfl ?_
    refine r_iconst 25 dX11_halve_24 rfl ?_
    refine r_icle 40 28 dX11_halve_25 rfl (by decide) (by omega) (by omega) (fun h25 => ?_) (fun h25 => ?_)
    · refine r_iloadN 41 dX11_halve_40 rfl rfl ?_
      have e1 : fDb (i : Int) = 0 := fDb_is (i := 0) (by omega) (fun j hj => by omega) (Or.inr (by show (i : Int) ≤ ((1 : Nat) : Int); omega))
      rw [show t = (T : Int) by omega]
      exact r_ret dX11_halve_41 rfl kk
    · exfalso; omega
  | succ k ih =>
    intro i t hi h1 h2 hT
    refine r_iloadN 24 dX11_halve_23 rfl rfl ?_
    refine r_iconst 25 dX11_halve_24 rfl ?_
    refine r_icle 40 28 dX11_halve_25 rfl (by decide) (by omega) (by omega) (fun h25 => ?_) (fun h25 => ?_)
    · refine r_iloadN 41 dX11_halve_40 rfl rfl ?_
      have e1 : fDb (i : Int) = 0 := fDb_is (i := 0) (by omega) (fun j hj => by omega) (Or.inr (by show (i : Int) ≤ ((1 : Nat) : Int); omega))
      rw [show t = (T : Int) by omega]
      exact r_ret dX11_halve_41 rfl kk
    · refine r_iinc2 31 dX11_halve_28 rfl rfl (by decide) ?_
      refine r_iloadN 32 dX11_halve_31 rfl rfl ?_
      refine r_iconst 33 dX11_halve_32 rfl ?_
      refine r_iadd 34 dX11_halve_33 rfl ?_
      refine r_iconst 35 dX11_halve_34 rfl ?_
      refine r_idiv 36 dX11_halve_35 rfl (by omega) (by omega) ?_
      refine r_istore3 37 dX11_halve_36 rfl rfl (by decide) ?_
      refine r_goto 23 dX11_halve_37 (by decide) ?_
      have hh := fDb_half (v := (i : Int)) (by omega)
      rw [show ((i : Int) + 1) / 2 = (((i + 1) / 2 : Nat) : Int) by omega] at *
      exact ih ((i + 1) / 2) _ (by omega) (by omega) (by omega) (by omega)
theorem m_halve {z : xZ} {d : Nat} {Q : tQ} {c : tC} {L : tL} {n : Nat} {v : Int} (hR : RX c) (hn : c 50 0 2 = (n : Int)) (hv : inR v) (k : ∀ r w, (r, w) = gHalve v → Q (some (.int (iI r))) (mRe c w) L) : En z (d + 20) MX11_halve Q 0 [some (.ref (xad z 50 0)), some (.int (iI v)), none, none] [] c L := by
  have v1 := hv.1
  have v2 := hv.2
  have hg := R0_rng hR
  have hc := R0_scal hR
  refine r_iloadN 1 dX11_halve_0 rfl rfl ?_
  refine r_iconst 2 dX11_halve_1 rfl ?_
  refine r_iclt 12 5 dX11_halve_2 rfl (by decide) (by omega) (by omega) (fun h2 => ?_) (fun h2 => ?_)
  · refine r_aloadN 13 dX11_halve_12 rfl rfl ?_
    refine r_bipush 15 dX11_halve_13 rfl (by decide) ?_
    refine r_cv1 18 dX11_halve_15 rfl gX11_184 rfl (by decide) (sh_50 z _) rfl rfl (Nat.le_of_ble_eq_true rfl) (Nat.le_of_ble_eq_true rfl) rfl ?_
    refine m_no (k0 := 6) (by decide) (by decide) ?_
    refine r_ret dX11_halve_18 rfl (k _ 6 ?_)
    unfold gHalve
    rw [if_neg (by omega)]
  · refine r_iloadN 6 dX11_halve_5 rfl rfl ?_
    refine r_sipush 9 dX11_halve_6 rfl (by decide) ?_
    refine r_icle 19 12 dX11_halve_9 rfl (by decide) (by omega) (by omega) (fun h9 => ?_) (fun h9 => ?_)
    · obtain ⟨v0, hv00⟩ := Int.eq_ofNat_of_zero_le (show 0 ≤ v by omega)
      subst hv00
      refine r_iconst 20 dX11_halve_19 rfl ?_
      refine r_istore2 21 dX11_halve_20 rfl rfl (by decide) ?_
      refine r_iloadN 22 dX11_halve_21 rfl rfl ?_
      refine r_istore3 23 dX11_halve_22 rfl rfl (by decide) ?_
      exact m_halve_loop (T := fDb (v0 : Int)) (k _ 0 (by unfold gHalve; rw [if_pos (by omega)])) v0 v0 0 (by omega) (by omega) (by omega) (by omega)
    · refine r_aloadN 13 dX11_halve_12 rfl rfl ?_
      refine r_bipush 15 dX11_halve_13 rfl (by decide) ?_
      refine r_cv1 18 dX11_halve_15 rfl gX11_184 rfl (by decide) (sh_50 z _) rfl rfl (Nat.le_of_ble_eq_true rfl) (Nat.le_of_ble_eq_true rfl) rfl ?_
      refine m_no (k0 := 6) (by decide) (by decide) ?_
      refine r_ret dX11_halve_18 rfl (k _ 6 ?_)
      unfold gHalve
      rw [if_neg (by omega)]
