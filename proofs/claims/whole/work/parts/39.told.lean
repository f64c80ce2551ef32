theorem x_press {z : xZ} {d : Nat} {Q : tQ} {c : tC} {L : tL} {n : Nat} {p v : Int} {n9 : Nat} (hR : RX c) (hn : c 50 0 2 = (n : Int)) (hp : inR p) (hv : inR v) (hv01 : v = 0 ∨ v = 1) (h9 : c 50 0 9 = (n9 : Int)) (kb : ∀ r w, w ≠ 0 → (r, w) = gPress (c 50 0) p → Q (some (.int (iI r))) (xRe c w) L) (k : ∀ r, (r, 0) = gPress (c 50 0) p → Q (some (.int (iI r))) (uDia (cu c 16 0 1 (c 50 0 3 + 1)) n9 p (c 50 0 0) (c 51 14 p.toNat) v) L) : En z (d + 20) MX10_press Q 0 [some (.ref (xad z 0 0)), some (.int (iI p)), some (.int (iI v))] [] c L := by
  have p1 := hp.1
  have p2 := hp.2
  have v1 := hv.1
  have v2 := hv.2
  have hg := R0_rng hR
  have hc := R0_scal hR
  refine r_aloadN 1 dX10_press_0 rfl rfl ?_
  refine r_getq 4 dX10_press_1 rfl fX10_26 (by decide) (sh_0 z _) rfl ?_
  refine r_iloadN 5 dX10_press_4 rfl rfl ?_
  refine r_cv1 8 dX10_press_5 rfl gX10_149 rfl (by decide) (sh_8 z _) rfl rfl (Nat.le_of_ble_eq_true rfl) (Nat.le_of_ble_eq_true rfl) rfl ?_
  refine x_isPerson hR (by assumption) (fun y5 => ?_) (fun y5 => ?_)
  · refine r_ifneT 17 0 dX10_press_8 (by decide) (by decide) (by decide) ?_
    refine r_aloadN 18 dX10_press_17 rfl rfl ?_
    refine r_getq 21 dX10_press_18 rfl fX10_26 (by decide) (sh_0 z _) rfl ?_
    refine r_getq 24 dX10_press_21 rfl fX10_256 (by decide) (sh_8 z _) rfl ?_
    refine r_geti 27 dX10_press_24 rfl fX10_260 (by decide) (sh_16 z _) rfl ?_
    refine r_bipush 29 dX10_press_27 rfl (by decide) ?_
    refine r_iclt 39 32 dX10_press_29 rfl (by decide) (by omega) (by omega) (fun h29 => ?_) (fun h29 => ?_)
    · obtain ⟨p0, hp00⟩ := Int.eq_ofNat_of_zero_le (show 0 ≤ p by omega)
      subst hp00
      have hpp := R0_per hR p0 (by omega)
      rw [Int.toNat_natCast] at k
      refine r_aloadN 40 dX10_press_39 rfl rfl ?_
      refine r_getq 43 dX10_press_40 rfl fX10_26 (by decide) (sh_0 z _) rfl ?_
      refine r_getq 46 dX10_press_43 rfl fX10_256 (by decide) (sh_8 z _) rfl ?_
      refine r_iloadN 47 dX10_press_46 rfl rfl ?_
      refine r_aloadN 48 dX10_press_47 rfl rfl ?_
      refine r_getq 51 dX10_press_48 rfl fX10_26 (by decide) (sh_0 z _) rfl ?_
      refine r_geti 54 dX10_press_51 rfl fX10_192 (by decide) (sh_8 z _) rfl ?_
      rw [hc.1]
      refine r_aloadN 55 dX10_press_54 rfl rfl ?_
      refine r_getq 58 dX10_press_55 rfl fX10_26 (by decide) (sh_0 z _) rfl ?_
      refine r_getq 61 dX10_press_58 rfl fX10_152 (by decide) (sh_8 z _) rfl ?_
      refine r_iloadN 62 dX10_press_61 rfl rfl ?_
      refine r_aald 63 dX10_press_62 (p0) rfl rfl (by decide) (sh_9a z) rfl (by decide) (by omega) (by omega) ?_
      refine r_geti 66 dX10_press_63 rfl fX10_156 (ct_12 (by omega)) (sh_12 z _) rfl ?_
      rw [hpp.1.1]
      refine r_iloadN 67 dX10_press_66 rfl rfl ?_
      refine r_cv4 70 dX10_press_67 rfl gX10_265 rfl (by decide) (sh_16 z _) rfl rfl (Nat.le_of_ble_eq_true rfl) (Nat.le_of_ble_eq_true rfl) rfl ?_
      refine x_addPress (n := n9) (q := c 50 0 3) (by omega) (by omega) (by omega) (by omega) hv01 ?_
      refine r_aloadN 71 dX10_press_70 rfl rfl ?_
      refine r_getq 74 dX10_press_71 rfl fX10_26 (by decide) (sh_0 z _) rfl ?_
      refine r_getq 77 dX10_press_74 rfl fX10_256 (by decide) (sh_8 z _) rfl ?_
      refine r_geti 80 dX10_press_77 rfl fX10_260 (by decide) (sh_16 z _) rfl ?_
      rw [show uDia (cu c 16 0 1 (c 50 0 3 + 1)) n9 (p0 : Int) (c 50 0 0) (c 51 14 p0) v 16 0 1 = c 50 0 3 + 1 from rfl]
      refine r_ret dX10_press_80 rfl (k _ ?_)
      unfold gPress
      rw [if_neg (by omega), if_neg (by omega)]
    · refine r_aloadN 33 dX10_press_32 rfl rfl ?_
      refine r_bipush 35 dX10_press_33 rfl (by decide) ?_
      refine r_cv1 38 dX10_press_35 rfl gX10_60 rfl (by decide) (sh_0 z _) rfl rfl (Nat.le_of_ble_eq_true rfl) (Nat.le_of_ble_eq_true rfl) rfl ?_
      refine x_refuse (k0 := 7) (by decide) (by decide) ?_
      refine r_ret dX10_press_38 rfl (kb _ 7 (by decide) ?_)
      unfold gPress
      rw [if_neg (by omega), if_pos (by omega)]
  · refine r_ifneF 11 dX10_press_8 rfl 17 (by decide) (by decide) (by decide) ?_
    refine r_aloadN 12 dX10_press_11 rfl rfl ?_
    refine r_iconst 13 dX10_press_12 rfl ?_
    refine r_cv1 16 dX10_press_13 rfl gX10_60 rfl (by decide) (sh_0 z _) rfl rfl (Nat.le_of_ble_eq_true rfl) (Nat.le_of_ble_eq_true rfl) rfl ?_
    refine x_refuse (k0 := 1) (by decide) (by decide) ?_
    refine r_ret dX10_press_16 rfl (kb _ 1 (by decide) ?_)
    unfold gPress
    rw [if_pos (by omega)]
theorem x_match {z : xZ} {d : Nat} {Q : tQ} {c : tC} {L : tL} {n : Nat} {p t : Int} {n9 : Nat} (hR : RX c) (hn : c 50 0 2 = (n : Int)) (hp : inR p) (ht : inR t) (h9 : c 50 0 9 = (n9 : Int)) (kb : ∀ r w, w ≠ 0 → (r, w) = gMatch (c 50 0) p t → Q (some (.int (iI r))) (xRe c w) L) (k : ∀ r, (r, 0) = gMatch (c 50 0) p t → Q (some (.int (iI r))) (uDia (cu c 16 0 2 (c 50 0 4 + 1)) n9 p (-1) 0 t) L) : En z (d + 20) MX10_match Q 0 [some (.ref (xad z 0 0)), some (.int (iI p)), some (.int (iI t))] [] c L := by
  have p1 := hp.1
  have p2 := hp.2
  have t1 := ht.1
  have t2 := ht.2
  have hg := R0_rng hR
  have hc := R0_scal hR
  refine r_aloadN 1 dX10_match_0 rfl rfl ?_
  refine r_getq 4 dX10_match_1 rfl fX10_26 (by decide) (sh_0 z _) rfl ?_
  refine r_iloadN 5 dX10_match_4 rfl rfl ?_
  refine r_cv1 8 dX10_match_5 rfl gX10_149 rfl (by decide) (sh_8 z _) rfl rfl (Nat.le_of_ble_eq_true rfl) (Nat.le_of_ble_eq_true rfl) rfl ?_
  refine x_isPerson hR (by assumption) (fun y5 => ?_) (fun y5 => ?_)
  · refine r_ifneT 17 0 dX10_match_8 (by decide) (by decide) (by decide) ?_
    refine r_iloadN 18 dX10_match_17 rfl rfl ?_
    refine r_cs1 21 dX10_match_18 rfl gX10_134 (Nat.le_of_ble_eq_true rfl) (Nat.le_of_ble_eq_true rfl) rfl ?_
    refine x_isTone (by assumption) (fun y18 => ?_) (fun y18 => ?_)
    · refine r_ifneT 31 0 dX10_match_21 (by decide) (by decide) (by decide) ?_
      refine r_aloadN 32 dX10_match_31 rfl rfl ?_
      refine r_getq 35 dX10_match_32 rfl fX10_26 (by decide) (sh_0 z _) rfl ?_
      refine r_getq 38 dX10_match_35 rfl fX10_256 (by decide) (sh_8 z _) rfl ?_
      refine r_geti 41 dX10_match_38 rfl fX10_275 (by decide) (sh_16 z _) rfl ?_
      refine r_bipush 43 dX10_match_41 rfl (by decide) ?_
      refine r_iclt 53 46 dX10_match_43 rfl (by decide) (by omega) (by omega) (fun h43 => ?_) (fun h43 => ?_)
      · refine r_aloadN 54 dX10_match_53 rfl rfl ?_
        refine r_getq 57 dX10_match_54 rfl fX10_26 (by decide) (sh_0 z _) rfl ?_
        refine r_getq 60 dX10_match_57 rfl fX10_256 (by decide) (sh_8 z _) rfl ?_
        refine r_iloadN 61 dX10_match_60 rfl rfl ?_
        refine r_iloadN 62 dX10_match_61 rfl rfl ?_
        refine r_cv2 65 dX10_match_62 rfl gX10_278 rfl (by decide) (sh_16 z _) rfl rfl (Nat.le_of_ble_eq_true rfl) (Nat.le_of_ble_eq_true rfl) rfl ?_
        refine x_addMatch (n := n9) (q := c 50 0 4) (by omega) (by omega) (by omega) (by omega) ?_
        refine r_aloadN 66 dX10_match_65 rfl rfl ?_
        refine r_getq 69 dX10_match_66 rfl fX10_26 (by decide) (sh_0 z _) rfl ?_
        refine r_getq 72 dX10_match_69 rfl fX10_256 (by decide) (sh_8 z _) rfl ?_
        refine r_geti 75 dX10_match_72 rfl fX10_275 (by decide) (sh_16 z _) rfl ?_
        rw [show uDia (cu c 16 0 2 (c 50 0 4 + 1)) n9 p (-1) 0 t 16 0 2 = c 50 0 4 + 1 from rfl]
        refine r_ret dX10_match_75 rfl (k _ ?_)
        unfold gMatch
        rw [if_neg (by omega), if_neg (by omega), if_neg (by omega)]
      · refine r_aloadN 47 dX10_match_46 rfl rfl ?_
        refine r_bipush 49 dX10_match_47 rfl (by decide) ?_
        refine r_cv1 52 dX10_match_49 rfl gX10_60 rfl (by decide) (sh_0 z _) rfl rfl (Nat.le_of_ble_eq_true rfl) (Nat.le_of_ble_eq_true rfl) rfl ?_
        refine x_refuse (k0 := 7) (by decide) (by decide) ?_
        refine r_ret dX10_match_52 rfl (kb _ 7 (by decide) ?_)
        unfold gMatch
        rw [if_neg (by omega), if_neg (by omega), if_pos (by omega)]
    · refine r_ifneF 24 dX10_match_21 rfl 31 (by decide) (by decide) (by decide) ?_
      refine r_aloadN 25 dX10_match_24 rfl rfl ?_
      refine r_bipush 27 dX10_match_25 rfl (by decide) ?_
      refine r_cv1 30 dX10_match_27 rfl gX10_60 rfl (by decide) (sh_0 z _) rfl rfl (Nat.le_of_ble_eq_true rfl) (Nat.le_of_ble_eq_true rfl) rfl ?_
      refine x_refuse (k0 := 6) (by decide) (by decide) ?_
      refine r_ret dX10_match_30 rfl (kb _ 6 (by decide) ?_)
      unfold gMatch
      rw [if_neg (by omega), if_pos (by omega)]
  · refine r_ifneF 11 dX10_match_8 rfl 17 (by decide) (by decide) (by decide) ?_
    refine r_aloadN 12 dX10_match_11 rfl rfl ?_
    refine r_iconst 13 dX10_match_12 rfl ?_
    refine r_cv1 16 dX10_match_13 rfl gX10_60 rfl (by decide) (sh_0 z _) rfl rfl (Nat.le_of_ble_eq_true rfl) (Nat.le_of_ble_eq_true rfl) rfl ?_
    refine x_refuse (k0 := 1) (by decide) (by decide) ?_
    refine r_ret dX10_match_16 rfl (kb _ 1 (by decide) ?_)
    unfold gMatch
    rw [if_pos (by omega)]
theorem x_ladd {z : xZ} {d : Nat} {Q : tQ} {c : tC} {L : tL} {n : Nat} {p h t : Int} (h0 : c 21 0 0 = (n : Int)) (hn : n < 30) (k : Q none (cu (cu (cu (cu c 22 0 n p) 23 0 n h) 24 0 n t) 21 0 0 ((n : Int) + 1)) L) : En z (d + 1) MX2_add Q 0 [some (.ref (xad z 21 0)), some (.int (iI p)), some (.int (iI h)), some (.int (iI t))] [] c L := by
  refine r_aloadN 1 dX2_add_0 rfl rfl ?_
  refine r_geti 4 dX2_add_1 rfl fX2_9 (by decide) (sh_21 z _) rfl ?_
  rw [h0]
  refine r_bipush 6 dX2_add_4 rfl (by decide) ?_
  refine r_icge 49 9 dX2_add_6 rfl (by decide) (by omega) (by omega) (fun h6 => ?_) (fun h6 => ?_)
  · first
      | (exfalso; omega)
      | exact r_vret dX2_add_49 rfl k
  · refine r_aloadN 10 dX2_add_9 rfl rfl ?_
    refine r_getq 13 dX2_add_10 rfl fX2_15 (by decide) (sh_21 z _) rfl ?_
    refine r_aloadN 14 dX2_add_13 rfl rfl ?_
    refine r_geti 17 dX2_add_14 rfl fX2_9 (by decide) (sh_21 z _) rfl ?_
    rw [h0]
    refine r_iloadN 18 dX2_add_17 rfl rfl ?_
    refine r_iast 19 dX2_add_18 (n) rfl rfl (by decide) (sh_22 z _) (by decide) (by omega) (by omega) ?_
    refine r_aloadN 20 dX2_add_19 rfl rfl ?_
    refine r_getq 23 dX2_add_20 rfl fX2_19 (by decide) (sh_21 z _) rfl ?_
    refine r_aloadN 24 dX2_add_23 rfl rfl ?_
    refine r_geti 27 dX2_add_24 rfl fX2_9 (by decide) (sh_21 z _) rfl ?_
    (try simp only [cu_ap, Nat.reduceEqDiff, false_and, and_false, if_false, reduceIte])
    rw [h0]
    refine r_iloadN 28 dX2_add_27 rfl rfl ?_
    refine r_iast 29 dX2_add_28 (n) rfl rfl (by decide) (sh_23 z _) (by decide) (by omega) (by omega) ?_
    refine r_aloadN 30 dX2_add_29 rfl rfl ?_
    refine r_getq 33 dX2_add_30 rfl fX2_22 (by decide) (sh_21 z _) rfl ?_
    refine r_aloadN 34 dX2_add_33 rfl rfl ?_
    refine r_geti 37 dX2_add_34 rfl fX2_9 (by decide) (sh_21 z _) rfl ?_
    (try simp only [cu_ap, Nat.reduceEqDiff, false_and, and_false, if_false, reduceIte])
    rw [h0]
    refine r_iloadN 38 dX2_add_37 rfl rfl ?_
    refine r_iast 39 dX2_add_38 (n) rfl rfl (by decide) (sh_24 z _) (by decide) (by omega) (by omega) ?_
    refine r_aloadN 40 dX2_add_39 rfl rfl ?_
    refine r_dupr 41 dX2_add_40 rfl ?_
    refine r_geti 44 dX2_add_41 rfl fX2_9 (by decide) (sh_21 z _) rfl ?_
    (try simp only [cu_ap, Nat.reduceEqDiff, false_and, and_false, if_false, reduceIte])
    rw [h0]
    refine r_iconst 45 dX2_add_44 rfl ?_
    refine r_iadd 46 dX2_add_45 rfl ?_
    refine r_puti 49 dX2_add_46 rfl pX2_9 (by decide) (sh_21 z _) rfl ?_
    first
      | (exfalso; omega)
      | exact r_vret dX2_add_49 rfl k
theorem x_letter {z : xZ} {d : Nat} {Q : tQ} {c : tC} {L : tL} {n : Nat} {p t : Int} {n5 : Nat} (hR : RX c) (hn : c 50 0 2 = (n : Int)) (hp : inR p) (ht : inR t) (h5 : c 50 0 5 = (n5 : Int)) (kb : ∀ r w, w ≠ 0 → (r, w) = gLetter (c 50 0) p t → Q (some (.int (iI r))) (xRe c w) L) (k : ∀ r, (r, 0) = gLetter (c 50 0) p t → Q (some (.int (iI r))) (cu (cu (cu (cu c 22 0 n5 p) 23 0 n5 (c 50 0 0)) 24 0 n5 t) 21 0 0 ((n5 : Int) + 1)) L) : En z (d + 20) MX10_letter Q 0 [some (.ref (xad z 0 0)), some (.int (iI p)), some (.int (iI t))] [] c L := by
  have p1 := hp.1
  have p2 := hp.2
  have t1 := ht.1
  have t2 := ht.2
  have hg := R0_rng hR
  have hc := R0_scal hR
  refine r_aloadN 1 dX10_letter_0 rfl rfl ?_
  refine r_getq 4 dX10_letter_1 rfl fX10_26 (by decide) (sh_0 z _) rfl ?_
  refine r_iloadN 5 dX10_letter_4 rfl rfl ?_
  refine r_cv1 8 dX10_letter_5 rfl gX10_149 rfl (by decide) (sh_8 z _) rfl rfl (Nat.le_of_ble_eq_true rfl) (Nat.le_of_ble_eq_true rfl) rfl ?_
  refine x_isPerson hR (by assumption) (fun y5 => ?_) (fun y5 => ?_)
  · refine r_ifneT 17 0 dX10_letter_8 (by decide) (by decide) (by decide) ?_
    refine r_iloadN 18 dX10_letter_17 rfl rfl ?_
    refine r_iconst 19 dX10_letter_18 rfl ?_
    refine r_aloadN 20 dX10_letter_19 rfl rfl ?_
    refine r_getq 23 dX10_letter_20 rfl fX10_26 (by decide) (sh_0 z _) rfl ?_
    refine r_geti 26 dX10_letter_23 rfl fX10_192 (by decide) (sh_8 z _) rfl ?_
    refine r_cs3 29 dX10_letter_26 rfl gX10_137 (Nat.le_of_ble_eq_true rfl) (Nat.le_of_ble_eq_true rfl) rfl ?_
    refine x_isWithin (by assumption) (by omega) (by constructor <;> omega) (fun y26 => ?_) (fun y26 => ?_)
    · refine r_ifneT 39 0 dX10_letter_29 (by decide) (by decide) (by decide) ?_
      refine r_aloadN 40 dX10_letter_39 rfl rfl ?_
      refine r_getq 43 dX10_letter_40 rfl fX10_26 (by decide) (sh_0 z _) rfl ?_
      refine r_getq 46 dX10_letter_43 rfl fX10_281 (by decide) (sh_8 z _) rfl ?_
      refine r_geti 49 dX10_letter_46 rfl fX10_285 (by decide) (sh_21 z _) rfl ?_
      refine r_bipush 51 dX10_letter_49 rfl (by decide) ?_
      refine r_iclt 61 54 dX10_letter_51 rfl (by decide) (by omega) (by omega) (fun h51 => ?_) (fun h51 => ?_)
      · refine r_aloadN 62 dX10_letter_61 rfl rfl ?_
        refine r_getq 65 dX10_letter_62 rfl fX10_26 (by decide) (sh_0 z _) rfl ?_
        refine r_getq 68 dX10_letter_65 rfl fX10_281 (by decide) (sh_8 z _) rfl ?_
        refine r_iloadN 69 dX10_letter_68 rfl rfl ?_
        refine r_aloadN 70 dX10_letter_69 rfl rfl ?_
        refine r_getq 73 dX10_letter_70 rfl fX10_26 (by decide) (sh_0 z _) rfl ?_
        refine r_geti 76 dX10_letter_73 rfl fX10_192 (by decide) (sh_8 z _) rfl ?_
        rw [hc.1]
        refine r_iloadN 77 dX10_letter_76 rfl rfl ?_
        refine r_cv3 80 dX10_letter_77 rfl gX10_290 rfl (by decide) (sh_21 z _) rfl rfl (Nat.le_of_ble_eq_true rfl) (Nat.le_of_ble_eq_true rfl) rfl ?_
        refine x_ladd (n := n5) (by omega) (by omega) ?_
        refine r_aloadN 81 dX10_letter_80 rfl rfl ?_
        refine r_getq 84 dX10_letter_81 rfl fX10_26 (by decide) (sh_0 z _) rfl ?_
        refine r_getq 87 dX10_letter_84 rfl fX10_281 (by decide) (sh_8 z _) rfl ?_
        refine r_geti 90 dX10_letter_87 rfl fX10_285 (by decide) (sh_21 z _) rfl ?_
        rw [show cu (cu (cu (cu c 22 0 n5 p) 23 0 n5 (c 50 0 0)) 24 0 n5 t) 21 0 0 ((n5 : Int) + 1) 21 0 0 = (n5 : Int) + 1 from rfl]
        refine r_ret dX10_letter_90 rfl (k _ ?_)
        unfold gLetter
        rw [if_neg (by omega), if_neg (by omega), if_neg (by omega), h5]
      · refine r_aloadN 55 dX10_letter_54 rfl rfl ?_
        refine r_bipush 57 dX10_letter_55 rfl (by decide) ?_
        refine r_cv1 60 dX10_letter_57 rfl gX10_60 rfl (by decide) (sh_0 z _) rfl rfl (Nat.le_of_ble_eq_true rfl) (Nat.le_of_ble_eq_true rfl) rfl ?_
        refine x_refuse (k0 := 7) (by decide) (by decide) ?_
        refine r_ret dX10_letter_60 rfl (kb _ 7 (by decide) ?_)
        unfold gLetter
        rw [if_neg (by omega), if_neg (by omega), if_pos (by omega)]
    · refine r_ifneF 32 dX10_letter_29 rfl 39 (by decide) (by decide) (by decide) ?_
      refine r_aloadN 33 dX10_letter_32 rfl rfl ?_
      refine r_bipush 35 dX10_letter_33 rfl (by decide) ?_
      refine r_cv1 38 dX10_letter_35 rfl gX10_60 rfl (by decide) (sh_0 z _) rfl rfl (Nat.le_of_ble_eq_true rfl) (Nat.le_of_ble_eq_true rfl) rfl ?_
      refine x_refuse (k0 := 6) (by decide) (by decide) ?_
      refine r_ret dX10_letter_38 rfl (kb _ 6 (by decide) ?_)
      unfold gLetter
      rw [if_neg (by omega), if_pos (by omega)]
  · refine r_ifneF 11 dX10_letter_8 rfl 17 (by decide) (by decide) (by decide) ?_
    refine r_aloadN 12 dX10_letter_11 rfl rfl ?_
    refine r_iconst 13 dX10_letter_12 rfl ?_
    refine r_cv1 16 dX10_letter_13 rfl gX10_60 rfl (by decide) (sh_0 z _) rfl rfl (Nat.le_of_ble_eq_true rfl) (Nat.le_of_ble_eq_true rfl) rfl ?_
    refine x_refuse (k0 := 1) (by decide) (by decide) ?_
    refine r_ret dX10_letter_16 rfl (kb _ 1 (by decide) ?_)
    unfold gLetter
    rw [if_pos (by omega)]
