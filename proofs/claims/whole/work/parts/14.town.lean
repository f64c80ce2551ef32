theorem x_allSources {z : xZ} {d : Nat} {Q : tQ} {c : tC} {L : tL} {n : Nat} (hR : RX c) (hn : c 50 0 2 = (n : Int)) (k : ∀ r, r = ((mkN (fun _ => true) n : Nat) : Int) → Q (some (.int (iI r))) c L) : En z (d + 2) MX9_allSources Q 0 [some (.ref (xad z 8 0))] [] c L := by
  have hg := R0_rng hR
  have hc := R0_scal hR
  refine r_aloadN 1 dX9_allSources_0 rfl rfl ?_
  refine r_geti 4 dX9_allSources_1 rfl fX9_18 (by decide) (sh_8 z _) rfl ?_
  rw [show c 8 0 2 = (n : Int) by omega]
  refine r_cs1 7 dX9_allSources_4 rfl gX9_100 (Nat.le_of_ble_eq_true rfl) (Nat.le_of_ble_eq_true rfl) rfl ?_
  refine x_bit (by omega) ?_
  refine r_iconst 8 dX9_allSources_7 rfl ?_
  refine r_isub 9 dX9_allSources_8 rfl ?_
  refine r_ret dX9_allSources_9 rfl (k _ ?_)
  rw [mkN_true]
  have := Nat.one_le_two_pow (n := n)
  omega
theorem x_isOfHour {z : xZ} {d : Nat} {Q : tQ} {c : tC} {L : tL} {p i : Nat} {h : Int} (hR : RX c) (hp : (p : Int) < c 50 0 6) (hi : (i : Int) < c 51 38 p) (hh : 0 ≤ h ∧ h ≤ 239) (k1 : fIsOf (c 51) (8 * p + i) h = true → Q (some (.int (iI 1))) c L) (k0 : fIsOf (c 51) (8 * p + i) h = false → Q (some (.int (iI 0))) c L) : En z (d + 1) MX4_isOfHour Q 0 [some (.ref (xad z 14 p)), some (.int (iI (i : Int))), some (.int (iI h)), none] [] c L := by
  have hg := R0_rng hR
  have hq := R0_plan hR p hp
  have hk := hq.2.2 i hi
  have hz : (h - c 42 p i) % c 44 p i = (h - c 51 41 (8 * p + i)) % c 51 43 (8 * p + i) := by rw [show c 42 p i = c 51 41 (8 * p + i) by omega, show c 44 p i = c 51 43 (8 * p + i) by omega]
  refine r_iloadN 1 dX4_isOfHour_0 rfl rfl ?_
  refine r_aloadN 2 dX4_isOfHour_1 rfl rfl ?_
  refine r_getq 5 dX4_isOfHour_2 rfl fX4_19 (ct_14 (by omega)) (sh_14 z _) rfl ?_
  refine r_iloadN 6 dX4_isOfHour_5 rfl rfl ?_
  refine r_iald 7 dX4_isOfHour_6 (i) rfl rfl (ct_42 (by omega)) (sh_42 z _) (by decide) (by omega) (by omega) ?_
  refine r_isub 8 dX4_isOfHour_7 rfl ?_
  refine r_istore3 9 dX4_isOfHour_8 rfl rfl (by decide) ?_
  refine r_iloadN 10 dX4_isOfHour_9 rfl rfl ?_
  refine r_ifge 15 13 dX4_isOfHour_10 rfl (by decide) (by omega) (fun h10 => ?_) (fun h10 => ?_)
  · refine r_aloadN 16 dX4_isOfHour_15 rfl rfl ?_
    refine r_getq 19 dX4_isOfHour_16 rfl fX4_25 (ct_14 (by omega)) (sh_14 z _) rfl ?_
    refine r_iloadN 20 dX4_isOfHour_19 rfl rfl ?_
    refine r_iald 21 dX4_isOfHour_20 (i) rfl rfl (ct_44 (by omega)) (sh_44 z _) (by decide) (by omega) (by omega) ?_
    refine r_ifle 33 24 dX4_isOfHour_21 rfl (by decide) (by omega) (fun h21 => ?_) (fun h21 => ?_)
    · refine r_iloadN 34 dX4_isOfHour_33 rfl rfl ?_
      refine r_aloadN 35 dX4_isOfHour_34 rfl rfl ?_
      refine r_getq 38 dX4_isOfHour_35 rfl fX4_22 (ct_14 (by omega)) (sh_14 z _) rfl ?_
      refine r_iloadN 39 dX4_isOfHour_38 rfl rfl ?_
      refine r_iald 40 dX4_isOfHour_39 (i) rfl rfl (ct_43 (by omega)) (sh_43 z _) (by decide) (by omega) (by omega) ?_
      refine r_aloadN 41 dX4_isOfHour_40 rfl rfl ?_
      refine r_getq 44 dX4_isOfHour_41 rfl fX4_19 (ct_14 (by omega)) (sh_14 z _) rfl ?_
      refine r_iloadN 45 dX4_isOfHour_44 rfl rfl ?_
      refine r_iald 46 dX4_isOfHour_45 (i) rfl rfl (ct_42 (by omega)) (sh_42 z _) (by decide) (by omega) (by omega) ?_
      refine r_isub 47 dX4_isOfHour_46 rfl ?_
      refine r_icgt 54 50 dX4_isOfHour_47 rfl (by decide) (by omega) (by omega) (fun h47 => ?_) (fun h47 => ?_)
      · refine r_iconst 55 dX4_isOfHour_54 rfl ?_
        refine r_zret dX4_isOfHour_55 rfl (by decide) (k0 ?_)
        unfold fIsOf
        split <;> first | exact decide_eq_false (by omega) | (exfalso; omega)
      · refine r_iconst 51 dX4_isOfHour_50 rfl ?_
        refine r_goto 55 dX4_isOfHour_51 (by decide) ?_
        refine r_zret dX4_isOfHour_55 rfl (by decide) (k1 ?_)
        unfold fIsOf
        split <;> first | exact decide_eq_true (by omega) | (exfalso; omega)
    · refine r_iloadN 25 dX4_isOfHour_24 rfl rfl ?_
      refine r_aloadN 26 dX4_isOfHour_25 rfl rfl ?_
      refine r_getq 29 dX4_isOfHour_26 rfl fX4_25 (ct_14 (by omega)) (sh_14 z _) rfl ?_
      refine r_iloadN 30 dX4_isOfHour_29 rfl rfl ?_
      refine r_iald 31 dX4_isOfHour_30 (i) rfl rfl (ct_44 (by omega)) (sh_44 z _) (by decide) (by omega) (by omega) ?_
      have hm1 := Int.emod_nonneg (h - c 42 p i) (show c 44 p i ≠ 0 by omega)
      have hm2 := Int.emod_lt_of_pos (h - c 42 p i) (show 0 < c 44 p i by omega)
      refine r_irem 32 dX4_isOfHour_31 rfl (by omega) (by omega) ?_
      refine r_istore3 33 dX4_isOfHour_32 rfl rfl (by decide) ?_
      refine r_iloadN 34 dX4_isOfHour_33 rfl rfl ?_
      refine r_aloadN 35 dX4_isOfHour_34 rfl rfl ?_
      refine r_getq 38 dX4_isOfHour_35 rfl fX4_22 (ct_14 (by omega)) (sh_14 z _) rfl ?_
      refine r_iloadN 39 dX4_isOfHour_38 rfl rfl ?_
      refine r_iald 40 dX4_isOfHour_39 (i) rfl rfl (ct_43 (by omega)) (sh_43 z _) (by decide) (by omega) (by omega) ?_
      refine r_aloadN 41 dX4_isOfHour_40 rfl rfl ?_
      refine r_getq 44 dX4_isOfHour_41 rfl fX4_19 (ct_14 (by omega)) (sh_14 z _) rfl ?_
      refine r_iloadN 45 dX4_isOfHour_44 rfl rfl ?_
      refine r_iald 46 dX4_isOfHour_45 (i) rfl rfl (ct_42 (by omega)) (sh_42 z _) (by decide) (by omega) (by omega) ?_
      refine r_isub 47 dX4_isOfHour_46 rfl ?_
      refine r_icgt 54 50 dX4_isOfHour_47 rfl (by decide) (by omega) (by omega) (fun h47 => ?_) (fun h47 => ?_)
      · refine r_iconst 55 dX4_isOfHour_54 rfl ?_
        refine r_zret dX4_isOfHour_55 rfl (by decide) (k0 ?_)
        unfold fIsOf
        split <;> first | exact decide_eq_false (by omega) | (exfalso; omega)
      · refine r_iconst 51 dX4_isOfHour_50 rfl ?_
        refine r_goto 55 dX4_isOfHour_51 (by decide) ?_
        refine r_zret dX4_isOfHour_55 rfl (by decide) (k1 ?_)
        unfold fIsOf
        split <;> first | exact decide_eq_true (by omega) | (exfalso; omega)
  · refine r_iconst 14 dX4_isOfHour_13 rfl ?_
    refine r_zret dX4_isOfHour_14 rfl (by decide) (k0 ?_)
    unfold fIsOf
    split <;> first | exact decide_eq_false (by omega) | (exfalso; omega)
theorem fOffI_bit {A : sA} {p s : Nat} {h : Int} {b : Bool} {n k : Nat} {H : Bool} (hk : A 40 (8 * p + n) = (k : Int)) (hH : fIsOf A (8 * p + n) h = H) : fOffI A p s h b (n + 1) = if k = s ∧ H = true then decide (A 39 (8 * p + n) = 1) else fOffI A p s h b n := by
  rw [fOffI, hk, hH]
  by_cases e : k = s
  · subst e; simp
  · have : ¬ (k : Int) = (s : Int) := by omega
    simp [e, this]
theorem x_change_loop {z : xZ} {d : Nat} {Q : tQ} {c : tC} {L : tL} {n p : Nat} {h o : Int} {F : Nat → Bool} (hR : RX c) (hn : c 50 0 2 = (n : Int)) (hp : (p : Int) < c 50 0 6) (hh : 0 ≤ h ∧ h ≤ 239) (kk : ∀ r, r = ((mkN (fun s => fOffI (c 51) p s h (F s) (c 51 38 p).toNat) n : Nat) : Int) → Q (some (.int (iI r))) c L) : ∀ (k i : Nat) (m : Int) (v5 : Option Value), (i : Int) + k = c 51 38 p → m = ((mkN (fun s => fOffI (c 51) p s h (F s) i) n : Nat) : Int) → En z (d + 2) MX4_change Q 5 [some (.ref (xad z 14 p)), some (.int (iI o)), some (.int (iI h)), some (.int (iI m)), some (.int (iI (i : Int))), v5] [] c L := by
  have hg := R0_rng hR
  have hq := R0_plan hR p hp
  intro k
  induction k with
  | zero =>
    intro i m v5 hi hm
    refine r_iload 7 dX4_change_5 rfl rfl ?_
    refine r_aloadN 8 dX4_change_7 rfl rfl ?_
    refine r_geti 11 dX4_change_8 rfl fX4_9 (ct_14 (by omega)) (sh_14 z _) rfl ?_
    refine r_icge 74 14 dX4_change_11 rfl (by decide) (by omega) (by omega) (fun h11 => ?_) (fun h11 => ?_)
    · refine r_iloadN 75 dX4_change_74 rfl rfl ?_
      refine r_ret dX4_change_75 rfl (kk _ ?_)
      rw [hm, show i = (c 51 38 p).toNat by omega]
    · exfalso; omega
  | succ k ih =>
    intro i m v5 hi hm
    have hk := hq.2.2 i (by omega)
    obtain ⟨k0, hk0⟩ := Int.eq_ofNat_of_zero_le hk.2.1.1
    have hkn : k0 < n := by omega
    refine r_iload 7 dX4_change_5 rfl rfl ?_
    refine r_aloadN 8 dX4_change_7 rfl rfl ?_
    refine r_geti 11 dX4_change_8 rfl fX4_9 (ct_14 (by omega)) (sh_14 z _) rfl ?_
    refine r_icge 74 14 dX4_change_11 rfl (by decide) (by omega) (by omega) (fun h11 => ?_) (fun h11 => ?_)
    · exfalso; omega
    · refine r_iload 16 dX4_change_14 rfl rfl ?_
      refine r_bipush 18 dX4_change_16 rfl (by decide) ?_
      refine r_icge 74 21 dX4_change_18 rfl (by decide) (by omega) (by omega) (fun h18 => ?_) (fun h18 => ?_)
      · exfalso; omega
      · refine r_aloadN 22 dX4_change_21 rfl rfl ?_
        refine r_iload 24 dX4_change_22 rfl rfl ?_
        refine r_iloadN 25 dX4_change_24 rfl rfl ?_
        refine r_cv2 28 dX4_change_25 rfl gX4_37 rfl (ct_14 (by omega)) (sh_14 z _) rfl rfl (Nat.le_of_ble_eq_true rfl) (Nat.le_of_ble_eq_true rfl) rfl ?_
        refine x_isOfHour hR hp (by omega) hh (fun y25 => ?_) (fun y25 => ?_)
        · refine r_ifeqF 31 dX4_change_28 rfl 68 (by decide) (by decide) (by decide) ?_
          refine r_aloadN 32 dX4_change_31 rfl rfl ?_
          refine r_getq 35 dX4_change_32 rfl fX4_15 (ct_14 (by omega)) (sh_14 z _) rfl ?_
          refine r_iload 37 dX4_change_35 rfl rfl ?_
          refine r_iald 38 dX4_change_37 (i) rfl rfl (ct_41 (by omega)) (sh_41 z _) (by decide) (by omega) (by omega) ?_
          rw [show c 41 p i = (k0 : Int) by omega]
          refine r_cs1 41 dX4_change_38 rfl gX4_41 (Nat.le_of_ble_eq_true rfl) (Nat.le_of_ble_eq_true rfl) rfl ?_
          refine x_bit (by omega) ?_
          refine r_istore5 43 dX4_change_41 rfl rfl (by decide) ?_
          refine r_aloadN 44 dX4_change_43 rfl rfl ?_
          refine r_getq 47 dX4_change_44 rfl fX4_28 (ct_14 (by omega)) (sh_14 z _) rfl ?_
          refine r_iload 49 dX4_change_47 rfl rfl ?_
          refine r_iald 50 dX4_change_49 (i) rfl rfl (ct_45 (by omega)) (sh_45 z _) (by decide) (by omega) (by omega) ?_
          refine r_iconst 51 dX4_change_50 rfl ?_
          refine r_icne 61 54 dX4_change_51 rfl (by decide) (by omega) (by omega) (fun h51 => ?_) (fun h51 => ?_)
          · refine r_iloadN 62 dX4_change_61 rfl rfl ?_
            refine r_iload 64 dX4_change_62 rfl rfl ?_
            refine r_iconst 65 dX4_change_64 rfl ?_
            refine r_ixor 66 dX4_change_65 rfl ?_
            refine r_iand 67 dX4_change_66 rfl ?_
            refine r_istore3 68 dX4_change_67 rfl rfl (by decide) ?_
            refine r_iinc4 71 dX4_change_68 rfl rfl (by decide) ?_
            refine r_goto 5 dX4_change_71 (by decide) ?_
            refine ih (i + 1) _ _ (by omega) ?_
            first
              | (rw [inot_one (by omega) hkn hm]; exact congrArg Nat.cast (mkN_ext fun s _ => by
                  rw [fOffI_bit hk0 y25, show decide (c 51 39 (8 * p + i) = 1) = false from decide_eq_false (by omega)]; by_cases e : k0 = s <;> simp [e]))
              | (rw [ior_one (by omega) hkn hm]; exact congrArg Nat.cast (mkN_ext fun s _ => by
                  rw [fOffI_bit hk0 y25, show decide (c 51 39 (8 * p + i) = 1) = true from decide_eq_true (by omega)]; by_cases e : k0 = s <;> simp [e]))
              | (rw [hm]; exact congrArg Nat.cast (mkN_ext fun s _ => by rw [fOffI_bit hk0 y25]; simp))
          · refine r_iloadN 55 dX4_change_54 rfl rfl ?_
            refine r_iload 57 dX4_change_55 rfl rfl ?_
            refine r_ior 58 dX4_change_57 rfl ?_
            refine r_goto 67 dX4_change_58 (by decide) ?_
            refine r_istore3 68 dX4_change_67 rfl rfl (by decide) ?_
            refine r_iinc4 71 dX4_change_68 rfl rfl (by decide) ?_
            refine r_goto 5 dX4_change_71 (by decide) ?_
            refine ih (i + 1) _ _ (by omega) ?_
            first
              | (rw [inot_one (by omega) hkn hm]; exact congrArg Nat.cast (mkN_ext fun s _ => by
                  rw [fOffI_bit hk0 y25, show decide (c 51 39 (8 * p + i) = 1) = false from decide_eq_false (by omega)]; by_cases e : k0 = s <;> simp [e]))
              | (rw [ior_one (by omega) hkn hm]; exact congrArg Nat.cast (mkN_ext fun s _ => by
                  rw [fOffI_bit hk0 y25, show decide (c 51 39 (8 * p + i) = 1) = true from decide_eq_true (by omega)]; by_cases e : k0 = s <;> simp [e]))
              | (rw [hm]; exact congrArg Nat.cast (mkN_ext fun s _ => by rw [fOffI_bit hk0 y25]; simp))
        · refine r_ifeqT 68 0 dX4_change_28 (by decide) (by decide) (by decide) ?_
          refine r_iinc4 71 dX4_change_68 rfl rfl (by decide) ?_
          refine r_goto 5 dX4_change_71 (by decide) ?_
          refine ih (i + 1) _ _ (by omega) ?_
          first
            | (rw [inot_one (by omega) hkn hm]; exact congrArg Nat.cast (mkN_ext fun s _ => by
                rw [fOffI_bit hk0 y25, show decide (c 51 39 (8 * p + i) = 1) = false from decide_eq_false (by omega)]; by_cases e : k0 = s <;> simp [e]))
            | (rw [ior_one (by omega) hkn hm]; exact congrArg Nat.cast (mkN_ext fun s _ => by
                rw [fOffI_bit hk0 y25, show decide (c 51 39 (8 * p + i) = 1) = true from decide_eq_true (by omega)]; by_cases e : k0 = s <;> simp [e]))
            | (rw [hm]; exact congrArg Nat.cast (mkN_ext fun s _ => by rw [fOffI_bit hk0 y25]; simp))
theorem x_change {z : xZ} {d : Nat} {Q : tQ} {c : tC} {L : tL} {n p : Nat} {h o : Int} {F : Nat → Bool} (hR : RX c) (hn : c 50 0 2 = (n : Int)) (hp : (p : Int) < c 50 0 6) (hh : 0 ≤ h ∧ h ≤ 239) (ho : o = ((mkN F n : Nat) : Int)) (k : ∀ r, r = ((mkN (fun s => fOffI (c 51) p s h (F s) (c 51 38 p).toNat) n : Nat) : Int) → Q (some (.int (iI r))) c L) : En z (d + 2) MX4_change Q 0 [some (.ref (xad z 14 p)), some (.int (iI o)), some (.int (iI h)), none, none, none] [] c L := by
  have hg := R0_rng hR
  have hq := R0_plan hR p hp
  obtain ⟨q0, hq0⟩ := Int.eq_ofNat_of_zero_le hq.2.1.1
  refine r_iloadN 1 dX4_change_0 rfl rfl ?_
  refine r_istore3 2 dX4_change_1 rfl rfl (by decide) ?_
  refine r_iconst 3 dX4_change_2 rfl ?_
  refine r_istore4 5 dX4_change_3 rfl rfl (by decide) ?_
  exact x_change_loop (F := F) hR hn hp hh k q0 0 o none (by omega) ho
theorem x_offAt {z : xZ} {d : Nat} {Q : tQ} {c : tC} {L : tL} {n : Nat} {h : Int} (hR : RX c) (hn : c 50 0 2 = (n : Int)) (hh : 0 ≤ h ∧ h ≤ 239) (k : ∀ r, r = ((mkN (fun s => fOff (c 50 0) (c 51) s h) n : Nat) : Int) → Q (some (.int (iI r))) c L) : En z (d + 3) MX9_offAt Q 0 [some (.ref (xad z 8 0)), some (.int (iI h))] [] c L := by
  have hg := R0_rng hR
  have hc := R0_scal hR
  have ho := R0_off hR
  rw [hn, Int.toNat_natCast] at ho
  refine r_aloadN 1 dX9_offAt_0 rfl rfl ?_
  refine r_geti 4 dX9_offAt_1 rfl fX9_24 (by decide) (sh_8 z _) rfl ?_
  refine r_iflt 18 7 dX9_offAt_4 rfl (by decide) (by omega) (fun h4 => ?_) (fun h4 => ?_)
  · refine r_aloadN 19 dX9_offAt_18 rfl rfl ?_
    refine r_geti 22 dX9_offAt_19 rfl fX9_27 (by decide) (sh_8 z _) rfl ?_
    refine r_ret dX9_offAt_22 rfl (k _ ?_)
    rw [ho]; exact congrArg Nat.cast (mkN_ext fun s _ => by unfold fOff; rw [if_pos (by omega)])
  · refine r_aloadN 8 dX9_offAt_7 rfl rfl ?_
    refine r_geti 11 dX9_offAt_8 rfl fX9_24 (by decide) (sh_8 z _) rfl ?_
    refine r_aloadN 12 dX9_offAt_11 rfl rfl ?_
    refine r_geti 15 dX9_offAt_12 rfl fX9_21 (by decide) (sh_8 z _) rfl ?_
    refine r_iclt 23 18 dX9_offAt_15 rfl (by decide) (by omega) (by omega) (fun h15 => ?_) (fun h15 => ?_)
    · refine r_aloadN 24 dX9_offAt_23 rfl rfl ?_
      refine r_getq 27 dX9_offAt_24 rfl fX9_44 (by decide) (sh_8 z _) rfl ?_
      refine r_aloadN 28 dX9_offAt_27 rfl rfl ?_
      refine r_geti 31 dX9_offAt_28 rfl fX9_24 (by decide) (sh_8 z _) rfl ?_
      obtain ⟨p, hp⟩ := Int.eq_ofNat_of_zero_le (show 0 ≤ c 50 0 7 by omega)
      rw [show c 8 0 4 = (p : Int) by omega]
      refine r_aald 32 dX9_offAt_31 (p) rfl rfl (by decide) (sh_11a z) rfl (by decide) (by omega) (by omega) ?_
      refine r_aloadN 33 dX9_offAt_32 rfl rfl ?_
      refine r_geti 36 dX9_offAt_33 rfl fX9_27 (by decide) (sh_8 z _) rfl ?_
      refine r_iloadN 37 dX9_offAt_36 rfl rfl ?_
      refine r_cv2 40 dX9_offAt_37 rfl gX9_163 rfl (ct_14 (by omega)) (sh_14 z _) rfl rfl (Nat.le_of_ble_eq_true rfl) (Nat.le_of_ble_eq_true rfl) rfl ?_
      refine x_change (F := fHand (c 51)) hR hn (p := p) (by omega) hh ho (fun r37 e37 => ?_)
      refine r_ret dX9_offAt_40 rfl (k _ ?_)
      rw [e37]; exact congrArg Nat.cast (mkN_ext fun s _ => by unfold fOff; rw [if_neg (by omega), show (c 50 0 7).toNat = p by omega])
    · refine r_aloadN 19 dX9_offAt_18 rfl rfl ?_
      refine r_geti 22 dX9_offAt_19 rfl fX9_27 (by decide) (sh_8 z _) rfl ?_
      refine r_ret dX9_offAt_22 rfl (k _ ?_)
      rw [ho]; exact congrArg Nat.cast (mkN_ext fun s _ => by unfold fOff; rw [if_pos (by omega)])
theorem x_fans_loop {z : xZ} {d : Nat} {Q : tQ} {c : tC} {L : tL} {n : Nat} {h : Int} (hR : RX c) (hn : c 50 0 2 = (n : Int)) (hh : 0 ≤ h ∧ h ≤ 239) (kk : ∀ r, r = ((mkN (fun s => fFan (c 51) s && fRuns (c 51) s h) n : Nat) : Int) → Q (some (.int (iI r))) c L) : ∀ (k i : Nat) (m : Int), i + k = n → m = ((mkN (fun s => fFan (c 51) s && fRuns (c 51) s h) i : Nat) : Int) → En z (d + 2) MX9_fansRunningAt Q 4 [some (.ref (xad z 8 0)), some (.int (iI h)), some (.int (iI m)), some (.int (iI (i : Int)))] [] c L := by
  have hg := R0_rng hR
  have hc := R0_scal hR
  intro k
  induction k with
  | zero =>
    intro i m hi hm
    refine r_iloadN 5 dX9_fansRunningAt_4 rfl rfl ?_
    refine r_aloadN 6 dX9_fansRunningAt_5 rfl rfl ?_
    refine r_geti 9 dX9_fansRunningAt_6 rfl fX9_18 (by decide) (sh_8 z _) rfl ?_
    refine r_icge 53 12 dX9_fansRunningAt_9 rfl (by decide) (by omega) (by omega) (fun h9 => ?_) (fun h9 => ?_)
    · refine r_iloadN 54 dX9_fansRunningAt_53 rfl rfl ?_
      refine r_ret dX9_fansRunningAt_54 rfl (kk _ ?_)
      rw [hm, show i = n by omega]
    · exfalso; omega
  | succ k ih =>
    intro i m hi hm
    refine r_iloadN 5 dX9_fansRunningAt_4 rfl rfl ?_
    refine r_aloadN 6 dX9_fansRunningAt_5 rfl rfl ?_
    refine r_geti 9 dX9_fansRunningAt_6 rfl fX9_18 (by decide) (sh_8 z _) rfl ?_
    refine r_icge 53 12 dX9_fansRunningAt_9 rfl (by decide) (by omega) (by omega) (fun h9 => ?_) (fun h9 => ?_)
    · exfalso; omega
    · refine r_aloadN 13 dX9_fansRunningAt_12 rfl rfl ?_
      refine r_getq 16 dX9_fansRunningAt_13 rfl fX9_38 (by decide) (sh_8 z _) rfl ?_
      refine r_iloadN 17 dX9_fansRunningAt_16 rfl rfl ?_
      refine r_aald 18 dX9_fansRunningAt_17 (i) rfl rfl (by decide) (sh_10a z) rfl (by decide) (by omega) (by omega) ?_
      refine r_cv0 21 dX9_fansRunningAt_18 rfl gX9_167 rfl (ct_13 (by omega)) (sh_13 z _) rfl rfl (Nat.le_of_ble_eq_true rfl) (Nat.le_of_ble_eq_true rfl) rfl ?_
      refine x_isFan hR (by omega) (fun y18 => ?_) (fun y18 => ?_)
      · refine r_ifeqF 24 dX9_fansRunningAt_21 rfl 47 (by decide) (by decide) (by decide) ?_
        refine r_aloadN 25 dX9_fansRunningAt_24 rfl rfl ?_
        refine r_getq 28 dX9_fansRunningAt_25 rfl fX9_38 (by decide) (sh_8 z _) rfl ?_
        refine r_iloadN 29 dX9_fansRunningAt_28 rfl rfl ?_
        refine r_aald 30 dX9_fansRunningAt_29 (i) rfl rfl (by decide) (sh_10a z) rfl (by decide) (by omega) (by omega) ?_
        refine r_iloadN 31 dX9_fansRunningAt_30 rfl rfl ?_
        refine r_bipush 33 dX9_fansRunningAt_31 rfl (by decide) ?_
        refine r_irem 34 dX9_fansRunningAt_33 rfl (by omega) (by omega) ?_
        refine r_cv1 37 dX9_fansRunningAt_34 rfl gX9_171 rfl (ct_13 (by omega)) (sh_13 z _) rfl rfl (Nat.le_of_ble_eq_true rfl) (Nat.le_of_ble_eq_true rfl) rfl ?_
        refine x_runsAt hR (s := i) (h := h) (by omega) rfl (by omega) (fun y34 => ?_) (fun y34 => ?_)
        · refine r_ifeqF 40 dX9_fansRunningAt_37 rfl 47 (by decide) (by decide) (by decide) ?_
          refine r_iloadN 41 dX9_fansRunningAt_40 rfl rfl ?_
          refine r_iloadN 42 dX9_fansRunningAt_41 rfl rfl ?_
          refine r_cs1 45 dX9_fansRunningAt_42 rfl gX9_100 (Nat.le_of_ble_eq_true rfl) (Nat.le_of_ble_eq_true rfl) rfl ?_
          refine x_bit (by omega) ?_
          refine r_ior 46 dX9_fansRunningAt_45 rfl ?_
          refine r_istore2 47 dX9_fansRunningAt_46 rfl rfl (by decide) ?_
          refine r_iinc3 50 dX9_fansRunningAt_47 rfl rfl (by decide) ?_
          refine r_goto 4 dX9_fansRunningAt_50 (by decide) ?_
          refine ih (i + 1) _ (by omega) ?_
          first
            | exact ior_step (by omega) hm (by show (fFan (c 51) i && fRuns (c 51) i h) = true; rw [y18, y34]; rfl)
            | exact mkN_skip hm (by show (fFan (c 51) i && fRuns (c 51) i h) = false; rw [y34, Bool.and_false])
            | exact mkN_skip hm (by show (fFan (c 51) i && fRuns (c 51) i h) = false; rw [y18, Bool.false_and])
        · refine r_ifeqT 47 0 dX9_fansRunningAt_37 (by decide) (by decide) (by decide) ?_
          refine r_iinc3 50 dX9_fansRunningAt_47 rfl rfl (by decide) ?_
          refine r_goto 4 dX9_fansRunningAt_50 (by decide) ?_
          refine ih (i + 1) _ (by omega) ?_
          first
            | exact ior_step (by omega) hm (by show (fFan (c 51) i && fRuns (c 51) i h) = true; rw [y18, y34]; rfl)
            | exact mkN_skip hm (by show (fFan (c 51) i && fRuns (c 51) i h) = false; rw [y34, Bool.and_false])
            | exact mkN_skip hm (by show (fFan (c 51) i && fRuns (c 51) i h) = false; rw [y18, Bool.false_and])
      · refine r_ifeqT 47 0 dX9_fansRunningAt_21 (by decide) (by decide) (by decide) ?_
        refine r_iinc3 50 dX9_fansRunningAt_47 rfl rfl (by decide) ?_
        refine r_goto 4 dX9_fansRunningAt_50 (by decide) ?_
        refine ih (i + 1) _ (by omega) ?_
        first
          | exact ior_step (by omega) hm (by show (fFan (c 51) i && fRuns (c 51) i h) = true; rw [y18, y34]; rfl)
          | exact mkN_skip hm (by show (fFan (c 51) i && fRuns (c 51) i h) = false; rw [y34, Bool.and_false])
          | exact mkN_skip hm (by show (fFan (c 51) i && fRuns (c 51) i h) = false; rw [y18, Bool.false_and])
theorem x_fansRunningAt {z : xZ} {d : Nat} {Q : tQ} {c : tC} {L : tL} {n : Nat} {h : Int} (hR : RX c) (hn : c 50 0 2 = (n : Int)) (hh : 0 ≤ h ∧ h ≤ 239) (k : ∀ r, r = ((mkN (fun s => fFan (c 51) s && fRuns (c 51) s h) n : Nat) : Int) → Q (some (.int (iI r))) c L) : En z (d + 2) MX9_fansRunningAt Q 0 [some (.ref (xad z 8 0)), some (.int (iI h)), none, none] [] c L := by
  refine r_iconst 1 dX9_fansRunningAt_0 rfl ?_
  refine r_istore2 2 dX9_fansRunningAt_1 rfl rfl (by decide) ?_
  refine r_iconst 3 dX9_fansRunningAt_2 rfl ?_
  refine r_istore3 4 dX9_fansRunningAt_3 rfl rfl (by decide) ?_
  exact x_fans_loop hR hn hh k n 0 _ (by omega) rfl
def fDue (S : sS) (A : sA) (G : Nat → Bool) (n s : Nat) (h : Int) : Bool := if A 19 s = 1 then G s else if A 19 s = 5 then decide (A 11 5 ≤ h) else if A 19 s = 6 then decide (A 13 (h / 24).toNat = 1) else if A 19 s = 7 then G s && fAny (fun o => G o && fBeat (A 21 s) (A 21 o)) n else true
theorem x_isDue {z : xZ} {d : Nat} {Q : tQ} {c : tC} {L : tL} {n s : Nat} {h : Int} {G : Nat → Bool} (hR : RX c) (hn : c 50 0 2 = (n : Int)) (hs : s < n) (hh : 0 ≤ h ∧ h ≤ 239) (k1 : fDue (c 50 0) (c 51) G n s h = true → Q (some (.int (iI 1))) c L) (k0 : fDue (c 50 0) (c 51) G n s h = false → Q (some (.int (iI 0))) c L) : En z (d + 2) MX9_isDue Q 0 [some (.ref (xad z 8 0)), some (.int (iI (s : Int))), some (.int (iI h)), some (.int (iI ((mkN G n : Nat) : Int)))] [] c L := by
  have hg := R0_rng hR
  have hc := R0_scal hR
  have hq := R0_src hR s (by omega)
  have hlw := R0_law hR
  have hst := R0_storm hR (h / 24).toNat (by omega)
  have hb := R0_beat hR s (by omega)
  rw [hn, Int.toNat_natCast] at hb
  have hG := mkN_lt31 G (show n ≤ 14 by omega)
  refine r_aloadN 1 dX9_isDue_0 rfl rfl ?_
  refine r_getq 4 dX9_isDue_1 rfl fX9_38 (by decide) (sh_8 z _) rfl ?_
  refine r_iloadN 5 dX9_isDue_4 rfl rfl ?_
  refine r_aald 6 dX9_isDue_5 (s) rfl rfl (by decide) (sh_10a z) rfl (by decide) (by omega) (by omega) ?_
  refine r_geti 9 dX9_isDue_6 rfl fX9_174 (ct_13 (by omega)) (sh_13 z _) rfl ?_
  rcases (show c 13 s 0 = 1 ∨ c 13 s 0 = 2 ∨ c 13 s 0 = 3 ∨ c 13 s 0 = 4 ∨ c 13 s 0 = 5 ∨ c 13 s 0 = 6 ∨ c 13 s 0 = 7 by omega) with e9 | e9 | e9 | e9 | e9 | e9 | e9
  · have e19 : c 51 19 s = 1 := by omega
    refine r_tin (43) 52 dX9_isDue_9 (by omega) (by omega) (by omega) (by rw [e9]; rfl) (by decide) ?_
    refine r_iloadN 53 dX9_isDue_52 rfl rfl ?_
    refine r_iloadN 54 dX9_isDue_53 rfl rfl ?_
    refine r_cs2 57 dX9_isDue_54 rfl gX9_156 (Nat.le_of_ble_eq_true rfl) (Nat.le_of_ble_eq_true rfl) rfl ?_
    refine x_hasBit hG (by omega) (fun y54 => ?_) (fun y54 => ?_)
    · refine r_zret dX9_isDue_57 rfl (by decide) (k1 ?_)
      unfold fDue
      rw [mk_bit (by omega)] at y54
      simp [e19, y54]
    · refine r_zret dX9_isDue_57 rfl (by decide) (k0 ?_)
      unfold fDue
      rw [mk_bit (by omega)] at y54
      simp [e19, y54]
  · have e19 : c 51 19 s = 2 := by omega
    refine r_tin (112) 121 dX9_isDue_9 (by omega) (by omega) (by omega) (by rw [e9]; rfl) (by decide) ?_
    refine r_iconst 122 dX9_isDue_121 rfl ?_
    refine r_zret dX9_isDue_122 rfl (by decide) (k1 ?_)
    unfold fDue
    simp [e19]
  · have e19 : c 51 19 s = 3 := by omega
    refine r_tin (112) 121 dX9_isDue_9 (by omega) (by omega) (by omega) (by rw [e9]; rfl) (by decide) ?_
    refine r_iconst 122 dX9_isDue_121 rfl ?_
    refine r_zret dX9_isDue_122 rfl (by decide) (k1 ?_)
    unfold fDue
    simp [e19]
  · have e19 : c 51 19 s = 4 := by omega
    refine r_tin (112) 121 dX9_isDue_9 (by omega) (by omega) (by omega) (by rw [e9]; rfl) (by decide) ?_
    refine r_iconst 122 dX9_isDue_121 rfl ?_
    refine r_zret dX9_isDue_122 rfl (by decide) (k1 ?_)
    unfold fDue
    simp [e19]
  · have e19 : c 51 19 s = 5 := by omega
    refine r_tin (77) 86 dX9_isDue_9 (by omega) (by omega) (by omega) (by rw [e9]; rfl) (by decide) ?_
    refine r_iloadN 87 dX9_isDue_86 rfl rfl ?_
    refine r_aloadN 88 dX9_isDue_87 rfl rfl ?_
    refine r_getq 91 dX9_isDue_88 rfl fX9_69 (by decide) (sh_8 z _) rfl ?_
    refine r_iconst 92 dX9_isDue_91 rfl ?_
    refine r_iald 93 dX9_isDue_92 (5) rfl rfl (by decide) (sh_27 z _) (by decide) (by omega) (by omega) ?_
    refine r_iclt 100 96 dX9_isDue_93 rfl (by decide) (by omega) (by omega) (fun h93 => ?_) (fun h93 => ?_)
    · refine r_iconst 101 dX9_isDue_100 rfl ?_
      refine r_zret dX9_isDue_101 rfl (by decide) (k0 ?_)
      unfold fDue
      simp [e19]
      omega
    · refine r_iconst 97 dX9_isDue_96 rfl ?_
      refine r_goto 101 dX9_isDue_97 (by decide) ?_
      refine r_zret dX9_isDue_101 rfl (by decide) (k1 ?_)
      unfold fDue
      simp [e19]
      omega
  · have e19 : c 51 19 s = 6 := by omega
    refine r_tin (93) 102 dX9_isDue_9 (by omega) (by omega) (by omega) (by rw [e9]; rfl) (by decide) ?_
    refine r_aloadN 103 dX9_isDue_102 rfl rfl ?_
    refine r_getq 106 dX9_isDue_103 rfl fX9_66 (by decide) (sh_8 z _) rfl ?_
    refine r_iloadN 107 dX9_isDue_106 rfl rfl ?_
    refine r_bipush 109 dX9_isDue_107 rfl (by decide) ?_
    refine r_idiv 110 dX9_isDue_109 rfl (by omega) (by omega) ?_
    refine r_iald 111 dX9_isDue_110 _ rfl rfl (by decide) (sh_26 z _) (by decide) (by omega) (by omega) ?_
    refine r_iconst 112 dX9_isDue_111 rfl ?_
    refine r_icne 119 115 dX9_isDue_112 rfl (by decide) (by omega) (by omega) (fun h112 => ?_) (fun h112 => ?_)
    · refine r_iconst 120 dX9_isDue_119 rfl ?_
      refine r_zret dX9_isDue_120 rfl (by decide) (k0 ?_)
      unfold fDue
      simp [e19]
      omega
    · refine r_iconst 116 dX9_isDue_115 rfl ?_
      refine r_goto 120 dX9_isDue_116 (by decide) ?_
      refine r_zret dX9_isDue_120 rfl (by decide) (k1 ?_)
      unfold fDue
      simp [e19]
      omega
  · have e19 : c 51 19 s = 7 := by omega
    refine r_tin (49) 58 dX9_isDue_9 (by omega) (by omega) (by omega) (by rw [e9]; rfl) (by decide) ?_
    refine r_iloadN 59 dX9_isDue_58 rfl rfl ?_
    refine r_iloadN 60 dX9_isDue_59 rfl rfl ?_
    refine r_cs2 63 dX9_isDue_60 rfl gX9_156 (Nat.le_of_ble_eq_true rfl) (Nat.le_of_ble_eq_true rfl) rfl ?_
    refine x_hasBit hG (by omega) (fun y60 => ?_) (fun y60 => ?_)
    · refine r_ifeqF 66 dX9_isDue_63 rfl 84 (by decide) (by decide) (by decide) ?_
      refine r_iloadN 67 dX9_isDue_66 rfl rfl ?_
      refine r_aloadN 68 dX9_isDue_67 rfl rfl ?_
      refine r_getq 71 dX9_isDue_68 rfl fX9_38 (by decide) (sh_8 z _) rfl ?_
      refine r_iloadN 72 dX9_isDue_71 rfl rfl ?_
      refine r_aald 73 dX9_isDue_72 (s) rfl rfl (by decide) (sh_10a z) rfl (by decide) (by omega) (by omega) ?_
      refine r_geti 76 dX9_isDue_73 rfl fX9_118 (ct_13 (by omega)) (sh_13 z _) rfl ?_
      refine r_iand 77 dX9_isDue_76 rfl ?_
      refine r_ifeq 84 80 dX9_isDue_77 rfl (by decide) (by rw [iand_mk (by omega) rfl hb]; have := mkN_lt31 (fun i => G i && fBeat (c 51 21 s) (c 51 21 i)) (show n ≤ 14 by omega); omega) (fun h77 => ?_) (fun h77 => ?_)
      · refine r_iconst 85 dX9_isDue_84 rfl ?_
        refine r_zret dX9_isDue_85 rfl (by decide) (k0 ?_)
        unfold fDue
        rw [mk_bit (by omega)] at y60
        first
          | (simp [e19, y60]; done)
          | (rw [iand_mk (by omega) rfl hb] at h77
             have ha := mk_any (f := fun o => G o && fBeat (c 51 21 s) (c 51 21 o)) (n := n)
             rw [decide_eq_true (by omega)] at ha
             simp [e19, y60]
             simpa using ha)
      · refine r_iconst 81 dX9_isDue_80 rfl ?_
        refine r_goto 85 dX9_isDue_81 (by decide) ?_
        refine r_zret dX9_isDue_85 rfl (by decide) (k1 ?_)
        unfold fDue
        rw [mk_bit (by omega)] at y60
        rw [iand_mk (by omega) rfl hb] at h77
        have ha := mk_any (f := fun o => G o && fBeat (c 51 21 s) (c 51 21 o)) (n := n)
        rw [decide_eq_false (by omega)] at ha
        simp [e19, y60]
        simpa using ha
    · refine r_ifeqT 84 0 dX9_isDue_63 (by decide) (by decide) (by decide) ?_
      refine r_iconst 85 dX9_isDue_84 rfl ?_
      refine r_zret dX9_isDue_85 rfl (by decide) (k0 ?_)
      unfold fDue
      rw [mk_bit (by omega)] at y60
      first
        | (simp [e19, y60]; done)
        | (rw [iand_mk (by omega) rfl hb] at h77
           have ha := mk_any (f := fun o => G o && fBeat (c 51 21 s) (c 51 21 o)) (n := n)
           rw [decide_eq_true (by omega)] at ha
           simp [e19, y60]
           simpa using ha)
theorem due_snd {S : sS} {A : sA} {n s : Nat} {h : Int} (hn : S 2 = (n : Int)) (ho : fOff S A s h = false) : fDue S A (fun i => !fOff S A i h && (fFan A i && fRuns A i h)) n s h = fSnd S A s h := by
  unfold fDue fSnd fMix fFans
  rw [ho, hn, Int.toNat_natCast]
  have e : (fun o => (!fOff S A o h && (fFan A o && fRuns A o h)) && fBeat (A 21 s) (A 21 o)) = (fun o => fFan A o && fBeat (A 21 s) (A 21 o) && (fRuns A o h && !fOff S A o h)) := by
    funext o
    cases fOff S A o h <;> cases fFan A o <;> cases fRuns A o h <;> cases fBeat (A 21 s) (A 21 o) <;> rfl
  rw [e]
  by_cases h1 : A 19 s = 1
  · have : fFan A s = true := decide_eq_true (Or.inl h1)
    simp [h1, this, ho]
  · by_cases h7 : A 19 s = 7
    · have : fFan A s = true := decide_eq_true (Or.inr h7)
      simp [h7, this, ho]
    · simp [h1, h7]
theorem x_snd_loop {z : xZ} {d : Nat} {Q : tQ} {c : tC} {L : tL} {n : Nat} {h : Int} (hR : RX c) (hn : c 50 0 2 = (n : Int)) (hh : 0 ≤ h ∧ h ≤ 239) (kk : ∀ r, r = ((mkN (fun s => fSnd (c 50 0) (c 51) s h) n : Nat) : Int) → Q (some (.int (iI r))) c L) : ∀ (k i : Nat) (m : Int), i + k = n → m = ((mkN (fun s => fSnd (c 50 0) (c 51) s h) i : Nat) : Int) → En z (d + 3) MX9_soundingAt Q 27 [some (.ref (xad z 8 0)), some (.int (iI h)), some (.int (iI ((mkN (fun i => !fOff (c 50 0) (c 51) i h) n : Nat) : Int))), some (.int (iI ((mkN (fun i => !fOff (c 50 0) (c 51) i h && (fFan (c 51) i && fRuns (c 51) i h)) n : Nat) : Int))), some (.int (iI m)), some (.int (iI (i : Int)))] [] c L := by
  have hg := R0_rng hR
  have hc := R0_scal hR
  have hG := mkN_lt31 (fun i => !fOff (c 50 0) (c 51) i h) (show n ≤ 14 by omega)
  intro k
  induction k with
  | zero =>
    intro i m hi hm
    refine r_iload 29 dX9_soundingAt_27 rfl rfl ?_
    refine r_aloadN 30 dX9_soundingAt_29 rfl rfl ?_
    refine r_geti 33 dX9_soundingAt_30 rfl fX9_18 (by decide) (sh_8 z _) rfl ?_
    refine r_icge 72 36 dX9_soundingAt_33 rfl (by decide) (by omega) (by omega) (fun h33 => ?_) (fun h33 => ?_)
    · refine r_iload 74 dX9_soundingAt_72 rfl rfl ?_
      refine r_ret dX9_soundingAt_74 rfl (kk _ ?_)
      rw [hm, show i = n by omega]
    · exfalso; omega
  | succ k ih =>
    intro i m hi hm
    refine r_iload 29 dX9_soundingAt_27 rfl rfl ?_
    refine r_aloadN 30 dX9_soundingAt_29 rfl rfl ?_
    refine r_geti 33 dX9_soundingAt_30 rfl fX9_18 (by decide) (sh_8 z _) rfl ?_
    refine r_icge 72 36 dX9_soundingAt_33 rfl (by decide) (by omega) (by omega) (fun h33 => ?_) (fun h33 => ?_)
    · exfalso; omega
    · refine r_iloadN 37 dX9_soundingAt_36 rfl rfl ?_
      refine r_iload 39 dX9_soundingAt_37 rfl rfl ?_
      refine r_cs2 42 dX9_soundingAt_39 rfl gX9_156 (Nat.le_of_ble_eq_true rfl) (Nat.le_of_ble_eq_true rfl) rfl ?_
      refine x_hasBit hG (by omega) (fun y39 => ?_) (fun y39 => ?_)
      · refine r_ifeqF 45 dX9_soundingAt_42 rfl 66 (by decide) (by decide) (by decide) ?_
        refine r_aloadN 46 dX9_soundingAt_45 rfl rfl ?_
        refine r_iload 48 dX9_soundingAt_46 rfl rfl ?_
        refine r_iloadN 49 dX9_soundingAt_48 rfl rfl ?_
        refine r_iloadN 50 dX9_soundingAt_49 rfl rfl ?_
        refine r_cv3 53 dX9_soundingAt_50 rfl gX9_159 rfl (by decide) (sh_8 z _) rfl rfl (Nat.le_of_ble_eq_true rfl) (Nat.le_of_ble_eq_true rfl) rfl ?_
        refine x_isDue hR hn (by omega) hh (fun y50 => ?_) (fun y50 => ?_)
        · refine r_ifeqF 56 dX9_soundingAt_53 rfl 66 (by decide) (by decide) (by decide) ?_
          refine r_iload 58 dX9_soundingAt_56 rfl rfl ?_
          refine r_iload 60 dX9_soundingAt_58 rfl rfl ?_
          refine r_cs1 63 dX9_soundingAt_60 rfl gX9_100 (Nat.le_of_ble_eq_true rfl) (Nat.le_of_ble_eq_true rfl) rfl ?_
          refine x_bit (by omega) ?_
          refine r_ior 64 dX9_soundingAt_63 rfl ?_
          refine r_istore4 66 dX9_soundingAt_64 rfl rfl (by decide) ?_
          refine r_iinc5 69 dX9_soundingAt_66 rfl rfl (by decide) ?_
          refine r_goto 27 dX9_soundingAt_69 (by decide) ?_
          refine ih (i + 1) _ (by omega) ?_
          rw [mk_bit (by omega)] at y39
          first
            | exact ior_step (by omega) hm (by show fSnd (c 50 0) (c 51) i h = true; rw [← due_snd hn (by simpa using y39)]; exact y50)
            | exact mkN_skip hm (by show fSnd (c 50 0) (c 51) i h = false; rw [← due_snd hn (by simpa using y39)]; exact y50)
            | exact mkN_skip hm (by show fSnd (c 50 0) (c 51) i h = false; unfold fSnd; rw [show fOff (c 50 0) (c 51) i h = true by simpa using y39]; rfl)
        · refine r_ifeqT 66 0 dX9_soundingAt_53 (by decide) (by decide) (by decide) ?_
          refine r_iinc5 69 dX9_soundingAt_66 rfl rfl (by decide) ?_
          refine r_goto 27 dX9_soundingAt_69 (by decide) ?_
          refine ih (i + 1) _ (by omega) ?_
          rw [mk_bit (by omega)] at y39
          first
            | exact ior_step (by omega) hm (by show fSnd (c 50 0) (c 51) i h = true; rw [← due_snd hn (by simpa using y39)]; exact y50)
            | exact mkN_skip hm (by show fSnd (c 50 0) (c 51) i h = false; rw [← due_snd hn (by simpa using y39)]; exact y50)
            | exact mkN_skip hm (by show fSnd (c 50 0) (c 51) i h = false; unfold fSnd; rw [show fOff (c 50 0) (c 51) i h = true by simpa using y39]; rfl)
      · refine r_ifeqT 66 0 dX9_soundingAt_42 (by decide) (by decide) (by decide) ?_
        refine r_iinc5 69 dX9_soundingAt_66 rfl rfl (by decide) ?_
        refine r_goto 27 dX9_soundingAt_69 (by decide) ?_
        refine ih (i + 1) _ (by omega) ?_
        rw [mk_bit (by omega)] at y39
        first
          | exact ior_step (by omega) hm (by show fSnd (c 50 0) (c 51) i h = true; rw [← due_snd hn (by simpa using y39)]; exact y50)
          | exact mkN_skip hm (by show fSnd (c 50 0) (c 51) i h = false; rw [← due_snd hn (by simpa using y39)]; exact y50)
          | exact mkN_skip hm (by show fSnd (c 50 0) (c 51) i h = false; unfold fSnd; rw [show fOff (c 50 0) (c 51) i h = true by simpa using y39]; rfl)
theorem x_soundingAt {z : xZ} {d : Nat} {Q : tQ} {c : tC} {L : tL} {n : Nat} {h : Int} (hR : RX c) (hn : c 50 0 2 = (n : Int)) (hh : 0 ≤ h ∧ h ≤ 239) (k : ∀ r, r = ((mkN (fun s => fSnd (c 50 0) (c 51) s h) n : Nat) : Int) → Q (some (.int (iI r))) c L) : En z (d + 4) MX9_soundingAt Q 0 [some (.ref (xad z 8 0)), some (.int (iI h)), none, none, none, none] [] c L := by
  have hg := R0_rng hR
  have hc := R0_scal hR
  refine r_aloadN 1 dX9_soundingAt_0 rfl rfl ?_
  refine r_cv0 4 dX9_soundingAt_1 rfl gX9_147 rfl (by decide) (sh_8 z _) rfl rfl (Nat.le_of_ble_eq_true rfl) (Nat.le_of_ble_eq_true rfl) rfl ?_
  refine x_allSources hR hn (fun r1 e1 => ?_)
  refine r_aloadN 5 dX9_soundingAt_4 rfl rfl ?_
  refine r_iloadN 6 dX9_soundingAt_5 rfl rfl ?_
  refine r_cv1 9 dX9_soundingAt_6 rfl gX9_150 rfl (by decide) (sh_8 z _) rfl rfl (Nat.le_of_ble_eq_true rfl) (Nat.le_of_ble_eq_true rfl) rfl ?_
  refine x_offAt hR hn hh (fun r6 e6 => ?_)
  refine r_iconst 10 dX9_soundingAt_9 rfl ?_
  refine r_ixor 11 dX9_soundingAt_10 rfl ?_
  refine r_iand 12 dX9_soundingAt_11 rfl ?_
  rw [inot_mk (by omega) e1 (mkN_lt31 _ (show n ≤ 14 by omega)) e6, show mkN (fun i => true && !(mkN (fun s => fOff (c 50 0) (c 51) s h) n).testBit i) n = mkN (fun i => !fOff (c 50 0) (c 51) i h) n from mkN_ext (fun i hi => by rw [mk_bit hi]; rfl)]
  refine r_istore2 13 dX9_soundingAt_12 rfl rfl (by decide) ?_
  refine r_iloadN 14 dX9_soundingAt_13 rfl rfl ?_
  refine r_aloadN 15 dX9_soundingAt_14 rfl rfl ?_
  refine r_iloadN 16 dX9_soundingAt_15 rfl rfl ?_
  refine r_cv1 19 dX9_soundingAt_16 rfl gX9_153 rfl (by decide) (sh_8 z _) rfl rfl (Nat.le_of_ble_eq_true rfl) (Nat.le_of_ble_eq_true rfl) rfl ?_
  refine x_fansRunningAt hR hn hh (fun r16 e16 => ?_)
  refine r_iand 20 dX9_soundingAt_19 rfl ?_
  rw [iand_mk (by omega) rfl e16]
  refine r_istore3 21 dX9_soundingAt_20 rfl rfl (by decide) ?_
  refine r_iconst 22 dX9_soundingAt_21 rfl ?_
  refine r_istore4 24 dX9_soundingAt_22 rfl rfl (by decide) ?_
  refine r_iconst 25 dX9_soundingAt_24 rfl ?_
  refine r_istore5 27 dX9_soundingAt_25 rfl rfl (by decide) ?_
  exact x_snd_loop hR hn hh k n 0 _ (by omega) rfl
