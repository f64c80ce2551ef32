theorem fRuns_t {A : sA} {s : Nat} {h x : Int} (hx : x = h % 24) (H : (A 23 s ≤ A 24 s → A 23 s ≤ x ∧ x ≤ A 24 s) ∧ (A 24 s < A 23 s → A 23 s ≤ x ∨ x ≤ A 24 s)) : fRuns A s h = true := by
  unfold fRuns
  subst hx
  by_cases e : A 23 s ≤ A 24 s
  · rw [if_pos e]; exact decide_eq_true (H.1 e)
  · rw [if_neg e]; exact decide_eq_true (H.2 (by omega))
theorem fRuns_f {A : sA} {s : Nat} {h x : Int} (hx : x = h % 24) (H : (A 23 s ≤ A 24 s → ¬ (A 23 s ≤ x ∧ x ≤ A 24 s)) ∧ (A 24 s < A 23 s → ¬ (A 23 s ≤ x ∨ x ≤ A 24 s))) : fRuns A s h = false := by
  unfold fRuns
  subst hx
  by_cases e : A 23 s ≤ A 24 s
  · rw [if_pos e]; exact decide_eq_false (H.1 e)
  · rw [if_neg e]; exact decide_eq_false (H.2 (by omega))
theorem x_needFor {z : xZ} {d : Nat} {Q : tQ} {c : tC} {L : tL} {p : Nat} {t : Int} (hR : RX c) (hp : (p : Int) < c 50 0 1) (ht : 0 ≤ t ∧ t ≤ 99) (k : ∀ r, r = fNeed (c 51) p t → Q (some (.int (iI r))) c L) : En z (d + 1) MX3_needFor Q 0 [some (.ref (xad z 12 p)), some (.int (iI t))] [] c L := by
  have hg := R0_rng hR
  have hq := R0_per hR p hp
  refine r_aloadN 1 dX3_needFor_0 rfl rfl ?_
  refine r_geti 4 dX3_needFor_1 rfl fX3_16 (ct_12 (by omega)) (sh_12 z _) rfl ?_
  refine r_aloadN 5 dX3_needFor_4 rfl rfl ?_
  refine r_geti 8 dX3_needFor_5 rfl fX3_19 (ct_12 (by omega)) (sh_12 z _) rfl ?_
  refine r_iloadN 9 dX3_needFor_8 rfl rfl ?_
  refine r_aloadN 10 dX3_needFor_9 rfl rfl ?_
  refine r_geti 13 dX3_needFor_10 rfl fX3_13 (ct_12 (by omega)) (sh_12 z _) rfl ?_
  refine r_isub 14 dX3_needFor_13 rfl ?_
  refine r_abs 17 dX3_needFor_14 rfl (gX3_30) (Nat.le_of_ble_eq_true rfl) (by omega) ?_
  refine r_imul 18 dX3_needFor_17 rfl ?_
  refine r_iadd 19 dX3_needFor_18 rfl ?_
  refine r_ret dX3_needFor_19 rfl (k _ ?_)
  unfold fNeed
  rw [hq.1.2.2.1, hq.1.2.2.2.1, hq.1.2.1, show max (t - c 51 15 p) (-(t - c 51 15 p)) = max (c 51 15 p - t) (t - c 51 15 p) by omega]
theorem x_isFan {z : xZ} {d : Nat} {Q : tQ} {c : tC} {L : tL} {s : Nat} (hR : RX c) (hs : (s : Int) < c 50 0 2) (k1 : fFan (c 51) s = true → Q (some (.int (iI 1))) c L) (k0 : fFan (c 51) s = false → Q (some (.int (iI 0))) c L) : En z (d + 1) MX8_isFan Q 0 [some (.ref (xad z 13 s))] [] c L := by
  have hg := R0_rng hR
  have hq := R0_src hR s hs
  refine r_aloadN 1 dX8_isFan_0 rfl rfl ?_
  refine r_geti 4 dX8_isFan_1 rfl fX8_9 (ct_13 (by omega)) (sh_13 z _) rfl ?_
  refine r_iconst 5 dX8_isFan_4 rfl ?_
  refine r_iceq 17 8 dX8_isFan_5 rfl (by decide) (by omega) (by omega) (fun h5 => ?_) (fun h5 => ?_)
  · refine r_iconst 18 dX8_isFan_17 rfl ?_
    refine r_goto 22 dX8_isFan_18 (by decide) ?_
    exact r_zret dX8_isFan_22 rfl (by decide) (k1 (decide_eq_true (by omega)))
  · refine r_aloadN 9 dX8_isFan_8 rfl rfl ?_
    refine r_geti 12 dX8_isFan_9 rfl fX8_9 (ct_13 (by omega)) (sh_13 z _) rfl ?_
    refine r_bipush 14 dX8_isFan_12 rfl (by decide) ?_
    refine r_icne 21 17 dX8_isFan_14 rfl (by decide) (by omega) (by omega) (fun h14 => ?_) (fun h14 => ?_)
    · refine r_iconst 22 dX8_isFan_21 rfl ?_
      exact r_zret dX8_isFan_22 rfl (by decide) (k0 (decide_eq_false (by omega)))
    · refine r_iconst 18 dX8_isFan_17 rfl ?_
      refine r_goto 22 dX8_isFan_18 (by decide) ?_
      exact r_zret dX8_isFan_22 rfl (by decide) (k1 (decide_eq_true (by omega)))
theorem x_isAirborne {z : xZ} {d : Nat} {Q : tQ} {c : tC} {L : tL} {s : Nat} (hR : RX c) (hs : (s : Int) < c 50 0 2) (k1 : fTalk (c 51) s = false → Q (some (.int (iI 1))) c L) (k0 : fTalk (c 51) s = true → Q (some (.int (iI 0))) c L) : En z (d + 1) MX8_isAirborne Q 0 [some (.ref (xad z 13 s))] [] c L := by
  have hg := R0_rng hR
  have hq := R0_src hR s hs
  refine r_aloadN 1 dX8_isAirborne_0 rfl rfl ?_
  refine r_geti 4 dX8_isAirborne_1 rfl fX8_9 (ct_13 (by omega)) (sh_13 z _) rfl ?_
  refine r_iconst 5 dX8_isAirborne_4 rfl ?_
  refine r_iceq 20 8 dX8_isAirborne_5 rfl (by decide) (by omega) (by omega) (fun h5 => ?_) (fun h5 => ?_)
  · refine r_iconst 21 dX8_isAirborne_20 rfl ?_
    exact r_zret dX8_isAirborne_21 rfl (by decide) (k0 (decide_eq_true (by omega)))
  · refine r_aloadN 9 dX8_isAirborne_8 rfl rfl ?_
    refine r_geti 12 dX8_isAirborne_9 rfl fX8_9 (ct_13 (by omega)) (sh_13 z _) rfl ?_
    refine r_iconst 13 dX8_isAirborne_12 rfl ?_
    refine r_iceq 20 16 dX8_isAirborne_13 rfl (by decide) (by omega) (by omega) (fun h13 => ?_) (fun h13 => ?_)
    · refine r_iconst 21 dX8_isAirborne_20 rfl ?_
      exact r_zret dX8_isAirborne_21 rfl (by decide) (k0 (decide_eq_true (by omega)))
    · refine r_iconst 17 dX8_isAirborne_16 rfl ?_
      refine r_goto 21 dX8_isAirborne_17 (by decide) ?_
      exact r_zret dX8_isAirborne_21 rfl (by decide) (k1 (decide_eq_false (by omega)))
theorem x_runsAt {z : xZ} {d : Nat} {Q : tQ} {c : tC} {L : tL} {s : Nat} {h x : Int} (hR : RX c) (hs : (s : Int) < c 50 0 2) (hx : x = h % 24) (hx2 : 0 ≤ x ∧ x ≤ 23) (k1 : fRuns (c 51) s h = true → Q (some (.int (iI 1))) c L) (k0 : fRuns (c 51) s h = false → Q (some (.int (iI 0))) c L) : En z (d + 1) MX8_runsAt Q 0 [some (.ref (xad z 13 s)), some (.int (iI x))] [] c L := by
  have hg := R0_rng hR
  have hq := R0_src hR s hs
  refine r_aloadN 1 dX8_runsAt_0 rfl rfl ?_
  refine r_geti 4 dX8_runsAt_1 rfl fX8_24 (ct_13 (by omega)) (sh_13 z _) rfl ?_
  refine r_aloadN 5 dX8_runsAt_4 rfl rfl ?_
  refine r_geti 8 dX8_runsAt_5 rfl fX8_27 (ct_13 (by omega)) (sh_13 z _) rfl ?_
  refine r_icle 33 11 dX8_runsAt_8 rfl (by decide) (by omega) (by omega) (fun h8 => ?_) (fun h8 => ?_)
  · refine r_iloadN 34 dX8_runsAt_33 rfl rfl ?_
    refine r_aloadN 35 dX8_runsAt_34 rfl rfl ?_
    refine r_geti 38 dX8_runsAt_35 rfl fX8_24 (ct_13 (by omega)) (sh_13 z _) rfl ?_
    refine r_iclt 53 41 dX8_runsAt_38 rfl (by decide) (by omega) (by omega) (fun h38 => ?_) (fun h38 => ?_)
    · refine r_iconst 54 dX8_runsAt_53 rfl ?_
      exact r_zret dX8_runsAt_54 rfl (by decide) (k0 (fRuns_f hx (by omega)))
    · refine r_iloadN 42 dX8_runsAt_41 rfl rfl ?_
      refine r_aloadN 43 dX8_runsAt_42 rfl rfl ?_
      refine r_geti 46 dX8_runsAt_43 rfl fX8_27 (ct_13 (by omega)) (sh_13 z _) rfl ?_
      refine r_icgt 53 49 dX8_runsAt_46 rfl (by decide) (by omega) (by omega) (fun h46 => ?_) (fun h46 => ?_)
      · refine r_iconst 54 dX8_runsAt_53 rfl ?_
        exact r_zret dX8_runsAt_54 rfl (by decide) (k0 (fRuns_f hx (by omega)))
      · refine r_iconst 50 dX8_runsAt_49 rfl ?_
        refine r_goto 54 dX8_runsAt_50 (by decide) ?_
        exact r_zret dX8_runsAt_54 rfl (by decide) (k1 (fRuns_t hx (by omega)))
  · refine r_iloadN 12 dX8_runsAt_11 rfl rfl ?_
    refine r_aloadN 13 dX8_runsAt_12 rfl rfl ?_
    refine r_geti 16 dX8_runsAt_13 rfl fX8_24 (ct_13 (by omega)) (sh_13 z _) rfl ?_
    refine r_icge 27 19 dX8_runsAt_16 rfl (by decide) (by omega) (by omega) (fun h16 => ?_) (fun h16 => ?_)
    · refine r_iconst 28 dX8_runsAt_27 rfl ?_
      refine r_goto 32 dX8_runsAt_28 (by decide) ?_
      exact r_zret dX8_runsAt_32 rfl (by decide) (k1 (fRuns_t hx (by omega)))
    · refine r_iloadN 20 dX8_runsAt_19 rfl rfl ?_
      refine r_aloadN 21 dX8_runsAt_20 rfl rfl ?_
      refine r_geti 24 dX8_runsAt_21 rfl fX8_27 (ct_13 (by omega)) (sh_13 z _) rfl ?_
      refine r_icgt 31 27 dX8_runsAt_24 rfl (by decide) (by omega) (by omega) (fun h24 => ?_) (fun h24 => ?_)
      · refine r_iconst 32 dX8_runsAt_31 rfl ?_
        exact r_zret dX8_runsAt_32 rfl (by decide) (k0 (fRuns_f hx (by omega)))
      · refine r_iconst 28 dX8_runsAt_27 rfl ?_
        refine r_goto 32 dX8_runsAt_28 (by decide) ?_
        exact r_zret dX8_runsAt_32 rfl (by decide) (k1 (fRuns_t hx (by omega)))
theorem x_hoursAsNumber {z : xZ} {d : Nat} {Q : tQ} {c : tC} {L : tL} {s : Nat} (hR : RX c) (hs : (s : Int) < c 50 0 2) (k : ∀ r, r = 100 * c 51 23 s + c 51 24 s → Q (some (.int (iI r))) c L) : En z (d + 1) MX8_hoursAsNumber Q 0 [some (.ref (xad z 13 s))] [] c L := by
  have hg := R0_rng hR
  have hq := R0_src hR s hs
  refine r_bipush 2 dX8_hoursAsNumber_0 rfl (by decide) ?_
  refine r_aloadN 3 dX8_hoursAsNumber_2 rfl rfl ?_
  refine r_geti 6 dX8_hoursAsNumber_3 rfl fX8_24 (ct_13 (by omega)) (sh_13 z _) rfl ?_
  refine r_imul 7 dX8_hoursAsNumber_6 rfl ?_
  refine r_aloadN 8 dX8_hoursAsNumber_7 rfl rfl ?_
  refine r_geti 11 dX8_hoursAsNumber_8 rfl fX8_27 (ct_13 (by omega)) (sh_13 z _) rfl ?_
  refine r_iadd 12 dX8_hoursAsNumber_11 rfl ?_
  exact r_ret dX8_hoursAsNumber_12 rfl (k _ (by omega))
theorem x_bit {z : xZ} {d : Nat} {Q : tQ} {c : tC} {L : tL} {i : Nat} (hi : i < 31) (k : Q (some (.int (iI ((2 ^ i : Nat) : Int)))) c L) : En z (d + 1) MX10_bit Q 0 [some (.int (iI (i : Int)))] [] c L := by
  refine r_iconst 1 dX10_bit_0 rfl ?_
  refine r_iloadN 2 dX10_bit_1 rfl rfl ?_
  refine r_ishl 3 dX10_bit_2 rfl ?_
  refine r_ret dX10_bit_3 rfl ?_
  rw [ishl_one i hi]
  exact k
theorem x_hasBit {z : xZ} {d : Nat} {Q : tQ} {c : tC} {L : tL} {m i : Nat} (hm : m < 2 ^ 31) (hi : i < 31) (k1 : m.testBit i = true → Q (some (.int (iI 1))) c L) (k0 : m.testBit i = false → Q (some (.int (iI 0))) c L) : En z (d + 1) MX10_hasBit Q 0 [some (.int (iI (m : Int))), some (.int (iI (i : Int)))] [] c L := by
  refine r_iloadN 1 dX10_hasBit_0 rfl rfl ?_
  refine r_iloadN 2 dX10_hasBit_1 rfl rfl ?_
  refine r_ishr 3 dX10_hasBit_2 rfl ?_
  refine r_iconst 4 dX10_hasBit_3 rfl ?_
  refine r_iand 5 dX10_hasBit_4 rfl ?_
  rw [ibit hm hi]
  refine r_ifeq 12 8 dX10_hasBit_5 rfl (by decide) (by split <;> omega) (fun h5 => ?_) (fun h5 => ?_)
  · refine r_iconst 13 dX10_hasBit_12 rfl ?_
    refine r_zret dX10_hasBit_13 rfl (by decide) (k0 ?_)
    cases hb : m.testBit i <;> simp_all
  · refine r_iconst 9 dX10_hasBit_8 rfl ?_
    refine r_goto 13 dX10_hasBit_9 (by decide) ?_
    refine r_zret dX10_hasBit_13 rfl (by decide) (k1 ?_)
    cases hb : m.testBit i <;> simp_all
theorem x_beat {z : xZ} {d : Nat} {Q : tQ} {c : tC} {L : tL} {a b : Int} (ha : 0 ≤ a ∧ a ≤ 99) (hb : 0 ≤ b ∧ b ≤ 99) (k1 : fBeat a b = true → Q (some (.int (iI 1))) c L) (k0 : fBeat a b = false → Q (some (.int (iI 0))) c L) : En z (d + 1) MX10_beat Q 0 [some (.int (iI a)), some (.int (iI b)), none] [] c L := by
  refine r_iloadN 1 dX10_beat_0 rfl rfl ?_
  refine r_iloadN 2 dX10_beat_1 rfl rfl ?_
  refine r_isub 3 dX10_beat_2 rfl ?_
  refine r_abs 6 dX10_beat_3 rfl (gX10_368) (Nat.le_of_ble_eq_true rfl) (by omega) ?_
  refine r_istore2 7 dX10_beat_6 rfl rfl (by decide) ?_
  refine r_iloadN 8 dX10_beat_7 rfl rfl ?_
  refine r_iconst 9 dX10_beat_8 rfl ?_
  refine r_iclt 21 12 dX10_beat_9 rfl (by decide) (by omega) (by omega) (fun h9 => ?_) (fun h9 => ?_)
  · refine r_iconst 22 dX10_beat_21 rfl ?_
    exact r_zret dX10_beat_22 rfl (by decide) (k0 (decide_eq_false (by omega)))
  · refine r_iloadN 13 dX10_beat_12 rfl rfl ?_
    refine r_iconst 14 dX10_beat_13 rfl ?_
    refine r_icgt 21 17 dX10_beat_14 rfl (by decide) (by omega) (by omega) (fun h14 => ?_) (fun h14 => ?_)
    · refine r_iconst 22 dX10_beat_21 rfl ?_
      exact r_zret dX10_beat_22 rfl (by decide) (k0 (decide_eq_false (by omega)))
    · refine r_iconst 18 dX10_beat_17 rfl ?_
      refine r_goto 22 dX10_beat_18 (by decide) ?_
      exact r_zret dX10_beat_22 rfl (by decide) (k1 (decide_eq_true (by omega)))
theorem x_farApart {z : xZ} {d : Nat} {Q : tQ} {c : tC} {L : tL} {a b : Int} (ha : 0 ≤ a ∧ a ≤ 63) (hb : 0 ≤ b ∧ b ≤ 63) (k : ∀ r, r = fFar a b → Q (some (.int (iI r))) c L) : En z (d + 1) MX10_farApart Q 0 [some (.int (iI a)), some (.int (iI b))] [] c L := by
  refine r_iloadN 1 dX10_farApart_0 rfl rfl ?_
  refine r_bipush 3 dX10_farApart_1 rfl (by decide) ?_
  refine r_idiv 4 dX10_farApart_3 rfl (by omega) (by omega) ?_
  refine r_iloadN 5 dX10_farApart_4 rfl rfl ?_
  refine r_bipush 7 dX10_farApart_5 rfl (by decide) ?_
  refine r_idiv 8 dX10_farApart_7 rfl (by omega) (by omega) ?_
  refine r_isub 9 dX10_farApart_8 rfl ?_
  refine r_abs 12 dX10_farApart_9 rfl (gX10_368) (Nat.le_of_ble_eq_true rfl) (by omega) ?_
  refine r_iloadN 13 dX10_farApart_12 rfl rfl ?_
  refine r_bipush 15 dX10_farApart_13 rfl (by decide) ?_
  refine r_irem 16 dX10_farApart_15 rfl (by omega) (by omega) ?_
  refine r_iloadN 17 dX10_farApart_16 rfl rfl ?_
  refine r_bipush 19 dX10_farApart_17 rfl (by decide) ?_
  refine r_irem 20 dX10_farApart_19 rfl (by omega) (by omega) ?_
  refine r_isub 21 dX10_farApart_20 rfl ?_
  refine r_abs 24 dX10_farApart_21 rfl (gX10_368) (Nat.le_of_ble_eq_true rfl) (by omega) ?_
  refine r_iadd 25 dX10_farApart_24 rfl ?_
  refine r_ret dX10_farApart_25 rfl (k _ ?_)
  unfold fFar
  omega
