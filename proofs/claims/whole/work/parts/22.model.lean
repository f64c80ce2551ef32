theorem m_apart {z : xZ} {d : Nat} {Q : tQ} {c : tC} {L : tL} {a b : Int} (ha : -100000 ≤ a ∧ a ≤ 100000) (hb : -100000 ≤ b ∧ b ≤ 100000) (k : ∀ r, r = max (a - b) (b - a) → Q (some (.int (iI r))) c L) : En z (d + 1) MX11_apart Q 0 [some (.ref (xad z 50 0)), some (.int (iI a)), some (.int (iI b))] [] c L := by
  refine r_iloadN 1 dX11_apart_0 rfl rfl ?_
  refine r_iloadN 2 dX11_apart_1 rfl rfl ?_
  refine r_icle 11 5 dX11_apart_2 rfl (by decide) (by omega) (by omega) (fun h2 => ?_) (fun h2 => ?_)
  · refine r_iloadN 12 dX11_apart_11 rfl rfl ?_
    refine r_iloadN 13 dX11_apart_12 rfl rfl ?_
    refine r_isub 14 dX11_apart_13 rfl ?_
    exact r_ret dX11_apart_14 rfl (k _ (by omega))
  · refine r_iloadN 6 dX11_apart_5 rfl rfl ?_
    refine r_iloadN 7 dX11_apart_6 rfl rfl ?_
    refine r_isub 8 dX11_apart_7 rfl ?_
    refine r_goto 14 dX11_apart_8 (by decide) ?_
    exact r_ret dX11_apart_14 rfl (k _ (by omega))
theorem m_isTalk {z : xZ} {d : Nat} {Q : tQ} {c : tC} {L : tL} {n s : Nat} (hR : RX c) (hn : c 50 0 2 = (n : Int)) (hs : s < n) (k1 : fTalk (c 51) s = true → Q (some (.int (iI 1))) c L) (k0 : fTalk (c 51) s = false → Q (some (.int (iI 0))) c L) : En z (d + 1) MX11_isTalk Q 0 [some (.ref (xad z 50 0)), some (.int (iI (s : Int)))] [] c L := by
  have hg := R0_rng hR
  have hc := R0_scal hR
  have hq := R0_src hR s (by omega)
  refine r_aloadN 1 dX11_isTalk_0 rfl rfl ?_
  refine r_getq 4 dX11_isTalk_1 rfl fX11_44 (by decide) (sh_50 z _) rfl ?_
  refine r_iloadN 5 dX11_isTalk_4 rfl rfl ?_
  refine r_iald (n := 14) 6 dX11_isTalk_5 (s) rfl rfl (by decide) (sh_51 z _) (by decide) (by omega) (by omega) ?_
  refine r_iconst 7 dX11_isTalk_6 rfl ?_
  refine r_iceq 20 10 dX11_isTalk_7 rfl (by decide) (by omega) (by omega) (fun h7 => ?_) (fun h7 => ?_)
  · refine r_iconst 21 dX11_isTalk_20 rfl ?_
    refine r_goto 25 dX11_isTalk_21 (by decide) ?_
    refine r_zret dX11_isTalk_25 rfl (by decide) (k1 ?_)
    exact decide_eq_true (by omega)
  · refine r_aloadN 11 dX11_isTalk_10 rfl rfl ?_
    refine r_getq 14 dX11_isTalk_11 rfl fX11_44 (by decide) (sh_50 z _) rfl ?_
    refine r_iloadN 15 dX11_isTalk_14 rfl rfl ?_
    refine r_iald (n := 14) 16 dX11_isTalk_15 (s) rfl rfl (by decide) (sh_51 z _) (by decide) (by omega) (by omega) ?_
    refine r_iconst 17 dX11_isTalk_16 rfl ?_
    refine r_icne 24 20 dX11_isTalk_17 rfl (by decide) (by omega) (by omega) (fun h17 => ?_) (fun h17 => ?_)
    · refine r_iconst 25 dX11_isTalk_24 rfl ?_
      refine r_zret dX11_isTalk_25 rfl (by decide) (k0 ?_)
      exact decide_eq_false (by omega)
    · refine r_iconst 21 dX11_isTalk_20 rfl ?_
      refine r_goto 25 dX11_isTalk_21 (by decide) ?_
      refine r_zret dX11_isTalk_25 rfl (by decide) (k1 ?_)
      exact decide_eq_true (by omega)
theorem m_isFan {z : xZ} {d : Nat} {Q : tQ} {c : tC} {L : tL} {n s : Nat} (hR : RX c) (hn : c 50 0 2 = (n : Int)) (hs : s < n) (k1 : fFan (c 51) s = true → Q (some (.int (iI 1))) c L) (k0 : fFan (c 51) s = false → Q (some (.int (iI 0))) c L) : En z (d + 1) MX11_isFan Q 0 [some (.ref (xad z 50 0)), some (.int (iI (s : Int)))] [] c L := by
  have hg := R0_rng hR
  have hc := R0_scal hR
  have hq := R0_src hR s (by omega)
  refine r_aloadN 1 dX11_isFan_0 rfl rfl ?_
  refine r_getq 4 dX11_isFan_1 rfl fX11_44 (by decide) (sh_50 z _) rfl ?_
  refine r_iloadN 5 dX11_isFan_4 rfl rfl ?_
  refine r_iald (n := 14) 6 dX11_isFan_5 (s) rfl rfl (by decide) (sh_51 z _) (by decide) (by omega) (by omega) ?_
  refine r_iconst 7 dX11_isFan_6 rfl ?_
  refine r_iceq 21 10 dX11_isFan_7 rfl (by decide) (by omega) (by omega) (fun h7 => ?_) (fun h7 => ?_)
  · refine r_iconst 22 dX11_isFan_21 rfl ?_
    refine r_goto 26 dX11_isFan_22 (by decide) ?_
    refine r_zret dX11_isFan_26 rfl (by decide) (k1 ?_)
    exact decide_eq_true (by omega)
  · refine r_aloadN 11 dX11_isFan_10 rfl rfl ?_
    refine r_getq 14 dX11_isFan_11 rfl fX11_44 (by decide) (sh_50 z _) rfl ?_
    refine r_iloadN 15 dX11_isFan_14 rfl rfl ?_
    refine r_iald (n := 14) 16 dX11_isFan_15 (s) rfl rfl (by decide) (sh_51 z _) (by decide) (by omega) (by omega) ?_
    refine r_bipush 18 dX11_isFan_16 rfl (by decide) ?_
    refine r_icne 25 21 dX11_isFan_18 rfl (by decide) (by omega) (by omega) (fun h18 => ?_) (fun h18 => ?_)
    · refine r_iconst 26 dX11_isFan_25 rfl ?_
      refine r_zret dX11_isFan_26 rfl (by decide) (k0 ?_)
      exact decide_eq_false (by omega)
    · refine r_iconst 22 dX11_isFan_21 rfl ?_
      refine r_goto 26 dX11_isFan_22 (by decide) ?_
      refine r_zret dX11_isFan_26 rfl (by decide) (k1 ?_)
      exact decide_eq_true (by omega)
theorem m_beat {z : xZ} {d : Nat} {Q : tQ} {c : tC} {L : tL} {n s o : Nat} (hR : RX c) (hn : c 50 0 2 = (n : Int)) (hs : s < n) (ho : o < n) (k1 : fBeat (c 51 21 s) (c 51 21 o) = true → Q (some (.int (iI 1))) c L) (k0 : fBeat (c 51 21 s) (c 51 21 o) = false → Q (some (.int (iI 0))) c L) : En z (d + 2) MX11_beat Q 0 [some (.ref (xad z 50 0)), some (.int (iI (s : Int))), some (.int (iI (o : Int))), none] [] c L := by
  have hg := R0_rng hR
  have hc := R0_scal hR
  have hq := R0_src hR s (by omega)
  have hq2 := R0_src hR o (by omega)
  refine r_aloadN 1 dX11_beat_0 rfl rfl ?_
  refine r_aloadN 2 dX11_beat_1 rfl rfl ?_
  refine r_getq 5 dX11_beat_2 rfl fX11_50 (by decide) (sh_50 z _) rfl ?_
  refine r_iloadN 6 dX11_beat_5 rfl rfl ?_
  refine r_iald (n := 14) 7 dX11_beat_6 (s) rfl rfl (by decide) (sh_51 z _) (by decide) (by omega) (by omega) ?_
  refine r_aloadN 8 dX11_beat_7 rfl rfl ?_
  refine r_getq 11 dX11_beat_8 rfl fX11_50 (by decide) (sh_50 z _) rfl ?_
  refine r_iloadN 12 dX11_beat_11 rfl rfl ?_
  refine r_iald (n := 14) 13 dX11_beat_12 (o) rfl rfl (by decide) (sh_51 z _) (by decide) (by omega) (by omega) ?_
  refine r_cv2 16 dX11_beat_13 rfl gX11_266 rfl (by decide) (sh_50 z _) rfl rfl (Nat.le_of_ble_eq_true rfl) (Nat.le_of_ble_eq_true rfl) rfl ?_
  refine m_apart (by omega) (by omega) (fun r13 e13 => ?_)
  refine r_istore3 17 dX11_beat_16 rfl rfl (by decide) ?_
  refine r_iloadN 18 dX11_beat_17 rfl rfl ?_
  refine r_iconst 19 dX11_beat_18 rfl ?_
  refine r_iclt 31 22 dX11_beat_19 rfl (by decide) (by omega) (by omega) (fun h19 => ?_) (fun h19 => ?_)
  · refine r_iconst 32 dX11_beat_31 rfl ?_
    refine r_zret dX11_beat_32 rfl (by decide) (k0 ?_)
    exact decide_eq_false (by omega)
  · refine r_iloadN 23 dX11_beat_22 rfl rfl ?_
    refine r_iconst 24 dX11_beat_23 rfl ?_
    refine r_icgt 31 27 dX11_beat_24 rfl (by decide) (by omega) (by omega) (fun h24 => ?_) (fun h24 => ?_)
    · refine r_iconst 32 dX11_beat_31 rfl ?_
      refine r_zret dX11_beat_32 rfl (by decide) (k0 ?_)
      exact decide_eq_false (by omega)
    · refine r_iconst 28 dX11_beat_27 rfl ?_
      refine r_goto 32 dX11_beat_28 (by decide) ?_
      refine r_zret dX11_beat_32 rfl (by decide) (k1 ?_)
      exact decide_eq_true (by omega)
theorem m_isOf {z : xZ} {d : Nat} {Q : tQ} {c : tC} {L : tL} {p i : Nat} {h : Int} (hR : RX c) (hp : (p : Int) < c 50 0 6) (hi : (i : Int) < c 51 38 p) (hh : 0 ≤ h ∧ h ≤ 239) (k1 : fIsOf (c 51) (8 * p + i) h = true → Q (some (.int (iI 1))) c L) (k0 : fIsOf (c 51) (8 * p + i) h = false → Q (some (.int (iI 0))) c L) : En z (d + 1) MX11_isOf Q 0 [some (.ref (xad z 50 0)), some (.int (iI ((8 * p + i : Nat) : Int))), some (.int (iI h)), none] [] c L := by
  have hg := R0_rng hR
  have hq := R0_plan hR p hp
  have hk := hq.2.2 i hi
  refine r_iloadN 1 dX11_isOf_0 rfl rfl ?_
  refine r_aloadN 2 dX11_isOf_1 rfl rfl ?_
  refine r_getq 5 dX11_isOf_2 rfl fX11_110 (by decide) (sh_50 z _) rfl ?_
  refine r_iloadN 6 dX11_isOf_5 rfl rfl ?_
  refine r_iald (n := 64) 7 dX11_isOf_6 (8 * p + i) rfl rfl (by decide) (sh_51 z _) (by decide) (by omega) (by omega) ?_
  refine r_isub 8 dX11_isOf_7 rfl ?_
  refine r_istore3 9 dX11_isOf_8 rfl rfl (by decide) ?_
  refine r_iloadN 10 dX11_isOf_9 rfl rfl ?_
  refine r_ifge 15 13 dX11_isOf_10 rfl (by decide) (by omega) (fun h10 => ?_) (fun h10 => ?_)
  · refine r_aloadN 16 dX11_isOf_15 rfl rfl ?_
    refine r_getq 19 dX11_isOf_16 rfl fX11_116 (by decide) (sh_50 z _) rfl ?_
    refine r_iloadN 20 dX11_isOf_19 rfl rfl ?_
    refine r_iald (n := 64) 21 dX11_isOf_20 (8 * p + i) rfl rfl (by decide) (sh_51 z _) (by decide) (by omega) (by omega) ?_
    refine r_ifle 33 24 dX11_isOf_21 rfl (by decide) (by omega) (fun h21 => ?_) (fun h21 => ?_)
    · refine r_iloadN 34 dX11_isOf_33 rfl rfl ?_
      refine r_aloadN 35 dX11_isOf_34 rfl rfl ?_
      refine r_getq 38 dX11_isOf_35 rfl fX11_113 (by decide) (sh_50 z _) rfl ?_
      refine r_iloadN 39 dX11_isOf_38 rfl rfl ?_
      refine r_iald (n := 64) 40 dX11_isOf_39 (8 * p + i) rfl rfl (by decide) (sh_51 z _) (by decide) (by omega) (by omega) ?_
      refine r_aloadN 41 dX11_isOf_40 rfl rfl ?_
      refine r_getq 44 dX11_isOf_41 rfl fX11_110 (by decide) (sh_50 z _) rfl ?_
      refine r_iloadN 45 dX11_isOf_44 rfl rfl ?_
      refine r_iald (n := 64) 46 dX11_isOf_45 (8 * p + i) rfl rfl (by decide) (sh_51 z _) (by decide) (by omega) (by omega) ?_
      refine r_isub 47 dX11_isOf_46 rfl ?_
      refine r_icgt 54 50 dX11_isOf_47 rfl (by decide) (by omega) (by omega) (fun h47 => ?_) (fun h47 => ?_)
      · refine r_iconst 55 dX11_isOf_54 rfl ?_
        refine r_zret dX11_isOf_55 rfl (by decide) (k0 ?_)
        unfold fIsOf
        split <;> first | exact decide_eq_false (by omega) | (exfalso; omega)
      · refine r_iconst 51 dX11_isOf_50 rfl ?_
        refine r_goto 55 dX11_isOf_51 (by decide) ?_
        refine r_zret dX11_isOf_55 rfl (by decide) (k1 ?_)
        unfold fIsOf
        split <;> first | exact decide_eq_true (by omega) | (exfalso; omega)
    · refine r_iloadN 25 dX11_isOf_24 rfl rfl ?_
      refine r_aloadN 26 dX11_isOf_25 rfl rfl ?_
      refine r_getq 29 dX11_isOf_26 rfl fX11_116 (by decide) (sh_50 z _) rfl ?_
      refine r_iloadN 30 dX11_isOf_29 rfl rfl ?_
      refine r_iald (n := 64) 31 dX11_isOf_30 (8 * p + i) rfl rfl (by decide) (sh_51 z _) (by decide) (by omega) (by omega) ?_
      have hm1 := Int.emod_nonneg (h - c 51 41 (8 * p + i)) (show c 51 43 (8 * p + i) ≠ 0 by omega)
      have hm2 := Int.emod_lt_of_pos (h - c 51 41 (8 * p + i)) (show 0 < c 51 43 (8 * p + i) by omega)
      refine r_irem 32 dX11_isOf_31 rfl (by omega) (by omega) ?_
      refine r_istore3 33 dX11_isOf_32 rfl rfl (by decide) ?_
      refine r_iloadN 34 dX11_isOf_33 rfl rfl ?_
      refine r_aloadN 35 dX11_isOf_34 rfl rfl ?_
      refine r_getq 38 dX11_isOf_35 rfl fX11_113 (by decide) (sh_50 z _) rfl ?_
      refine r_iloadN 39 dX11_isOf_38 rfl rfl ?_
      refine r_iald (n := 64) 40 dX11_isOf_39 (8 * p + i) rfl rfl (by decide) (sh_51 z _) (by decide) (by omega) (by omega) ?_
      refine r_aloadN 41 dX11_isOf_40 rfl rfl ?_
      refine r_getq 44 dX11_isOf_41 rfl fX11_110 (by decide) (sh_50 z _) rfl ?_
      refine r_iloadN 45 dX11_isOf_44 rfl rfl ?_
      refine r_iald (n := 64) 46 dX11_isOf_45 (8 * p + i) rfl rfl (by decide) (sh_51 z _) (by decide) (by omega) (by omega) ?_
      refine r_isub 47 dX11_isOf_46 rfl ?_
      refine r_icgt 54 50 dX11_isOf_47 rfl (by decide) (by omega) (by omega) (fun h47 => ?_) (fun h47 => ?_)
      · refine r_iconst 55 dX11_isOf_54 rfl ?_
        refine r_zret dX11_isOf_55 rfl (by decide) (k0 ?_)
        unfold fIsOf
        split <;> first | exact decide_eq_false (by omega) | (exfalso; omega)
      · refine r_iconst 51 dX11_isOf_50 rfl ?_
        refine r_goto 55 dX11_isOf_51 (by decide) ?_
        refine r_zret dX11_isOf_55 rfl (by decide) (k1 ?_)
        unfold fIsOf
        split <;> first | exact decide_eq_true (by omega) | (exfalso; omega)
  · refine r_iconst 14 dX11_isOf_13 rfl ?_
    refine r_zret dX11_isOf_14 rfl (by decide) (k0 ?_)
    unfold fIsOf
    split <;> first | exact decide_eq_false (by omega) | (exfalso; omega)
theorem m_isOff_loop {z : xZ} {d : Nat} {Q : tQ} {c : tC} {L : tL} {n s p : Nat} {h : Int} (hR : RX c) (hn : c 50 0 2 = (n : Int)) (hs : s < n) (hh : 0 ≤ h ∧ h ≤ 239) (hp : (p : Int) = c 50 0 7) (kk1 : fOff (c 50 0) (c 51) s h = true → Q (some (.int (iI 1))) c L) (kk0 : fOff (c 50 0) (c 51) s h = false → Q (some (.int (iI 0))) c L) : ∀ (k i : Nat) (x : Int) (v4 : Option Value), i = k → x = (k : Int) - 1 → (k : Int) ≤ c 51 38 p → fOff (c 50 0) (c 51) s h = fOffI (c 51) p s h (fHand (c 51) s) k → En z (d + 2) MX11_isOff Q 20 [some (.ref (xad z 50 0)), some (.int (iI (s : Int))), some (.int (iI h)), some (.int (iI x)), v4] [] c L := by
  have hg := R0_rng hR
  have hc := R0_scal hR
  have hq := R0_src hR s (by omega)
  have hqp := R0_plan hR p (by omega)
  intro k
  induction k with
  | zero =>
    intro i x v4 hi hx hk hO
    refine r_iloadN 21 dX11_isOff_20 rfl rfl ?_
    refine r_iflt 79 24 dX11_isOff_21 rfl (by decide) (by omega) (fun h21 => ?_) (fun h21 => ?_)
    · refine r_aloadN 80 dX11_isOff_79 rfl rfl ?_
      refine r_getq 83 dX11_isOff_80 rfl fX11_65 (by decide) (sh_50 z _) rfl ?_
      refine r_iloadN 84 dX11_isOff_83 rfl rfl ?_
      refine r_iald (n := 14) 85 dX11_isOff_84 (s) rfl rfl (by decide) (sh_51 z _) (by decide) (by omega) (by omega) ?_
      refine r_iconst 86 dX11_isOff_85 rfl ?_
      refine r_icne 93 89 dX11_isOff_86 rfl (by decide) (by omega) (by omega) (fun h86 => ?_) (fun h86 => ?_)
      · refine r_iconst 94 dX11_isOff_93 rfl ?_
        refine r_zret dX11_isOff_94 rfl (by decide) (kk0 ?_)
        rw [hO]
        show decide (c 51 26 s = 1) = _
        first
          | exact decide_eq_true (by omega)
          | exact decide_eq_false (by omega)
      · refine r_iconst 90 dX11_isOff_89 rfl ?_
        refine r_goto 94 dX11_isOff_90 (by decide) ?_
        refine r_zret dX11_isOff_94 rfl (by decide) (kk1 ?_)
        rw [hO]
        show decide (c 51 26 s = 1) = _
        first
          | exact decide_eq_true (by omega)
          | exact decide_eq_false (by omega)
    · exfalso; omega
  | succ k ih =>
    intro i x v4 hi hx hk hO
    refine r_iloadN 21 dX11_isOff_20 rfl rfl ?_
    refine r_iflt 79 24 dX11_isOff_21 rfl (by decide) (by omega) (fun h21 => ?_) (fun h21 => ?_)
    · exfalso; omega
    · obtain rfl : x = (k : Int) := by omega
      have hki := hqp.2.2 k (by omega)
      refine r_bipush 26 dX11_isOff_24 rfl (by decide) ?_
      refine r_aloadN 27 dX11_isOff_26 rfl rfl ?_
      refine r_geti 30 dX11_isOff_27 rfl fX11_9 (by decide) (sh_50 z _) rfl ?_
      rw [← hp]
      refine r_imul 31 dX11_isOff_30 rfl ?_
      refine r_iloadN 32 dX11_isOff_31 rfl rfl ?_
      refine r_iadd 33 dX11_isOff_32 rfl ?_
      rw [show (8 * (p : Int) + (k : Int)) = ((8 * p + k : Nat) : Int) by omega]
      refine r_istore4 35 dX11_isOff_33 rfl rfl (by decide) ?_
      refine r_aloadN 36 dX11_isOff_35 rfl rfl ?_
      refine r_getq 39 dX11_isOff_36 rfl fX11_107 (by decide) (sh_50 z _) rfl ?_
      refine r_iload 41 dX11_isOff_39 rfl rfl ?_
      refine r_iald (n := 64) 42 dX11_isOff_41 (8 * p + k) rfl rfl (by decide) (sh_51 z _) (by decide) (by omega) (by omega) ?_
      refine r_iloadN 43 dX11_isOff_42 rfl rfl ?_
      refine r_icne 73 46 dX11_isOff_43 rfl (by decide) (by omega) (by omega) (fun h43 => ?_) (fun h43 => ?_)
      · refine r_iinc3 76 dX11_isOff_73 rfl rfl (by decide) ?_
        refine r_goto 20 dX11_isOff_76 (by decide) ?_
        refine ih k _ _ rfl rfl (by omega) ?_
        rw [hO, fOffI, if_neg]
        intro q
        first
          | (exfalso; omega)
          | (rw [y50] at q; exact absurd q.2 (by decide))
      · refine r_aloadN 47 dX11_isOff_46 rfl rfl ?_
        refine r_iload 49 dX11_isOff_47 rfl rfl ?_
        refine r_iloadN 50 dX11_isOff_49 rfl rfl ?_
        refine r_cv2 53 dX11_isOff_50 rfl gX11_260 rfl (by decide) (sh_50 z _) rfl rfl (Nat.le_of_ble_eq_true rfl) (Nat.le_of_ble_eq_true rfl) rfl ?_
        refine m_isOf hR (p := p) (i := k) (by omega) (by omega) hh (fun y50 => ?_) (fun y50 => ?_)
        · refine r_ifeqF 56 dX11_isOff_53 rfl 73 (by decide) (by decide) (by decide) ?_
          refine r_aloadN 57 dX11_isOff_56 rfl rfl ?_
          refine r_getq 60 dX11_isOff_57 rfl fX11_104 (by decide) (sh_50 z _) rfl ?_
          refine r_iload 62 dX11_isOff_60 rfl rfl ?_
          refine r_iald (n := 64) 63 dX11_isOff_62 (8 * p + k) rfl rfl (by decide) (sh_51 z _) (by decide) (by omega) (by omega) ?_
          refine r_iconst 64 dX11_isOff_63 rfl ?_
          refine r_icne 71 67 dX11_isOff_64 rfl (by decide) (by omega) (by omega) (fun h64 => ?_) (fun h64 => ?_)
          · refine r_iconst 72 dX11_isOff_71 rfl ?_
            refine r_zret dX11_isOff_72 rfl (by decide) (kk0 ?_)
            rw [hO]
            rw [fOffI, if_pos ⟨by omega, y50⟩]
            first
              | exact decide_eq_true (by omega)
              | exact decide_eq_false (by omega)
          · refine r_iconst 68 dX11_isOff_67 rfl ?_
            refine r_goto 72 dX11_isOff_68 (by decide) ?_
            refine r_zret dX11_isOff_72 rfl (by decide) (kk1 ?_)
            rw [hO]
            rw [fOffI, if_pos ⟨by omega, y50⟩]
            first
              | exact decide_eq_true (by omega)
              | exact decide_eq_false (by omega)
        · refine r_ifeqT 73 0 dX11_isOff_53 (by decide) (by decide) (by decide) ?_
          refine r_iinc3 76 dX11_isOff_73 rfl rfl (by decide) ?_
          refine r_goto 20 dX11_isOff_76 (by decide) ?_
          refine ih k _ _ rfl rfl (by omega) ?_
          rw [hO, fOffI, if_neg]
          intro q
          first
            | (exfalso; omega)
            | (rw [y50] at q; exact absurd q.2 (by decide))
theorem m_isOff {z : xZ} {d : Nat} {Q : tQ} {c : tC} {L : tL} {n s : Nat} {h : Int} (hR : RX c) (hn : c 50 0 2 = (n : Int)) (hs : s < n) (hh : 0 ≤ h ∧ h ≤ 239) (k1 : fOff (c 50 0) (c 51) s h = true → Q (some (.int (iI 1))) c L) (k0 : fOff (c 50 0) (c 51) s h = false → Q (some (.int (iI 0))) c L) : En z (d + 2) MX11_isOff Q 0 [some (.ref (xad z 50 0)), some (.int (iI (s : Int))), some (.int (iI h)), none, none] [] c L := by
  have hg := R0_rng hR
  have hc := R0_scal hR
  have hq := R0_src hR s (by omega)
  refine r_aloadN 1 dX11_isOff_0 rfl rfl ?_
  refine r_geti 4 dX11_isOff_1 rfl fX11_9 (by decide) (sh_50 z _) rfl ?_
  refine r_iconst 5 dX11_isOff_4 rfl ?_
  refine r_iceq 79 8 dX11_isOff_5 rfl (by decide) (by omega) (by omega) (fun h5 => ?_) (fun h5 => ?_)
  · refine r_aloadN 80 dX11_isOff_79 rfl rfl ?_
    refine r_getq 83 dX11_isOff_80 rfl fX11_65 (by decide) (sh_50 z _) rfl ?_
    refine r_iloadN 84 dX11_isOff_83 rfl rfl ?_
    refine r_iald (n := 14) 85 dX11_isOff_84 (s) rfl rfl (by decide) (sh_51 z _) (by decide) (by omega) (by omega) ?_
    refine r_iconst 86 dX11_isOff_85 rfl ?_
    refine r_icne 93 89 dX11_isOff_86 rfl (by decide) (by omega) (by omega) (fun h86 => ?_) (fun h86 => ?_)
    · refine r_iconst 94 dX11_isOff_93 rfl ?_
      refine r_zret dX11_isOff_94 rfl (by decide) (k0 ?_)
      unfold fOff
      rw [if_pos (by omega)]
      show decide (c 51 26 s = 1) = _
      first
        | exact decide_eq_true (by omega)
        | exact decide_eq_false (by omega)
    · refine r_iconst 90 dX11_isOff_89 rfl ?_
      refine r_goto 94 dX11_isOff_90 (by decide) ?_
      refine r_zret dX11_isOff_94 rfl (by decide) (k1 ?_)
      unfold fOff
      rw [if_pos (by omega)]
      show decide (c 51 26 s = 1) = _
      first
        | exact decide_eq_true (by omega)
        | exact decide_eq_false (by omega)
  · refine r_aloadN 9 dX11_isOff_8 rfl rfl ?_
    refine r_getq 12 dX11_isOff_9 rfl fX11_101 (by decide) (sh_50 z _) rfl ?_
    refine r_aloadN 13 dX11_isOff_12 rfl rfl ?_
    refine r_geti 16 dX11_isOff_13 rfl fX11_9 (by decide) (sh_50 z _) rfl ?_
    obtain ⟨p, hp⟩ := Int.eq_ofNat_of_zero_le (show 0 ≤ c 50 0 7 by omega)
    have hqp := R0_plan hR p (by omega)
    obtain ⟨q0, hq0⟩ := Int.eq_ofNat_of_zero_le hqp.2.1.1
    rw [hp]
    refine r_iald (n := 8) 17 dX11_isOff_16 (p) rfl rfl (by decide) (sh_51 z _) (by decide) (by omega) (by omega) ?_
    refine r_iconst 18 dX11_isOff_17 rfl ?_
    refine r_isub 19 dX11_isOff_18 rfl ?_
    refine r_istore3 20 dX11_isOff_19 rfl rfl (by decide) ?_
    exact m_isOff_loop hR hn hs hh hp.symm k1 k0 q0 q0 _ none rfl (by omega) (by omega) (by unfold fOff; rw [if_neg (by omega), show (c 50 0 7).toNat = p by omega, show (c 51 38 p).toNat = q0 by omega])
theorem m_isFanning {z : xZ} {d : Nat} {Q : tQ} {c : tC} {L : tL} {n s : Nat} {h : Int} (hR : RX c) (hn : c 50 0 2 = (n : Int)) (hs : s < n) (hh : 0 ≤ h ∧ h ≤ 239) (k1 : fFans (c 50 0) (c 51) s h = true → Q (some (.int (iI 1))) c L) (k0 : fFans (c 50 0) (c 51) s h = false → Q (some (.int (iI 0))) c L) : En z (d + 3) MX11_isFanning Q 0 [some (.ref (xad z 50 0)), some (.int (iI (s : Int))), some (.int (iI h)), none, none] [] c L := by
  have hg := R0_rng hR
  have hc := R0_scal hR
  have hq := R0_src hR s (by omega)
  refine r_iloadN 1 dX11_isFanning_0 rfl rfl ?_
  refine r_bipush 3 dX11_isFanning_1 rfl (by decide) ?_
  refine r_irem 4 dX11_isFanning_3 rfl (by omega) (by omega) ?_
  refine r_istore3 5 dX11_isFanning_4 rfl rfl (by decide) ?_
  refine r_aloadN 6 dX11_isFanning_5 rfl rfl ?_
  refine r_getq 9 dX11_isFanning_6 rfl fX11_56 (by decide) (sh_50 z _) rfl ?_
  refine r_iloadN 10 dX11_isFanning_9 rfl rfl ?_
  refine r_iald (n := 14) 11 dX11_isFanning_10 (s) rfl rfl (by decide) (sh_51 z _) (by decide) (by omega) (by omega) ?_
  refine r_aloadN 12 dX11_isFanning_11 rfl rfl ?_
  refine r_getq 15 dX11_isFanning_12 rfl fX11_59 (by decide) (sh_50 z _) rfl ?_
  refine r_iloadN 16 dX11_isFanning_15 rfl rfl ?_
  refine r_iald (n := 14) 17 dX11_isFanning_16 (s) rfl rfl (by decide) (sh_51 z _) (by decide) (by omega) (by omega) ?_
  refine r_icgt 48 20 dX11_isFanning_17 rfl (by decide) (by omega) (by omega) (fun h17 => ?_) (fun h17 => ?_)
  · refine r_iloadN 49 dX11_isFanning_48 rfl rfl ?_
    refine r_aloadN 50 dX11_isFanning_49 rfl rfl ?_
    refine r_getq 53 dX11_isFanning_50 rfl fX11_56 (by decide) (sh_50 z _) rfl ?_
    refine r_iloadN 54 dX11_isFanning_53 rfl rfl ?_
    refine r_iald (n := 14) 55 dX11_isFanning_54 (s) rfl rfl (by decide) (sh_51 z _) (by decide) (by omega) (by omega) ?_
    refine r_icge 68 58 dX11_isFanning_55 rfl (by decide) (by omega) (by omega) (fun h55 => ?_) (fun h55 => ?_)
    · refine r_iconst 69 dX11_isFanning_68 rfl ?_
      refine r_goto 73 dX11_isFanning_69 (by decide) ?_
      refine r_istore4 75 dX11_isFanning_73 rfl rfl (by decide) ?_
      refine r_iload 77 dX11_isFanning_75 rfl rfl ?_
      refine r_ifeqF 80 dX11_isFanning_77 rfl 93 (by decide) (by decide) (by decide) ?_
      refine r_aloadN 81 dX11_isFanning_80 rfl rfl ?_
      refine r_iloadN 82 dX11_isFanning_81 rfl rfl ?_
      refine r_iloadN 83 dX11_isFanning_82 rfl rfl ?_
      refine r_cv2 86 dX11_isFanning_83 rfl gX11_263 rfl (by decide) (sh_50 z _) rfl rfl (Nat.le_of_ble_eq_true rfl) (Nat.le_of_ble_eq_true rfl) rfl ?_
      refine m_isOff hR hn (by omega) hh (fun y83 => ?_) (fun y83 => ?_)
      · refine r_ifneT 93 0 dX11_isFanning_86 (by decide) (by decide) (by decide) ?_
        refine r_iconst 94 dX11_isFanning_93 rfl ?_
        refine r_zret dX11_isFanning_94 rfl (by decide) (k0 ?_)
        unfold fFans
        unfold fRuns
        first
          | (rw [y83]; exact Bool.and_false _)
          | (rw [Bool.and_eq_false_iff]; left; split <;> exact decide_eq_false (by omega))
      · refine r_ifneF 89 dX11_isFanning_86 rfl 93 (by decide) (by decide) (by decide) ?_
        refine r_iconst 90 dX11_isFanning_89 rfl ?_
        refine r_goto 94 dX11_isFanning_90 (by decide) ?_
        refine r_zret dX11_isFanning_94 rfl (by decide) (k1 ?_)
        unfold fFans
        unfold fRuns
        rw [y83, Bool.not_false, Bool.and_true]
        split <;> exact decide_eq_true (by omega)
    · refine r_iloadN 59 dX11_isFanning_58 rfl rfl ?_
      refine r_aloadN 60 dX11_isFanning_59 rfl rfl ?_
      refine r_getq 63 dX11_isFanning_60 rfl fX11_59 (by decide) (sh_50 z _) rfl ?_
      refine r_iloadN 64 dX11_isFanning_63 rfl rfl ?_
      refine r_iald (n := 14) 65 dX11_isFanning_64 (s) rfl rfl (by decide) (sh_51 z _) (by decide) (by omega) (by omega) ?_
      refine r_icgt 72 68 dX11_isFanning_65 rfl (by decide) (by omega) (by omega) (fun h65 => ?_) (fun h65 => ?_)
      · refine r_iconst 73 dX11_isFanning_72 rfl ?_
        refine r_istore4 75 dX11_isFanning_73 rfl rfl (by decide) ?_
        refine r_iload 77 dX11_isFanning_75 rfl rfl ?_
        refine r_ifeqT 93 0 dX11_isFanning_77 (by decide) (by decide) (by decide) ?_
        refine r_iconst 94 dX11_isFanning_93 rfl ?_
        refine r_zret dX11_isFanning_94 rfl (by decide) (k0 ?_)
        unfold fFans
        unfold fRuns
        first
          | (rw [y83]; exact Bool.and_false _)
          | (rw [Bool.and_eq_false_iff]; left; split <;> exact decide_eq_false (by omega))
      · refine r_iconst 69 dX11_isFanning_68 rfl ?_
        refine r_goto 73 dX11_isFanning_69 (by decide) ?_
        refine r_istore4 75 dX11_isFanning_73 rfl rfl (by decide) ?_
        refine r_iload 77 dX11_isFanning_75 rfl rfl ?_
        refine r_ifeqF 80 dX11_isFanning_77 rfl 93 (by decide) (by decide) (by decide) ?_
        refine r_aloadN 81 dX11_isFanning_80 rfl rfl ?_
        refine r_iloadN 82 dX11_isFanning_81 rfl rfl ?_
        refine r_iloadN 83 dX11_isFanning_82 rfl rfl ?_
        refine r_cv2 86 dX11_isFanning_83 rfl gX11_263 rfl (by decide) (sh_50 z _) rfl rfl (Nat.le_of_ble_eq_true rfl) (Nat.le_of_ble_eq_true rfl) rfl ?_
        refine m_isOff hR hn (by omega) hh (fun y83 => ?_) (fun y83 => ?_)
        · refine r_ifneT 93 0 dX11_isFanning_86 (by decide) (by decide) (by decide) ?_
          refine r_iconst 94 dX11_isFanning_93 rfl ?_
          refine r_zret dX11_isFanning_94 rfl (by decide) (k0 ?_)
          unfold fFans
          unfold fRuns
          first
            | (rw [y83]; exact Bool.and_false _)
            | (rw [Bool.and_eq_false_iff]; left; split <;> exact decide_eq_false (by omega))
        · refine r_ifneF 89 dX11_isFanning_86 rfl 93 (by decide) (by decide) (by decide) ?_
          refine r_iconst 90 dX11_isFanning_89 rfl ?_
          refine r_goto 94 dX11_isFanning_90 (by decide) ?_
          refine r_zret dX11_isFanning_94 rfl (by decide) (k1 ?_)
          unfold fFans
          unfold fRuns
          rw [y83, Bool.not_false, Bool.and_true]
          split <;> exact decide_eq_true (by omega)
  · refine r_iloadN 21 dX11_isFanning_20 rfl rfl ?_
    refine r_aloadN 22 dX11_isFanning_21 rfl rfl ?_
    refine r_getq 25 dX11_isFanning_22 rfl fX11_56 (by decide) (sh_50 z _) rfl ?_
    refine r_iloadN 26 dX11_isFanning_25 rfl rfl ?_
    refine r_iald (n := 14) 27 dX11_isFanning_26 (s) rfl rfl (by decide) (sh_51 z _) (by decide) (by omega) (by omega) ?_
    refine r_iclt 44 30 dX11_isFanning_27 rfl (by decide) (by omega) (by omega) (fun h27 => ?_) (fun h27 => ?_)
    · refine r_iconst 45 dX11_isFanning_44 rfl ?_
      refine r_goto 73 dX11_isFanning_45 (by decide) ?_
      refine r_istore4 75 dX11_isFanning_73 rfl rfl (by decide) ?_
      refine r_iload 77 dX11_isFanning_75 rfl rfl ?_
      refine r_ifeqT 93 0 dX11_isFanning_77 (by decide) (by decide) (by decide) ?_
      refine r_iconst 94 dX11_isFanning_93 rfl ?_
      refine r_zret dX11_isFanning_94 rfl (by decide) (k0 ?_)
      unfold fFans
      unfold fRuns
      first
        | (rw [y83]; exact Bool.and_false _)
        | (rw [Bool.and_eq_false_iff]; left; split <;> exact decide_eq_false (by omega))
    · refine r_iloadN 31 dX11_isFanning_30 rfl rfl ?_
      refine r_aloadN 32 dX11_isFanning_31 rfl rfl ?_
      refine r_getq 35 dX11_isFanning_32 rfl fX11_59 (by decide) (sh_50 z _) rfl ?_
      refine r_iloadN 36 dX11_isFanning_35 rfl rfl ?_
      refine r_iald (n := 14) 37 dX11_isFanning_36 (s) rfl rfl (by decide) (sh_51 z _) (by decide) (by omega) (by omega) ?_
      refine r_icgt 44 40 dX11_isFanning_37 rfl (by decide) (by omega) (by omega) (fun h37 => ?_) (fun h37 => ?_)
      · refine r_iconst 45 dX11_isFanning_44 rfl ?_
        refine r_goto 73 dX11_isFanning_45 (by decide) ?_
        refine r_istore4 75 dX11_isFanning_73 rfl rfl (by decide) ?_
        refine r_iload 77 dX11_isFanning_75 rfl rfl ?_
        refine r_ifeqT 93 0 dX11_isFanning_77 (by decide) (by decide) (by decide) ?_
        refine r_iconst 94 dX11_isFanning_93 rfl ?_
        refine r_zret dX11_isFanning_94 rfl (by decide) (k0 ?_)
        unfold fFans
        unfold fRuns
        first
          | (rw [y83]; exact Bool.and_false _)
          | (rw [Bool.and_eq_false_iff]; left; split <;> exact decide_eq_false (by omega))
      · refine r_iconst 41 dX11_isFanning_40 rfl ?_
        refine r_goto 73 dX11_isFanning_41 (by decide) ?_
        refine r_istore4 75 dX11_isFanning_73 rfl rfl (by decide) ?_
        refine r_iload 77 dX11_isFanning_75 rfl rfl ?_
        refine r_ifeqF 80 dX11_isFanning_77 rfl 93 (by decide) (by decide) (by decide) ?_
        refine r_aloadN 81 dX11_isFanning_80 rfl rfl ?_
        refine r_iloadN 82 dX11_isFanning_81 rfl rfl ?_
        refine r_iloadN 83 dX11_isFanning_82 rfl rfl ?_
        refine r_cv2 86 dX11_isFanning_83 rfl gX11_263 rfl (by decide) (sh_50 z _) rfl rfl (Nat.le_of_ble_eq_true rfl) (Nat.le_of_ble_eq_true rfl) rfl ?_
        refine m_isOff hR hn (by omega) hh (fun y83 => ?_) (fun y83 => ?_)
        · refine r_ifneT 93 0 dX11_isFanning_86 (by decide) (by decide) (by decide) ?_
          refine r_iconst 94 dX11_isFanning_93 rfl ?_
          refine r_zret dX11_isFanning_94 rfl (by decide) (k0 ?_)
          unfold fFans
          unfold fRuns
          first
            | (rw [y83]; exact Bool.and_false _)
            | (rw [Bool.and_eq_false_iff]; left; split <;> exact decide_eq_false (by omega))
        · refine r_ifneF 89 dX11_isFanning_86 rfl 93 (by decide) (by decide) (by decide) ?_
          refine r_iconst 90 dX11_isFanning_89 rfl ?_
          refine r_goto 94 dX11_isFanning_90 (by decide) ?_
          refine r_zret dX11_isFanning_94 rfl (by decide) (k1 ?_)
          unfold fFans
          unfold fRuns
          rw [y83, Bool.not_false, Bool.and_true]
          split <;> exact decide_eq_true (by omega)
theorem m_mix_loop {z : xZ} {d : Nat} {Q : tQ} {c : tC} {L : tL} {n s : Nat} {h : Int} (hR : RX c) (hn : c 50 0 2 = (n : Int)) (hs : s < n) (hh : 0 ≤ h ∧ h ≤ 239) (kk1 : fMix (c 50 0) (c 51) s h = true → Q (some (.int (iI 1))) c L) (kk0 : fMix (c 50 0) (c 51) s h = false → Q (some (.int (iI 0))) c L) : ∀ (k i : Nat) , i + k = n → fAny (fun o => fFan (c 51) o && fBeat (c 51 21 s) (c 51 21 o) && fFans (c 50 0) (c 51) o h) i = false → En z (d + 4) MX11_isSounding Q 115 [some (.ref (xad z 50 0)), some (.int (iI (s : Int))), some (.int (iI h)), some (.int (iI (i : Int)))] [] c L := by
  have hg := R0_rng hR
  have hc := R0_scal hR
  have hq := R0_src hR s (by omega)
  have hu : fMix (c 50 0) (c 51) s h = fAny (fun o => fFan (c 51) o && fBeat (c 51 21 s) (c 51 21 o) && fFans (c 50 0) (c 51) o h) n := by unfold fMix; rw [hn, Int.toNat_natCast]
  intro k
  induction k with
  | zero =>
    intro i hi hA
    refine r_iloadN 116 dX11_isSounding_115 rfl rfl ?_
    refine r_aloadN 117 dX11_isSounding_116 rfl rfl ?_
    refine r_geti 120 dX11_isSounding_117 rfl fX11_174 (by decide) (sh_50 z _) rfl ?_
    refine r_icge 162 123 dX11_isSounding_120 rfl (by decide) (by omega) (by omega) (fun h120 => ?_) (fun h120 => ?_)
    · refine r_iconst 163 dX11_isSounding_162 rfl ?_
      refine r_zret dX11_isSounding_163 rfl (by decide) (kk0 ?_)
      rw [hu]
      rw [← show i = n by omega]
      exact hA
    · exfalso; omega
  | succ k ih =>
    intro i hi hA
    refine r_iloadN 116 dX11_isSounding_115 rfl rfl ?_
    refine r_aloadN 117 dX11_isSounding_116 rfl rfl ?_
    refine r_geti 120 dX11_isSounding_117 rfl fX11_174 (by decide) (sh_50 z _) rfl ?_
    refine r_icge 162 123 dX11_isSounding_120 rfl (by decide) (by omega) (by omega) (fun h120 => ?_) (fun h120 => ?_)
    · exfalso; omega
    · refine r_iloadN 124 dX11_isSounding_123 rfl rfl ?_
      refine r_iloadN 125 dX11_isSounding_124 rfl rfl ?_
      refine r_iceq 156 128 dX11_isSounding_125 rfl (by decide) (by omega) (by omega) (fun h125 => ?_) (fun h125 => ?_)
      · refine r_iinc3 159 dX11_isSounding_156 rfl rfl (by decide) ?_
        refine r_goto 115 dX11_isSounding_159 (by decide) ?_
        refine ih (i + 1) (by omega) ?_
        rw [fAny, hA, Bool.false_or]
        first
          | (rw [y151]; exact Bool.and_false _)
          | (rw [y142, Bool.and_false]; rfl)
          | (rw [y133]; rfl)
          | (rw [show fBeat (c 51 21 s) (c 51 21 i) = false from decide_eq_false (by rw [show s = i by omega]; omega), Bool.and_false]; rfl)
      · refine r_aloadN 129 dX11_isSounding_128 rfl rfl ?_
        refine r_iloadN 130 dX11_isSounding_129 rfl rfl ?_
        refine r_cv1 133 dX11_isSounding_130 rfl gX11_273 rfl (by decide) (sh_50 z _) rfl rfl (Nat.le_of_ble_eq_true rfl) (Nat.le_of_ble_eq_true rfl) rfl ?_
        refine m_isFan hR hn (by omega) (fun y133 => ?_) (fun y133 => ?_)
        · refine r_ifeqF 136 dX11_isSounding_133 rfl 156 (by decide) (by decide) (by decide) ?_
          refine r_aloadN 137 dX11_isSounding_136 rfl rfl ?_
          refine r_iloadN 138 dX11_isSounding_137 rfl rfl ?_
          refine r_iloadN 139 dX11_isSounding_138 rfl rfl ?_
          refine r_cv2 142 dX11_isSounding_139 rfl gX11_276 rfl (by decide) (sh_50 z _) rfl rfl (Nat.le_of_ble_eq_true rfl) (Nat.le_of_ble_eq_true rfl) rfl ?_
          refine m_beat hR hn (by omega) (by omega) (fun y142 => ?_) (fun y142 => ?_)
          · refine r_ifeqF 145 dX11_isSounding_142 rfl 156 (by decide) (by decide) (by decide) ?_
            refine r_aloadN 146 dX11_isSounding_145 rfl rfl ?_
            refine r_iloadN 147 dX11_isSounding_146 rfl rfl ?_
            refine r_iloadN 148 dX11_isSounding_147 rfl rfl ?_
            refine r_cv2 151 dX11_isSounding_148 rfl gX11_270 rfl (by decide) (sh_50 z _) rfl rfl (Nat.le_of_ble_eq_true rfl) (Nat.le_of_ble_eq_true rfl) rfl ?_
            refine m_isFanning hR hn (by omega) hh (fun y151 => ?_) (fun y151 => ?_)
            · refine r_ifeqF 154 dX11_isSounding_151 rfl 156 (by decide) (by decide) (by decide) ?_
              refine r_iconst 155 dX11_isSounding_154 rfl ?_
              refine r_zret dX11_isSounding_155 rfl (by decide) (kk1 ?_)
              rw [hu]
              exact fAny_iff.mpr ⟨i, by omega, by rw [y133, y142, y151]; rfl⟩
            · refine r_ifeqT 156 0 dX11_isSounding_151 (by decide) (by decide) (by decide) ?_
              refine r_iinc3 159 dX11_isSounding_156 rfl rfl (by decide) ?_
              refine r_goto 115 dX11_isSounding_159 (by decide) ?_
              refine ih (i + 1) (by omega) ?_
              rw [fAny, hA, Bool.false_or]
              first
                | (rw [y151]; exact Bool.and_false _)
                | (rw [y142, Bool.and_false]; rfl)
                | (rw [y133]; rfl)
                | (rw [show fBeat (c 51 21 s) (c 51 21 i) = false from decide_eq_false (by rw [show s = i by omega]; omega), Bool.and_false]; rfl)
          · refine r_ifeqT 156 0 dX11_isSounding_142 (by decide) (by decide) (by decide) ?_
            refine r_iinc3 159 dX11_isSounding_156 rfl rfl (by decide) ?_
            refine r_goto 115 dX11_isSounding_159 (by decide) ?_
            refine ih (i + 1) (by omega) ?_
            rw [fAny, hA, Bool.false_or]
            first
              | (rw [y151]; exact Bool.and_false _)
              | (rw [y142, Bool.and_false]; rfl)
              | (rw [y133]; rfl)
              | (rw [show fBeat (c 51 21 s) (c 51 21 i) = false from decide_eq_false (by rw [show s = i by omega]; omega), Bool.and_false]; rfl)
        · refine r_ifeqT 156 0 dX11_isSounding_133 (by decide) (by decide) (by decide) ?_
          refine r_iinc3 159 dX11_isSounding_156 rfl rfl (by decide) ?_
          refine r_goto 115 dX11_isSounding_159 (by decide) ?_
          refine ih (i + 1) (by omega) ?_
          rw [fAny, hA, Bool.false_or]
          first
            | (rw [y151]; exact Bool.and_false _)
            | (rw [y142, Bool.and_false]; rfl)
            | (rw [y133]; rfl)
            | (rw [show fBeat (c 51 21 s) (c 51 21 i) = false from decide_eq_false (by rw [show s = i by omega]; omega), Bool.and_false]; rfl)
theorem m_isSounding {z : xZ} {d : Nat} {Q : tQ} {c : tC} {L : tL} {n s : Nat} {h : Int} (hR : RX c) (hn : c 50 0 2 = (n : Int)) (hs : s < n) (hh : 0 ≤ h ∧ h ≤ 239) (k1 : fSnd (c 50 0) (c 51) s h = true → Q (some (.int (iI 1))) c L) (k0 : fSnd (c 50 0) (c 51) s h = false → Q (some (.int (iI 0))) c L) : En z (d + 4) MX11_isSounding Q 0 [some (.ref (xad z 50 0)), some (.int (iI (s : Int))), some (.int (iI h)), none] [] c L := by
  have hg := R0_rng hR
  have hc := R0_scal hR
  have hq := R0_src hR s (by omega)
  have hlw := R0_law hR
  have hst := R0_storm hR (h / 24).toNat (by omega)
  refine r_aloadN 1 dX11_isSounding_0 rfl rfl ?_
  refine r_iloadN 2 dX11_isSounding_1 rfl rfl ?_
  refine r_iloadN 3 dX11_isSounding_2 rfl rfl ?_
  refine r_cv2 6 dX11_isSounding_3 rfl gX11_263 rfl (by decide) (sh_50 z _) rfl rfl (Nat.le_of_ble_eq_true rfl) (Nat.le_of_ble_eq_true rfl) rfl ?_
  refine m_isOff hR hn (by omega) hh (fun y3 => ?_) (fun y3 => ?_)
  · refine r_ifeqF 9 dX11_isSounding_6 rfl 11 (by decide) (by decide) (by decide) ?_
    refine r_iconst 10 dX11_isSounding_9 rfl ?_
    refine r_zret dX11_isSounding_10 rfl (by decide) (k0 ?_)
    unfold fSnd
    rw [y3]
    rfl
  · refine r_ifeqT 11 0 dX11_isSounding_6 (by decide) (by decide) (by decide) ?_
    refine r_aloadN 12 dX11_isSounding_11 rfl rfl ?_
    refine r_getq 15 dX11_isSounding_12 rfl fX11_44 (by decide) (sh_50 z _) rfl ?_
    refine r_iloadN 16 dX11_isSounding_15 rfl rfl ?_
    refine r_iald (n := 14) 17 dX11_isSounding_16 (s) rfl rfl (by decide) (sh_51 z _) (by decide) (by omega) (by omega) ?_
    rcases (show c 51 19 s = 1 ∨ c 51 19 s = 2 ∨ c 51 19 s = 3 ∨ c 51 19 s = 4 ∨ c 51 19 s = 5 ∨ c 51 19 s = 6 ∨ c 51 19 s = 7 by omega) with e19 | e19 | e19 | e19 | e19 | e19 | e19
    · refine r_tin (43) 60 dX11_isSounding_17 (by omega) (by omega) (by omega) (by rw [e19]; rfl) (by decide) ?_
      refine r_aloadN 61 dX11_isSounding_60 rfl rfl ?_
      refine r_iloadN 62 dX11_isSounding_61 rfl rfl ?_
      refine r_iloadN 63 dX11_isSounding_62 rfl rfl ?_
      refine r_cv2 66 dX11_isSounding_63 rfl gX11_270 rfl (by decide) (sh_50 z _) rfl rfl (Nat.le_of_ble_eq_true rfl) (Nat.le_of_ble_eq_true rfl) rfl ?_
      refine m_isFanning hR hn (by omega) hh (fun y63 => ?_) (fun y63 => ?_)
      · refine r_zret dX11_isSounding_66 rfl (by decide) (k1 ?_)
        unfold fSnd
        rw [y3, if_pos e19, y63]
        rfl
      · refine r_zret dX11_isSounding_66 rfl (by decide) (k0 ?_)
        unfold fSnd
        rw [y3, if_pos e19, y63]
        rfl
    · refine r_tin (147) 164 dX11_isSounding_17 (by omega) (by omega) (by omega) (by rw [e19]; rfl) (by decide) ?_
      refine r_iconst 165 dX11_isSounding_164 rfl ?_
      refine r_zret dX11_isSounding_165 rfl (by decide) (k1 ?_)
      unfold fSnd
      rw [y3]
      simp [e19]
    · refine r_tin (147) 164 dX11_isSounding_17 (by omega) (by omega) (by omega) (by rw [e19]; rfl) (by decide) ?_
      refine r_iconst 165 dX11_isSounding_164 rfl ?_
      refine r_zret dX11_isSounding_165 rfl (by decide) (k1 ?_)
      unfold fSnd
      rw [y3]
      simp [e19]
    · refine r_tin (147) 164 dX11_isSounding_17 (by omega) (by omega) (by omega) (by rw [e19]; rfl) (by decide) ?_
      refine r_iconst 165 dX11_isSounding_164 rfl ?_
      refine r_zret dX11_isSounding_165 rfl (by decide) (k1 ?_)
      unfold fSnd
      rw [y3]
      simp [e19]
    · refine r_tin (50) 67 dX11_isSounding_17 (by omega) (by omega) (by omega) (by rw [e19]; rfl) (by decide) ?_
      refine r_iloadN 68 dX11_isSounding_67 rfl rfl ?_
      refine r_aloadN 69 dX11_isSounding_68 rfl rfl ?_
      refine r_getq 72 dX11_isSounding_69 rfl fX11_20 (by decide) (sh_50 z _) rfl ?_
      refine r_iconst 73 dX11_isSounding_72 rfl ?_
      refine r_iald (n := 6) 74 dX11_isSounding_73 (5) rfl rfl (by decide) (sh_51 z _) (by decide) (by omega) (by omega) ?_
      refine r_iclt 81 77 dX11_isSounding_74 rfl (by decide) (by omega) (by omega) (fun h74 => ?_) (fun h74 => ?_)
      · refine r_iconst 82 dX11_isSounding_81 rfl ?_
        refine r_zret dX11_isSounding_82 rfl (by decide) (k0 ?_)
        unfold fSnd
        rw [y3]
        simp [e19]
        omega
      · refine r_iconst 78 dX11_isSounding_77 rfl ?_
        refine r_goto 82 dX11_isSounding_78 (by decide) ?_
        refine r_zret dX11_isSounding_82 rfl (by decide) (k1 ?_)
        unfold fSnd
        rw [y3]
        simp [e19]
        omega
    · refine r_tin (66) 83 dX11_isSounding_17 (by omega) (by omega) (by omega) (by rw [e19]; rfl) (by decide) ?_
      refine r_aloadN 84 dX11_isSounding_83 rfl rfl ?_
      refine r_getq 87 dX11_isSounding_84 rfl fX11_26 (by decide) (sh_50 z _) rfl ?_
      refine r_iloadN 88 dX11_isSounding_87 rfl rfl ?_
      refine r_bipush 90 dX11_isSounding_88 rfl (by decide) ?_
      refine r_idiv 91 dX11_isSounding_90 rfl (by omega) (by omega) ?_
      refine r_iald (n := 10) 92 dX11_isSounding_91 _ rfl rfl (by decide) (sh_51 z _) (by decide) (by omega) (by omega) ?_
      refine r_iconst 93 dX11_isSounding_92 rfl ?_
      refine r_icne 100 96 dX11_isSounding_93 rfl (by decide) (by omega) (by omega) (fun h93 => ?_) (fun h93 => ?_)
      · refine r_iconst 101 dX11_isSounding_100 rfl ?_
        refine r_zret dX11_isSounding_101 rfl (by decide) (k0 ?_)
        unfold fSnd
        rw [y3]
        simp [e19]
        omega
      · refine r_iconst 97 dX11_isSounding_96 rfl ?_
        refine r_goto 101 dX11_isSounding_97 (by decide) ?_
        refine r_zret dX11_isSounding_101 rfl (by decide) (k1 ?_)
        unfold fSnd
        rw [y3]
        simp [e19]
        omega
    · refine r_tin (85) 102 dX11_isSounding_17 (by omega) (by omega) (by omega) (by rw [e19]; rfl) (by decide) ?_
      refine r_aloadN 103 dX11_isSounding_102 rfl rfl ?_
      refine r_iloadN 104 dX11_isSounding_103 rfl rfl ?_
      refine r_iloadN 105 dX11_isSounding_104 rfl rfl ?_
      refine r_cv2 108 dX11_isSounding_105 rfl gX11_270 rfl (by decide) (sh_50 z _) rfl rfl (Nat.le_of_ble_eq_true rfl) (Nat.le_of_ble_eq_true rfl) rfl ?_
      refine m_isFanning hR hn (by omega) hh (fun y105 => ?_) (fun y105 => ?_)
      · refine r_ifneT 113 0 dX11_isSounding_108 (by decide) (by decide) (by decide) ?_
        refine r_iconst 114 dX11_isSounding_113 rfl ?_
        refine r_istore3 115 dX11_isSounding_114 rfl rfl (by decide) ?_
        exact m_mix_loop hR hn hs hh (fun q => k1 (by unfold fSnd; rw [y3]; simp [e19, y105, q])) (fun q => k0 (by unfold fSnd; rw [y3]; simp [e19, q])) n 0 (by omega) rfl
      · refine r_ifneF 111 dX11_isSounding_108 rfl 113 (by decide) (by decide) (by decide) ?_
        refine r_iconst 112 dX11_isSounding_111 rfl ?_
        refine r_zret dX11_isSounding_112 rfl (by decide) (k0 ?_)
        unfold fSnd
        rw [y3]
        simp [e19, y105]
theorem m_level {z : xZ} {d : Nat} {Q : tQ} {c : tC} {L : tL} {n s sp : Nat} (hR : RX c) (hn : c 50 0 2 = (n : Int)) (hs : s < n) (hsp : sp < 64) (k : ∀ r, r = fLvl (c 51) s (sp : Int) → Q (some (.int (iI r))) c L) : En z (d + 2) MX11_level Q 0 [some (.ref (xad z 50 0)), some (.int (iI (s : Int))), some (.int (iI (sp : Int))), none, none, none] [] c L := by
  have hg := R0_rng hR
  have hc := R0_scal hR
  have hq := R0_src hR s (by omega)
  have hlw := R0_law hR
  have hsz := R0_size hR sp hsp
  have hP := far_bd (A := c 51) (s := s) (sp := sp) (loss := c 51 11 0) (by omega) hsp (by omega) rfl
  refine r_aloadN 1 dX11_level_0 rfl rfl ?_
  refine r_iloadN 2 dX11_level_1 rfl rfl ?_
  refine r_cv1 5 dX11_level_2 rfl gX11_279 rfl (by decide) (sh_50 z _) rfl rfl (Nat.le_of_ble_eq_true rfl) (Nat.le_of_ble_eq_true rfl) rfl ?_
  refine m_isTalk hR hn (by omega) (fun y2 => ?_) (fun y2 => ?_)
  · refine r_ifeqF 8 dX11_level_5 rfl 15 (by decide) (by decide) (by decide) ?_
    refine r_aloadN 9 dX11_level_8 rfl rfl ?_
    refine r_getq 12 dX11_level_9 rfl fX11_53 (by decide) (sh_50 z _) rfl ?_
    refine r_iloadN 13 dX11_level_12 rfl rfl ?_
    refine r_iald (n := 14) 14 dX11_level_13 (s) rfl rfl (by decide) (sh_51 z _) (by decide) (by omega) (by omega) ?_
    refine r_ret dX11_level_14 rfl (k _ ?_)
    unfold fLvl
    rw [if_pos y2]
  · refine r_ifeqT 15 0 dX11_level_5 (by decide) (by decide) (by decide) ?_
    refine r_aloadN 16 dX11_level_15 rfl rfl ?_
    refine r_aloadN 17 dX11_level_16 rfl rfl ?_
    refine r_getq 20 dX11_level_17 rfl fX11_47 (by decide) (sh_50 z _) rfl ?_
    refine r_iloadN 21 dX11_level_20 rfl rfl ?_
    refine r_iald (n := 14) 22 dX11_level_21 (s) rfl rfl (by decide) (sh_51 z _) (by decide) (by omega) (by omega) ?_
    refine r_bipush 24 dX11_level_22 rfl (by decide) ?_
    refine r_idiv 25 dX11_level_24 rfl (by omega) (by omega) ?_
    refine r_iloadN 26 dX11_level_25 rfl rfl ?_
    refine r_bipush 28 dX11_level_26 rfl (by decide) ?_
    refine r_idiv 29 dX11_level_28 rfl (by omega) (by omega) ?_
    refine r_cv2 32 dX11_level_29 rfl gX11_266 rfl (by decide) (sh_50 z _) rfl rfl (Nat.le_of_ble_eq_true rfl) (Nat.le_of_ble_eq_true rfl) rfl ?_
    refine m_apart (by omega) (by omega) (fun r29 e29 => ?_)
    refine r_aloadN 33 dX11_level_32 rfl rfl ?_
    refine r_aloadN 34 dX11_level_33 rfl rfl ?_
    refine r_getq 37 dX11_level_34 rfl fX11_47 (by decide) (sh_50 z _) rfl ?_
    refine r_iloadN 38 dX11_level_37 rfl rfl ?_
    refine r_iald (n := 14) 39 dX11_level_38 (s) rfl rfl (by decide) (sh_51 z _) (by decide) (by omega) (by omega) ?_
    refine r_bipush 41 dX11_level_39 rfl (by decide) ?_
    refine r_irem 42 dX11_level_41 rfl (by omega) (by omega) ?_
    refine r_iloadN 43 dX11_level_42 rfl rfl ?_
    refine r_bipush 45 dX11_level_43 rfl (by decide) ?_
    refine r_irem 46 dX11_level_45 rfl (by omega) (by omega) ?_
    refine r_cv2 49 dX11_level_46 rfl gX11_266 rfl (by decide) (sh_50 z _) rfl rfl (Nat.le_of_ble_eq_true rfl) (Nat.le_of_ble_eq_true rfl) rfl ?_
    refine m_apart (by omega) (by omega) (fun r46 e46 => ?_)
    refine r_iadd 50 dX11_level_49 rfl ?_
    rw [show r29 + r46 = fFar (c 51 20 s) (sp : Int) by rw [e29, e46]; rfl]
    refine r_istore3 51 dX11_level_50 rfl rfl (by decide) ?_
    refine r_aloadN 52 dX11_level_51 rfl rfl ?_
    refine r_getq 55 dX11_level_52 rfl fX11_53 (by decide) (sh_50 z _) rfl ?_
    refine r_iloadN 56 dX11_level_55 rfl rfl ?_
    refine r_iald (n := 14) 57 dX11_level_56 (s) rfl rfl (by decide) (sh_51 z _) (by decide) (by omega) (by omega) ?_
    refine r_aloadN 58 dX11_level_57 rfl rfl ?_
    refine r_getq 61 dX11_level_58 rfl fX11_20 (by decide) (sh_50 z _) rfl ?_
    refine r_iconst 62 dX11_level_61 rfl ?_
    refine r_iald (n := 6) 63 dX11_level_62 (0) rfl rfl (by decide) (sh_51 z _) (by decide) (by omega) (by omega) ?_
    refine r_iloadN 64 dX11_level_63 rfl rfl ?_
    refine r_imul 65 dX11_level_64 rfl ?_
    refine r_isub 66 dX11_level_65 rfl ?_
    refine r_istore4 68 dX11_level_66 rfl rfl (by decide) ?_
    refine r_aloadN 69 dX11_level_68 rfl rfl ?_
    refine r_getq 72 dX11_level_69 rfl fX11_44 (by decide) (sh_50 z _) rfl ?_
    refine r_iloadN 73 dX11_level_72 rfl rfl ?_
    refine r_iald (n := 14) 74 dX11_level_73 (s) rfl rfl (by decide) (sh_51 z _) (by decide) (by omega) (by omega) ?_
    refine r_iconst 75 dX11_level_74 rfl ?_
    refine r_icne 97 78 dX11_level_75 rfl (by decide) (by omega) (by omega) (fun h75 => ?_) (fun h75 => ?_)
    · refine r_aloadN 98 dX11_level_97 rfl rfl ?_
      refine r_getq 101 dX11_level_98 rfl fX11_44 (by decide) (sh_50 z _) rfl ?_
      refine r_iloadN 102 dX11_level_101 rfl rfl ?_
      refine r_iald (n := 14) 103 dX11_level_102 (s) rfl rfl (by decide) (sh_51 z _) (by decide) (by omega) (by omega) ?_
      refine r_bipush 105 dX11_level_103 rfl (by decide) ?_
      refine r_icne 123 108 dX11_level_105 rfl (by decide) (by omega) (by omega) (fun h105 => ?_) (fun h105 => ?_)
      · refine r_iload 125 dX11_level_123 rfl rfl ?_
        refine r_ifgt 130 128 dX11_level_125 rfl (by decide) (by omega) (fun h125 => ?_) (fun h125 => ?_)
        · refine r_aloadN 131 dX11_level_130 rfl rfl ?_
          refine r_getq 134 dX11_level_131 rfl fX11_23 (by decide) (sh_50 z _) rfl ?_
          refine r_iloadN 135 dX11_level_134 rfl rfl ?_
          refine r_iald (n := 64) 136 dX11_level_135 (sp) rfl rfl (by decide) (sh_51 z _) (by decide) (by omega) (by omega) ?_
          refine r_ifle 159 139 dX11_level_136 rfl (by decide) (by omega) (fun h136 => ?_) (fun h136 => ?_)
          · refine r_iconst 160 dX11_level_159 rfl ?_
            refine r_istore5 162 dX11_level_160 rfl rfl (by decide) ?_
            refine r_aloadN 163 dX11_level_162 rfl rfl ?_
            refine r_getq 166 dX11_level_163 rfl fX11_44 (by decide) (sh_50 z _) rfl ?_
            refine r_iloadN 167 dX11_level_166 rfl rfl ?_
            refine r_iald (n := 14) 168 dX11_level_167 (s) rfl rfl (by decide) (sh_51 z _) (by decide) (by omega) (by omega) ?_
            refine r_iconst 169 dX11_level_168 rfl ?_
            refine r_icne 183 172 dX11_level_169 rfl (by decide) (by omega) (by omega) (fun h169 => ?_) (fun h169 => ?_)
            · refine r_aloadN 184 dX11_level_183 rfl rfl ?_
              refine r_getq 187 dX11_level_184 rfl fX11_44 (by decide) (sh_50 z _) rfl ?_
              refine r_iloadN 188 dX11_level_187 rfl rfl ?_
              refine r_iald (n := 14) 189 dX11_level_188 (s) rfl rfl (by decide) (sh_51 z _) (by decide) (by omega) (by omega) ?_
              refine r_bipush 191 dX11_level_189 rfl (by decide) ?_
              refine r_icne 197 194 dX11_level_191 rfl (by decide) (by omega) (by omega) (fun h191 => ?_) (fun h191 => ?_)
              · refine r_iload 199 dX11_level_197 rfl rfl ?_
                refine r_ifeqT 214 0 dX11_level_199 (by decide) (by decide) (by decide) ?_
                refine r_iload 216 dX11_level_214 rfl rfl ?_
                have hS : fStd (c 51) s (sp : Int) = false := by
                  unfold fStd
                  rw [Int.toNat_natCast]
                  first
                    | (rw [decide_eq_false (show ¬ 0 < c 51 12 sp by omega)]; rfl)
                    | (rw [decide_eq_false (show ¬ c 51 21 s % c 51 12 sp = 0 by omega), Bool.and_false])
                refine r_ret dX11_level_216 rfl (k _ ?_)
                unfold fLvl
                rw [y2, if_neg (by decide)]
                rw [if_neg (by unfold fRaw; (repeat' split) <;> omega), hS]
                unfold fRaw
                simp only [Bool.false_eq_true, if_false, if_true, and_true, and_false]
                (repeat' split) <;> omega
              · refine r_iinc4 197 dX11_level_194 rfl rfl (by decide) ?_
                refine r_iload 199 dX11_level_197 rfl rfl ?_
                refine r_ifeqT 214 0 dX11_level_199 (by decide) (by decide) (by decide) ?_
                refine r_iload 216 dX11_level_214 rfl rfl ?_
                have hS : fStd (c 51) s (sp : Int) = false := by
                  unfold fStd
                  rw [Int.toNat_natCast]
                  first
                    | (rw [decide_eq_false (show ¬ 0 < c 51 12 sp by omega)]; rfl)
                    | (rw [decide_eq_false (show ¬ c 51 21 s % c 51 12 sp = 0 by omega), Bool.and_false])
                refine r_ret dX11_level_216 rfl (k _ ?_)
                unfold fLvl
                rw [y2, if_neg (by decide)]
                rw [if_neg (by unfold fRaw; (repeat' split) <;> omega), hS]
                unfold fRaw
                simp only [Bool.false_eq_true, if_false, if_true, and_true, and_false]
                (repeat' split) <;> omega
            · refine r_iload 174 dX11_level_172 rfl rfl ?_
              refine r_ifeqT 183 0 dX11_level_174 (by decide) (by decide) (by decide) ?_
              refine r_aloadN 184 dX11_level_183 rfl rfl ?_
              refine r_getq 187 dX11_level_184 rfl fX11_44 (by decide) (sh_50 z _) rfl ?_
              refine r_iloadN 188 dX11_level_187 rfl rfl ?_
              refine r_iald (n := 14) 189 dX11_level_188 (s) rfl rfl (by decide) (sh_51 z _) (by decide) (by omega) (by omega) ?_
              refine r_bipush 191 dX11_level_189 rfl (by decide) ?_
              refine r_icne 197 194 dX11_level_191 rfl (by decide) (by omega) (by omega) (fun h191 => ?_) (fun h191 => ?_)
              · refine r_iload 199 dX11_level_197 rfl rfl ?_
                refine r_ifeqT 214 0 dX11_level_199 (by decide) (by decide) (by decide) ?_
                refine r_iload 216 dX11_level_214 rfl rfl ?_
                have hS : fStd (c 51) s (sp : Int) = false := by
                  unfold fStd
                  rw [Int.toNat_natCast]
                  first
                    | (rw [decide_eq_false (show ¬ 0 < c 51 12 sp by omega)]; rfl)
                    | (rw [decide_eq_false (show ¬ c 51 21 s % c 51 12 sp = 0 by omega), Bool.and_false])
                refine r_ret dX11_level_216 rfl (k _ ?_)
                unfold fLvl
                rw [y2, if_neg (by decide)]
                rw [if_neg (by unfold fRaw; (repeat' split) <;> omega), hS]
                unfold fRaw
                simp only [Bool.false_eq_true, if_false, if_true, and_true, and_false]
                (repeat' split) <;> omega
              · refine r_iinc4 197 dX11_level_194 rfl rfl (by decide) ?_
                refine r_iload 199 dX11_level_197 rfl rfl ?_
                refine r_ifeqT 214 0 dX11_level_199 (by decide) (by decide) (by decide) ?_
                refine r_iload 216 dX11_level_214 rfl rfl ?_
                have hS : fStd (c 51) s (sp : Int) = false := by
                  unfold fStd
                  rw [Int.toNat_natCast]
                  first
                    | (rw [decide_eq_false (show ¬ 0 < c 51 12 sp by omega)]; rfl)
                    | (rw [decide_eq_false (show ¬ c 51 21 s % c 51 12 sp = 0 by omega), Bool.and_false])
                refine r_ret dX11_level_216 rfl (k _ ?_)
                unfold fLvl
                rw [y2, if_neg (by decide)]
                rw [if_neg (by unfold fRaw; (repeat' split) <;> omega), hS]
                unfold fRaw
                simp only [Bool.false_eq_true, if_false, if_true, and_true, and_false]
                (repeat' split) <;> omega
          · refine r_aloadN 140 dX11_level_139 rfl rfl ?_
            refine r_getq 143 dX11_level_140 rfl fX11_50 (by decide) (sh_50 z _) rfl ?_
            refine r_iloadN 144 dX11_level_143 rfl rfl ?_
            refine r_iald (n := 14) 145 dX11_level_144 (s) rfl rfl (by decide) (sh_51 z _) (by decide) (by omega) (by omega) ?_
            refine r_aloadN 146 dX11_level_145 rfl rfl ?_
            refine r_getq 149 dX11_level_146 rfl fX11_23 (by decide) (sh_50 z _) rfl ?_
            refine r_iloadN 150 dX11_level_149 rfl rfl ?_
            refine r_iald (n := 64) 151 dX11_level_150 (sp) rfl rfl (by decide) (sh_51 z _) (by decide) (by omega) (by omega) ?_
            have hm1 := Int.emod_nonneg (c 51 21 s) (show c 51 12 sp ≠ 0 by omega)
            have hm2 := Int.emod_lt_of_pos (c 51 21 s) (show 0 < c 51 12 sp by omega)
            refine r_irem 152 dX11_level_151 rfl (by omega) (by omega) ?_
            refine r_ifne 159 155 dX11_level_152 rfl (by decide) (by omega) (fun h152 => ?_) (fun h152 => ?_)
            · refine r_iconst 160 dX11_level_159 rfl ?_
              refine r_istore5 162 dX11_level_160 rfl rfl (by decide) ?_
              refine r_aloadN 163 dX11_level_162 rfl rfl ?_
              refine r_getq 166 dX11_level_163 rfl fX11_44 (by decide) (sh_50 z _) rfl ?_
              refine r_iloadN 167 dX11_level_166 rfl rfl ?_
              refine r_iald (n := 14) 168 dX11_level_167 (s) rfl rfl (by decide) (sh_51 z _) (by decide) (by omega) (by omega) ?_
              refine r_iconst 169 dX11_level_168 rfl ?_
              refine r_icne 183 172 dX11_level_169 rfl (by decide) (by omega) (by omega) (fun h169 => ?_) (fun h169 => ?_)
              · refine r_aloadN 184 dX11_level_183 rfl rfl ?_
                refine r_getq 187 dX11_level_184 rfl fX11_44 (by decide) (sh_50 z _) rfl ?_
                refine r_iloadN 188 dX11_level_187 rfl rfl ?_
                refine r_iald (n := 14) 189 dX11_level_188 (s) rfl rfl (by decide) (sh_51 z _) (by decide) (by omega) (by omega) ?_
                refine r_bipush 191 dX11_level_189 rfl (by decide) ?_
                refine r_icne 197 194 dX11_level_191 rfl (by decide) (by omega) (by omega) (fun h191 => ?_) (fun h191 => ?_)
                · refine r_iload 199 dX11_level_197 rfl rfl ?_
                  refine r_ifeqT 214 0 dX11_level_199 (by decide) (by decide) (by decide) ?_
                  refine r_iload 216 dX11_level_214 rfl rfl ?_
                  have hS : fStd (c 51) s (sp : Int) = false := by
                    unfold fStd
                    rw [Int.toNat_natCast]
                    first
                      | (rw [decide_eq_false (show ¬ 0 < c 51 12 sp by omega)]; rfl)
                      | (rw [decide_eq_false (show ¬ c 51 21 s % c 51 12 sp = 0 by omega), Bool.and_false])
                  refine r_ret dX11_level_216 rfl (k _ ?_)
                  unfold fLvl
                  rw [y2, if_neg (by decide)]
                  rw [if_neg (by unfold fRaw; (repeat' split) <;> omega), hS]
                  unfold fRaw
                  simp only [Bool.false_eq_true, if_false, if_true, and_true, and_false]
                  (repeat' split) <;> omega
                · refine r_iinc4 197 dX11_level_194 rfl rfl (by decide) ?_
                  refine r_iload 199 dX11_level_197 rfl rfl ?_
                  refine r_ifeqT 214 0 dX11_level_199 (by decide) (by decide) (by decide) ?_
                  refine r_iload 216 dX11_level_214 rfl rfl ?_
                  have hS : fStd (c 51) s (sp : Int) = false := by
                    unfold fStd
                    rw [Int.toNat_natCast]
                    first
                      | (rw [decide_eq_false (show ¬ 0 < c 51 12 sp by omega)]; rfl)
                      | (rw [decide_eq_false (show ¬ c 51 21 s % c 51 12 sp = 0 by omega), Bool.and_false])
                  refine r_ret dX11_level_216 rfl (k _ ?_)
                  unfold fLvl
                  rw [y2, if_neg (by decide)]
                  rw [if_neg (by unfold fRaw; (repeat' split) <;> omega), hS]
                  unfold fRaw
                  simp only [Bool.false_eq_true, if_false, if_true, and_true, and_false]
                  (repeat' split) <;> omega
              · refine r_iload 174 dX11_level_172 rfl rfl ?_
                refine r_ifeqT 183 0 dX11_level_174 (by decide) (by decide) (by decide) ?_
                refine r_aloadN 184 dX11_level_183 rfl rfl ?_
                refine r_getq 187 dX11_level_184 rfl fX11_44 (by decide) (sh_50 z _) rfl ?_
                refine r_iloadN 188 dX11_level_187 rfl rfl ?_
                refine r_iald (n := 14) 189 dX11_level_188 (s) rfl rfl (by decide) (sh_51 z _) (by decide) (by omega) (by omega) ?_
                refine r_bipush 191 dX11_level_189 rfl (by decide) ?_
                refine r_icne 197 194 dX11_level_191 rfl (by decide) (by omega) (by omega) (fun h191 => ?_) (fun h191 => ?_)
                · refine r_iload 199 dX11_level_197 rfl rfl ?_
                  refine r_ifeqT 214 0 dX11_level_199 (by decide) (by decide) (by decide) ?_
                  refine r_iload 216 dX11_level_214 rfl rfl ?_
                  have hS : fStd (c 51) s (sp : Int) = false := by
                    unfold fStd
                    rw [Int.toNat_natCast]
                    first
                      | (rw [decide_eq_false (show ¬ 0 < c 51 12 sp by omega)]; rfl)
                      | (rw [decide_eq_false (show ¬ c 51 21 s % c 51 12 sp = 0 by omega), Bool.and_false])
                  refine r_ret dX11_level_216 rfl (k _ ?_)
                  unfold fLvl
                  rw [y2, if_neg (by decide)]
                  rw [if_neg (by unfold fRaw; (repeat' split) <;> omega), hS]
                  unfold fRaw
                  simp only [Bool.false_eq_true, if_false, if_true, and_true, and_false]
                  (repeat' split) <;> omega
                · refine r_iinc4 197 dX11_level_194 rfl rfl (by decide) ?_
                  refine r_iload 199 dX11_level_197 rfl rfl ?_
                  refine r_ifeqT 214 0 dX11_level_199 (by decide) (by decide) (by decide) ?_
                  refine r_iload 216 dX11_level_214 rfl rfl ?_
                  have hS : fStd (c 51) s (sp : Int) = false := by
                    unfold fStd
                    rw [Int.toNat_natCast]
                    first
                      | (rw [decide_eq_false (show ¬ 0 < c 51 12 sp by omega)]; rfl)
                      | (rw [decide_eq_false (show ¬ c 51 21 s % c 51 12 sp = 0 by omega), Bool.and_false])
                  refine r_ret dX11_level_216 rfl (k _ ?_)
                  unfold fLvl
                  rw [y2, if_neg (by decide)]
                  rw [if_neg (by unfold fRaw; (repeat' split) <;> omega), hS]
                  unfold fRaw
                  simp only [Bool.false_eq_true, if_false, if_true, and_true, and_false]
                  (repeat' split) <;> omega
            · refine r_iconst 156 dX11_level_155 rfl ?_
              refine r_goto 160 dX11_level_156 (by decide) ?_
              refine r_istore5 162 dX11_level_160 rfl rfl (by decide) ?_
              refine r_aloadN 163 dX11_level_162 rfl rfl ?_
              refine r_getq 166 dX11_level_163 rfl fX11_44 (by decide) (sh_50 z _) rfl ?_
              refine r_iloadN 167 dX11_level_166 rfl rfl ?_
              refine r_iald (n := 14) 168 dX11_level_167 (s) rfl rfl (by decide) (sh_51 z _) (by decide) (by omega) (by omega) ?_
              refine r_iconst 169 dX11_level_168 rfl ?_
              refine r_icne 183 172 dX11_level_169 rfl (by decide) (by omega) (by omega) (fun h169 => ?_) (fun h169 => ?_)
              · refine r_aloadN 184 dX11_level_183 rfl rfl ?_
                refine r_getq 187 dX11_level_184 rfl fX11_44 (by decide) (sh_50 z _) rfl ?_
                refine r_iloadN 188 dX11_level_187 rfl rfl ?_
                refine r_iald (n := 14) 189 dX11_level_188 (s) rfl rfl (by decide) (sh_51 z _) (by decide) (by omega) (by omega) ?_
                refine r_bipush 191 dX11_level_189 rfl (by decide) ?_
                refine r_icne 197 194 dX11_level_191 rfl (by decide) (by omega) (by omega) (fun h191 => ?_) (fun h191 => ?_)
                · refine r_iload 199 dX11_level_197 rfl rfl ?_
                  refine r_ifeqF 202 dX11_level_199 rfl 214 (by decide) (by decide) (by decide) ?_
                  refine r_iload 204 dX11_level_202 rfl rfl ?_
                  refine r_aloadN 205 dX11_level_204 rfl rfl ?_
                  refine r_getq 208 dX11_level_205 rfl fX11_20 (by decide) (sh_50 z _) rfl ?_
                  refine r_iconst 209 dX11_level_208 rfl ?_
                  refine r_iald (n := 6) 210 dX11_level_209 (1) rfl rfl (by decide) (sh_51 z _) (by decide) (by omega) (by omega) ?_
                  refine r_iadd 211 dX11_level_210 rfl ?_
                  refine r_goto 216 dX11_level_211 (by decide) ?_
                  have hS : fStd (c 51) s (sp : Int) = true := by
                    unfold fStd
                    rw [Int.toNat_natCast, decide_eq_true (show 0 < c 51 12 sp by omega), decide_eq_true (show c 51 21 s % c 51 12 sp = 0 by omega)]
                    rfl
                  refine r_ret dX11_level_216 rfl (k _ ?_)
                  unfold fLvl
                  rw [y2, if_neg (by decide)]
                  rw [if_neg (by unfold fRaw; (repeat' split) <;> omega), hS]
                  unfold fRaw
                  simp only [Bool.false_eq_true, if_false, if_true, and_true, and_false]
                  (repeat' split) <;> omega
                · refine r_iinc4 197 dX11_level_194 rfl rfl (by decide) ?_
                  refine r_iload 199 dX11_level_197 rfl rfl ?_
                  refine r_ifeqF 202 dX11_level_199 rfl 214 (by decide) (by decide) (by decide) ?_
                  refine r_iload 204 dX11_level_202 rfl rfl ?_
                  refine r_aloadN 205 dX11_level_204 rfl rfl ?_
                  refine r_getq 208 dX11_level_205 rfl fX11_20 (by decide) (sh_50 z _) rfl ?_
                  refine r_iconst 209 dX11_level_208 rfl ?_
                  refine r_iald (n := 6) 210 dX11_level_209 (1) rfl rfl (by decide) (sh_51 z _) (by decide) (by omega) (by omega) ?_
                  refine r_iadd 211 dX11_level_210 rfl ?_
                  refine r_goto 216 dX11_level_211 (by decide) ?_
                  have hS : fStd (c 51) s (sp : Int) = true := by
                    unfold fStd
                    rw [Int.toNat_natCast, decide_eq_true (show 0 < c 51 12 sp by omega), decide_eq_true (show c 51 21 s % c 51 12 sp = 0 by omega)]
                    rfl
                  refine r_ret dX11_level_216 rfl (k _ ?_)
                  unfold fLvl
                  rw [y2, if_neg (by decide)]
                  rw [if_neg (by unfold fRaw; (repeat' split) <;> omega), hS]
                  unfold fRaw
                  simp only [Bool.false_eq_true, if_false, if_true, and_true, and_false]
                  (repeat' split) <;> omega
              · refine r_iload 174 dX11_level_172 rfl rfl ?_
                refine r_ifeqF 177 dX11_level_174 rfl 183 (by decide) (by decide) (by decide) ?_
                refine r_iload 179 dX11_level_177 rfl rfl ?_
                refine r_iconst 180 dX11_level_179 rfl ?_
                refine r_imul 181 dX11_level_180 rfl ?_
                refine r_istore4 183 dX11_level_181 rfl rfl (by decide) ?_
                refine r_aloadN 184 dX11_level_183 rfl rfl ?_
                refine r_getq 187 dX11_level_184 rfl fX11_44 (by decide) (sh_50 z _) rfl ?_
                refine r_iloadN 188 dX11_level_187 rfl rfl ?_
                refine r_iald (n := 14) 189 dX11_level_188 (s) rfl rfl (by decide) (sh_51 z _) (by decide) (by omega) (by omega) ?_
                refine r_bipush 191 dX11_level_189 rfl (by decide) ?_
                refine r_icne 197 194 dX11_level_191 rfl (by decide) (by omega) (by omega) (fun h191 => ?_) (fun h191 => ?_)
                · refine r_iload 199 dX11_level_197 rfl rfl ?_
                  refine r_ifeqF 202 dX11_level_199 rfl 214 (by decide) (by decide) (by decide) ?_
                  refine r_iload 204 dX11_level_202 rfl rfl ?_
                  refine r_aloadN 205 dX11_level_204 rfl rfl ?_
                  refine r_getq 208 dX11_level_205 rfl fX11_20 (by decide) (sh_50 z _) rfl ?_
                  refine r_iconst 209 dX11_level_208 rfl ?_
                  refine r_iald (n := 6) 210 dX11_level_209 (1) rfl rfl (by decide) (sh_51 z _) (by decide) (by omega) (by omega) ?_
                  refine r_iadd 211 dX11_level_210 rfl ?_
                  refine r_goto 216 dX11_level_211 (by decide) ?_
                  have hS : fStd (c 51) s (sp : Int) = true := by
                    unfold fStd
                    rw [Int.toNat_natCast, decide_eq_true (show 0 < c 51 12 sp by omega), decide_eq_true (show c 51 21 s % c 51 12 sp = 0 by omega)]
                    rfl
                  refine r_ret dX11_level_216 rfl (k _ ?_)
                  unfold fLvl
                  rw [y2, if_neg (by decide)]
                  rw [if_neg (by unfold fRaw; (repeat' split) <;> omega), hS]
                  unfold fRaw
                  simp only [Bool.false_eq_true, if_false, if_true, and_true, and_false]
                  (repeat' split) <;> omega
                · refine r_iinc4 197 dX11_level_194 rfl rfl (by decide) ?_
                  refine r_iload 199 dX11_level_197 rfl rfl ?_
                  refine r_ifeqF 202 dX11_level_199 rfl 214 (by decide) (by decide) (by decide) ?_
                  refine r_iload 204 dX11_level_202 rfl rfl ?_
                  refine r_aloadN 205 dX11_level_204 rfl rfl ?_
                  refine r_getq 208 dX11_level_205 rfl fX11_20 (by decide) (sh_50 z _) rfl ?_
                  refine r_iconst 209 dX11_level_208 rfl ?_
                  refine r_iald (n := 6) 210 dX11_level_209 (1) rfl rfl (by decide) (sh_51 z _) (by decide) (by omega) (by omega) ?_
                  refine r_iadd 211 dX11_level_210 rfl ?_
                  refine r_goto 216 dX11_level_211 (by decide) ?_
                  have hS : fStd (c 51) s (sp : Int) = true := by
                    unfold fStd
                    rw [Int.toNat_natCast, decide_eq_true (show 0 < c 51 12 sp by omega), decide_eq_true (show c 51 21 s % c 51 12 sp = 0 by omega)]
                    rfl
                  refine r_ret dX11_level_216 rfl (k _ ?_)
                  unfold fLvl
                  rw [y2, if_neg (by decide)]
                  rw [if_neg (by unfold fRaw; (repeat' split) <;> omega), hS]
                  unfold fRaw
                  simp only [Bool.false_eq_true, if_false, if_true, and_true, and_false]
                  (repeat' split) <;> omega
        · refine r_iconst 129 dX11_level_128 rfl ?_
          refine r_ret dX11_level_129 rfl (k _ ?_)
          unfold fLvl
          rw [y2, if_neg (by decide)]
          rw [if_pos (by unfold fRaw; (repeat' split) <;> omega)]
      · refine r_aloadN 109 dX11_level_108 rfl rfl ?_
        refine r_getq 112 dX11_level_109 rfl fX11_53 (by decide) (sh_50 z _) rfl ?_
        refine r_iloadN 113 dX11_level_112 rfl rfl ?_
        refine r_iald (n := 14) 114 dX11_level_113 (s) rfl rfl (by decide) (sh_51 z _) (by decide) (by omega) (by omega) ?_
        refine r_aloadN 115 dX11_level_114 rfl rfl ?_
        refine r_getq 118 dX11_level_115 rfl fX11_20 (by decide) (sh_50 z _) rfl ?_
        refine r_iconst 119 dX11_level_118 rfl ?_
        refine r_iald (n := 6) 120 dX11_level_119 (0) rfl rfl (by decide) (sh_51 z _) (by decide) (by omega) (by omega) ?_
        refine r_isub 121 dX11_level_120 rfl ?_
        refine r_istore4 123 dX11_level_121 rfl rfl (by decide) ?_
        refine r_iload 125 dX11_level_123 rfl rfl ?_
        refine r_ifgt 130 128 dX11_level_125 rfl (by decide) (by omega) (fun h125 => ?_) (fun h125 => ?_)
        · refine r_aloadN 131 dX11_level_130 rfl rfl ?_
          refine r_getq 134 dX11_level_131 rfl fX11_23 (by decide) (sh_50 z _) rfl ?_
          refine r_iloadN 135 dX11_level_134 rfl rfl ?_
          refine r_iald (n := 64) 136 dX11_level_135 (sp) rfl rfl (by decide) (sh_51 z _) (by decide) (by omega) (by omega) ?_
          refine r_ifle 159 139 dX11_level_136 rfl (by decide) (by omega) (fun h136 => ?_) (fun h136 => ?_)
          · refine r_iconst 160 dX11_level_159 rfl ?_
            refine r_istore5 162 dX11_level_160 rfl rfl (by decide) ?_
            refine r_aloadN 163 dX11_level_162 rfl rfl ?_
            refine r_getq 166 dX11_level_163 rfl fX11_44 (by decide) (sh_50 z _) rfl ?_
            refine r_iloadN 167 dX11_level_166 rfl rfl ?_
            refine r_iald (n := 14) 168 dX11_level_167 (s) rfl rfl (by decide) (sh_51 z _) (by decide) (by omega) (by omega) ?_
            refine r_iconst 169 dX11_level_168 rfl ?_
            refine r_icne 183 172 dX11_level_169 rfl (by decide) (by omega) (by omega) (fun h169 => ?_) (fun h169 => ?_)
            · refine r_aloadN 184 dX11_level_183 rfl rfl ?_
              refine r_getq 187 dX11_level_184 rfl fX11_44 (by decide) (sh_50 z _) rfl ?_
              refine r_iloadN 188 dX11_level_187 rfl rfl ?_
              refine r_iald (n := 14) 189 dX11_level_188 (s) rfl rfl (by decide) (sh_51 z _) (by decide) (by omega) (by omega) ?_
              refine r_bipush 191 dX11_level_189 rfl (by decide) ?_
              refine r_icne 197 194 dX11_level_191 rfl (by decide) (by omega) (by omega) (fun h191 => ?_) (fun h191 => ?_)
              · refine r_iload 199 dX11_level_197 rfl rfl ?_
                refine r_ifeqT 214 0 dX11_level_199 (by decide) (by decide) (by decide) ?_
                refine r_iload 216 dX11_level_214 rfl rfl ?_
                have hS : fStd (c 51) s (sp : Int) = false := by
                  unfold fStd
                  rw [Int.toNat_natCast]
                  first
                    | (rw [decide_eq_false (show ¬ 0 < c 51 12 sp by omega)]; rfl)
                    | (rw [decide_eq_false (show ¬ c 51 21 s % c 51 12 sp = 0 by omega), Bool.and_false])
                refine r_ret dX11_level_216 rfl (k _ ?_)
                unfold fLvl
                rw [y2, if_neg (by decide)]
                rw [if_neg (by unfold fRaw; (repeat' split) <;> omega), hS]
                unfold fRaw
                simp only [Bool.false_eq_true, if_false, if_true, and_true, and_false]
                (repeat' split) <;> omega
              · refine r_iinc4 197 dX11_level_194 rfl rfl (by decide) ?_
                refine r_iload 199 dX11_level_197 rfl rfl ?_
                refine r_ifeqT 214 0 dX11_level_199 (by decide) (by decide) (by decide) ?_
                refine r_iload 216 dX11_level_214 rfl rfl ?_
                have hS : fStd (c 51) s (sp : Int) = false := by
                  unfold fStd
                  rw [Int.toNat_natCast]
                  first
                    | (rw [decide_eq_false (show ¬ 0 < c 51 12 sp by omega)]; rfl)
                    | (rw [decide_eq_false (show ¬ c 51 21 s % c 51 12 sp = 0 by omega), Bool.and_false])
                refine r_ret dX11_level_216 rfl (k _ ?_)
                unfold fLvl
                rw [y2, if_neg (by decide)]
                rw [if_neg (by unfold fRaw; (repeat' split) <;> omega), hS]
                unfold fRaw
                simp only [Bool.false_eq_true, if_false, if_true, and_true, and_false]
                (repeat' split) <;> omega
            · refine r_iload 174 dX11_level_172 rfl rfl ?_
              refine r_ifeqT 183 0 dX11_level_174 (by decide) (by decide) (by decide) ?_
              refine r_aloadN 184 dX11_level_183 rfl rfl ?_
              refine r_getq 187 dX11_level_184 rfl fX11_44 (by decide) (sh_50 z _) rfl ?_
              refine r_iloadN 188 dX11_level_187 rfl rfl ?_
              refine r_iald (n := 14) 189 dX11_level_188 (s) rfl rfl (by decide) (sh_51 z _) (by decide) (by omega) (by omega) ?_
              refine r_bipush 191 dX11_level_189 rfl (by decide) ?_
              refine r_icne 197 194 dX11_level_191 rfl (by decide) (by omega) (by omega) (fun h191 => ?_) (fun h191 => ?_)
              · refine r_iload 199 dX11_level_197 rfl rfl ?_
                refine r_ifeqT 214 0 dX11_level_199 (by decide) (by decide) (by decide) ?_
                refine r_iload 216 dX11_level_214 rfl rfl ?_
                have hS : fStd (c 51) s (sp : Int) = false := by
                  unfold fStd
                  rw [Int.toNat_natCast]
                  first
                    | (rw [decide_eq_false (show ¬ 0 < c 51 12 sp by omega)]; rfl)
                    | (rw [decide_eq_false (show ¬ c 51 21 s % c 51 12 sp = 0 by omega), Bool.and_false])
                refine r_ret dX11_level_216 rfl (k _ ?_)
                unfold fLvl
                rw [y2, if_neg (by decide)]
                rw [if_neg (by unfold fRaw; (repeat' split) <;> omega), hS]
                unfold fRaw
                simp only [Bool.false_eq_true, if_false, if_true, and_true, and_false]
                (repeat' split) <;> omega
              · refine r_iinc4 197 dX11_level_194 rfl rfl (by decide) ?_
                refine r_iload 199 dX11_level_197 rfl rfl ?_
                refine r_ifeqT 214 0 dX11_level_199 (by decide) (by decide) (by decide) ?_
                refine r_iload 216 dX11_level_214 rfl rfl ?_
                have hS : fStd (c 51) s (sp : Int) = false := by
                  unfold fStd
                  rw [Int.toNat_natCast]
                  first
                    | (rw [decide_eq_false (show ¬ 0 < c 51 12 sp by omega)]; rfl)
                    | (rw [decide_eq_false (show ¬ c 51 21 s % c 51 12 sp = 0 by omega), Bool.and_false])
                refine r_ret dX11_level_216 rfl (k _ ?_)
                unfold fLvl
                rw [y2, if_neg (by decide)]
                rw [if_neg (by unfold fRaw; (repeat' split) <;> omega), hS]
                unfold fRaw
                simp only [Bool.false_eq_true, if_false, if_true, and_true, and_false]
                (repeat' split) <;> omega
          · refine r_aloadN 140 dX11_level_139 rfl rfl ?_
            refine r_getq 143 dX11_level_140 rfl fX11_50 (by decide) (sh_50 z _) rfl ?_
            refine r_iloadN 144 dX11_level_143 rfl rfl ?_
            refine r_iald (n := 14) 145 dX11_level_144 (s) rfl rfl (by decide) (sh_51 z _) (by decide) (by omega) (by omega) ?_
            refine r_aloadN 146 dX11_level_145 rfl rfl ?_
            refine r_getq 149 dX11_level_146 rfl fX11_23 (by decide) (sh_50 z _) rfl ?_
            refine r_iloadN 150 dX11_level_149 rfl rfl ?_
            refine r_iald (n := 64) 151 dX11_level_150 (sp) rfl rfl (by decide) (sh_51 z _) (by decide) (by omega) (by omega) ?_
            have hm1 := Int.emod_nonneg (c 51 21 s) (show c 51 12 sp ≠ 0 by omega)
            have hm2 := Int.emod_lt_of_pos (c 51 21 s) (show 0 < c 51 12 sp by omega)
            refine r_irem 152 dX11_level_151 rfl (by omega) (by omega) ?_
            refine r_ifne 159 155 dX11_level_152 rfl (by decide) (by omega) (fun h152 => ?_) (fun h152 => ?_)
            · refine r_iconst 160 dX11_level_159 rfl ?_
              refine r_istore5 162 dX11_level_160 rfl rfl (by decide) ?_
              refine r_aloadN 163 dX11_level_162 rfl rfl ?_
              refine r_getq 166 dX11_level_163 rfl fX11_44 (by decide) (sh_50 z _) rfl ?_
              refine r_iloadN 167 dX11_level_166 rfl rfl ?_
              refine r_iald (n := 14) 168 dX11_level_167 (s) rfl rfl (by decide) (sh_51 z _) (by decide) (by omega) (by omega) ?_
              refine r_iconst 169 dX11_level_168 rfl ?_
              refine r_icne 183 172 dX11_level_169 rfl (by decide) (by omega) (by omega) (fun h169 => ?_) (fun h169 => ?_)
              · refine r_aloadN 184 dX11_level_183 rfl rfl ?_
                refine r_getq 187 dX11_level_184 rfl fX11_44 (by decide) (sh_50 z _) rfl ?_
                refine r_iloadN 188 dX11_level_187 rfl rfl ?_
                refine r_iald (n := 14) 189 dX11_level_188 (s) rfl rfl (by decide) (sh_51 z _) (by decide) (by omega) (by omega) ?_
                refine r_bipush 191 dX11_level_189 rfl (by decide) ?_
                refine r_icne 197 194 dX11_level_191 rfl (by decide) (by omega) (by omega) (fun h191 => ?_) (fun h191 => ?_)
                · refine r_iload 199 dX11_level_197 rfl rfl ?_
                  refine r_ifeqT 214 0 dX11_level_199 (by decide) (by decide) (by decide) ?_
                  refine r_iload 216 dX11_level_214 rfl rfl ?_
                  have hS : fStd (c 51) s (sp : Int) = false := by
                    unfold fStd
                    rw [Int.toNat_natCast]
                    first
                      | (rw [decide_eq_false (show ¬ 0 < c 51 12 sp by omega)]; rfl)
                      | (rw [decide_eq_false (show ¬ c 51 21 s % c 51 12 sp = 0 by omega), Bool.and_false])
                  refine r_ret dX11_level_216 rfl (k _ ?_)
                  unfold fLvl
                  rw [y2, if_neg (by decide)]
                  rw [if_neg (by unfold fRaw; (repeat' split) <;> omega), hS]
                  unfold fRaw
                  simp only [Bool.false_eq_true, if_false, if_true, and_true, and_false]
                  (repeat' split) <;> omega
                · refine r_iinc4 197 dX11_level_194 rfl rfl (by decide) ?_
                  refine r_iload 199 dX11_level_197 rfl rfl ?_
                  refine r_ifeqT 214 0 dX11_level_199 (by decide) (by decide) (by decide) ?_
                  refine r_iload 216 dX11_level_214 rfl rfl ?_
                  have hS : fStd (c 51) s (sp : Int) = false := by
                    unfold fStd
                    rw [Int.toNat_natCast]
                    first
                      | (rw [decide_eq_false (show ¬ 0 < c 51 12 sp by omega)]; rfl)
                      | (rw [decide_eq_false (show ¬ c 51 21 s % c 51 12 sp = 0 by omega), Bool.and_false])
                  refine r_ret dX11_level_216 rfl (k _ ?_)
                  unfold fLvl
                  rw [y2, if_neg (by decide)]
                  rw [if_neg (by unfold fRaw; (repeat' split) <;> omega), hS]
                  unfold fRaw
                  simp only [Bool.false_eq_true, if_false, if_true, and_true, and_false]
                  (repeat' split) <;> omega
              · refine r_iload 174 dX11_level_172 rfl rfl ?_
                refine r_ifeqT 183 0 dX11_level_174 (by decide) (by decide) (by decide) ?_
                refine r_aloadN 184 dX11_level_183 rfl rfl ?_
                refine r_getq 187 dX11_level_184 rfl fX11_44 (by decide) (sh_50 z _) rfl ?_
                refine r_iloadN 188 dX11_level_187 rfl rfl ?_
                refine r_iald (n := 14) 189 dX11_level_188 (s) rfl rfl (by decide) (sh_51 z _) (by decide) (by omega) (by omega) ?_
                refine r_bipush 191 dX11_level_189 rfl (by decide) ?_
                refine r_icne 197 194 dX11_level_191 rfl (by decide) (by omega) (by omega) (fun h191 => ?_) (fun h191 => ?_)
                · refine r_iload 199 dX11_level_197 rfl rfl ?_
                  refine r_ifeqT 214 0 dX11_level_199 (by decide) (by decide) (by decide) ?_
                  refine r_iload 216 dX11_level_214 rfl rfl ?_
                  have hS : fStd (c 51) s (sp : Int) = false := by
                    unfold fStd
                    rw [Int.toNat_natCast]
                    first
                      | (rw [decide_eq_false (show ¬ 0 < c 51 12 sp by omega)]; rfl)
                      | (rw [decide_eq_false (show ¬ c 51 21 s % c 51 12 sp = 0 by omega), Bool.and_false])
                  refine r_ret dX11_level_216 rfl (k _ ?_)
                  unfold fLvl
                  rw [y2, if_neg (by decide)]
                  rw [if_neg (by unfold fRaw; (repeat' split) <;> omega), hS]
                  unfold fRaw
                  simp only [Bool.false_eq_true, if_false, if_true, and_true, and_false]
                  (repeat' split) <;> omega
                · refine r_iinc4 197 dX11_level_194 rfl rfl (by decide) ?_
                  refine r_iload 199 dX11_level_197 rfl rfl ?_
                  refine r_ifeqT 214 0 dX11_level_199 (by decide) (by decide) (by decide) ?_
                  refine r_iload 216 dX11_level_214 rfl rfl ?_
                  have hS : fStd (c 51) s (sp : Int) = false := by
                    unfold fStd
                    rw [Int.toNat_natCast]
                    first
                      | (rw [decide_eq_false (show ¬ 0 < c 51 12 sp by omega)]; rfl)
                      | (rw [decide_eq_false (show ¬ c 51 21 s % c 51 12 sp = 0 by omega), Bool.and_false])
                  refine r_ret dX11_level_216 rfl (k _ ?_)
                  unfold fLvl
                  rw [y2, if_neg (by decide)]
                  rw [if_neg (by unfold fRaw; (repeat' split) <;> omega), hS]
                  unfold fRaw
                  simp only [Bool.false_eq_true, if_false, if_true, and_true, and_false]
                  (repeat' split) <;> omega
            · refine r_iconst 156 dX11_level_155 rfl ?_
              refine r_goto 160 dX11_level_156 (by decide) ?_
              refine r_istore5 162 dX11_level_160 rfl rfl (by decide) ?_
              refine r_aloadN 163 dX11_level_162 rfl rfl ?_
              refine r_getq 166 dX11_level_163 rfl fX11_44 (by decide) (sh_50 z _) rfl ?_
              refine r_iloadN 167 dX11_level_166 rfl rfl ?_
              refine r_iald (n := 14) 168 dX11_level_167 (s) rfl rfl (by decide) (sh_51 z _) (by decide) (by omega) (by omega) ?_
              refine r_iconst 169 dX11_level_168 rfl ?_
              refine r_icne 183 172 dX11_level_169 rfl (by decide) (by omega) (by omega) (fun h169 => ?_) (fun h169 => ?_)
              · refine r_aloadN 184 dX11_level_183 rfl rfl ?_
                refine r_getq 187 dX11_level_184 rfl fX11_44 (by decide) (sh_50 z _) rfl ?_
                refine r_iloadN 188 dX11_level_187 rfl rfl ?_
                refine r_iald (n := 14) 189 dX11_level_188 (s) rfl rfl (by decide) (sh_51 z _) (by decide) (by omega) (by omega) ?_
                refine r_bipush 191 dX11_level_189 rfl (by decide) ?_
                refine r_icne 197 194 dX11_level_191 rfl (by decide) (by omega) (by omega) (fun h191 => ?_) (fun h191 => ?_)
                · refine r_iload 199 dX11_level_197 rfl rfl ?_
                  refine r_ifeqF 202 dX11_level_199 rfl 214 (by decide) (by decide) (by decide) ?_
                  refine r_iload 204 dX11_level_202 rfl rfl ?_
                  refine r_aloadN 205 dX11_level_204 rfl rfl ?_
                  refine r_getq 208 dX11_level_205 rfl fX11_20 (by decide) (sh_50 z _) rfl ?_
                  refine r_iconst 209 dX11_level_208 rfl ?_
                  refine r_iald (n := 6) 210 dX11_level_209 (1) rfl rfl (by decide) (sh_51 z _) (by decide) (by omega) (by omega) ?_
                  refine r_iadd 211 dX11_level_210 rfl ?_
                  refine r_goto 216 dX11_level_211 (by decide) ?_
                  have hS : fStd (c 51) s (sp : Int) = true := by
                    unfold fStd
                    rw [Int.toNat_natCast, decide_eq_true (show 0 < c 51 12 sp by omega), decide_eq_true (show c 51 21 s % c 51 12 sp = 0 by omega)]
                    rfl
                  refine r_ret dX11_level_216 rfl (k _ ?_)
                  unfold fLvl
                  rw [y2, if_neg (by decide)]
                  rw [if_neg (by unfold fRaw; (repeat' split) <;> omega), hS]
                  unfold fRaw
                  simp only [Bool.false_eq_true, if_false, if_true, and_true, and_false]
                  (repeat' split) <;> omega
                · refine r_iinc4 197 dX11_level_194 rfl rfl (by decide) ?_
                  refine r_iload 199 dX11_level_197 rfl rfl ?_
                  refine r_ifeqF 202 dX11_level_199 rfl 214 (by decide) (by decide) (by decide) ?_
                  refine r_iload 204 dX11_level_202 rfl rfl ?_
                  refine r_aloadN 205 dX11_level_204 rfl rfl ?_
                  refine r_getq 208 dX11_level_205 rfl fX11_20 (by decide) (sh_50 z _) rfl ?_
                  refine r_iconst 209 dX11_level_208 rfl ?_
                  refine r_iald (n := 6) 210 dX11_level_209 (1) rfl rfl (by decide) (sh_51 z _) (by decide) (by omega) (by omega) ?_
                  refine r_iadd 211 dX11_level_210 rfl ?_
                  refine r_goto 216 dX11_level_211 (by decide) ?_
                  have hS : fStd (c 51) s (sp : Int) = true := by
                    unfold fStd
                    rw [Int.toNat_natCast, decide_eq_true (show 0 < c 51 12 sp by omega), decide_eq_true (show c 51 21 s % c 51 12 sp = 0 by omega)]
                    rfl
                  refine r_ret dX11_level_216 rfl (k _ ?_)
                  unfold fLvl
                  rw [y2, if_neg (by decide)]
                  rw [if_neg (by unfold fRaw; (repeat' split) <;> omega), hS]
                  unfold fRaw
                  simp only [Bool.false_eq_true, if_false, if_true, and_true, and_false]
                  (repeat' split) <;> omega
              · refine r_iload 174 dX11_level_172 rfl rfl ?_
                refine r_ifeqF 177 dX11_level_174 rfl 183 (by decide) (by decide) (by decide) ?_
                refine r_iload 179 dX11_level_177 rfl rfl ?_
                refine r_iconst 180 dX11_level_179 rfl ?_
                refine r_imul 181 dX11_level_180 rfl ?_
                refine r_istore4 183 dX11_level_181 rfl rfl (by decide) ?_
                refine r_aloadN 184 dX11_level_183 rfl rfl ?_
                refine r_getq 187 dX11_level_184 rfl fX11_44 (by decide) (sh_50 z _) rfl ?_
                refine r_iloadN 188 dX11_level_187 rfl rfl ?_
                refine r_iald (n := 14) 189 dX11_level_188 (s) rfl rfl (by decide) (sh_51 z _) (by decide) (by omega) (by omega) ?_
                refine r_bipush 191 dX11_level_189 rfl (by decide) ?_
                refine r_icne 197 194 dX11_level_191 rfl (by decide) (by omega) (by omega) (fun h191 => ?_) (fun h191 => ?_)
                · refine r_iload 199 dX11_level_197 rfl rfl ?_
                  refine r_ifeqF 202 dX11_level_199 rfl 214 (by decide) (by decide) (by decide) ?_
                  refine r_iload 204 dX11_level_202 rfl rfl ?_
                  refine r_aloadN 205 dX11_level_204 rfl rfl ?_
                  refine r_getq 208 dX11_level_205 rfl fX11_20 (by decide) (sh_50 z _) rfl ?_
                  refine r_iconst 209 dX11_level_208 rfl ?_
                  refine r_iald (n := 6) 210 dX11_level_209 (1) rfl rfl (by decide) (sh_51 z _) (by decide) (by omega) (by omega) ?_
                  refine r_iadd 211 dX11_level_210 rfl ?_
                  refine r_goto 216 dX11_level_211 (by decide) ?_
                  have hS : fStd (c 51) s (sp : Int) = true := by
                    unfold fStd
                    rw [Int.toNat_natCast, decide_eq_true (show 0 < c 51 12 sp by omega), decide_eq_true (show c 51 21 s % c 51 12 sp = 0 by omega)]
                    rfl
                  refine r_ret dX11_level_216 rfl (k _ ?_)
                  unfold fLvl
                  rw [y2, if_neg (by decide)]
                  rw [if_neg (by unfold fRaw; (repeat' split) <;> omega), hS]
                  unfold fRaw
                  simp only [Bool.false_eq_true, if_false, if_true, and_true, and_false]
                  (repeat' split) <;> omega
                · refine r_iinc4 197 dX11_level_194 rfl rfl (by decide) ?_
                  refine r_iload 199 dX11_level_197 rfl rfl ?_
                  refine r_ifeqF 202 dX11_level_199 rfl 214 (by decide) (by decide) (by decide) ?_
                  refine r_iload 204 dX11_level_202 rfl rfl ?_
                  refine r_aloadN 205 dX11_level_204 rfl rfl ?_
                  refine r_getq 208 dX11_level_205 rfl fX11_20 (by decide) (sh_50 z _) rfl ?_
                  refine r_iconst 209 dX11_level_208 rfl ?_
                  refine r_iald (n := 6) 210 dX11_level_209 (1) rfl rfl (by decide) (sh_51 z _) (by decide) (by omega) (by omega) ?_
                  refine r_iadd 211 dX11_level_210 rfl ?_
                  refine r_goto 216 dX11_level_211 (by decide) ?_
                  have hS : fStd (c 51) s (sp : Int) = true := by
                    unfold fStd
                    rw [Int.toNat_natCast, decide_eq_true (show 0 < c 51 12 sp by omega), decide_eq_true (show c 51 21 s % c 51 12 sp = 0 by omega)]
                    rfl
                  refine r_ret dX11_level_216 rfl (k _ ?_)
                  unfold fLvl
                  rw [y2, if_neg (by decide)]
                  rw [if_neg (by unfold fRaw; (repeat' split) <;> omega), hS]
                  unfold fRaw
                  simp only [Bool.false_eq_true, if_false, if_true, and_true, and_false]
                  (repeat' split) <;> omega
        · refine r_iconst 129 dX11_level_128 rfl ?_
          refine r_ret dX11_level_129 rfl (k _ ?_)
          unfold fLvl
          rw [y2, if_neg (by decide)]
          rw [if_pos (by unfold fRaw; (repeat' split) <;> omega)]
    · refine r_aloadN 79 dX11_level_78 rfl rfl ?_
      refine r_getq 82 dX11_level_79 rfl fX11_53 (by decide) (sh_50 z _) rfl ?_
      refine r_iloadN 83 dX11_level_82 rfl rfl ?_
      refine r_iald (n := 14) 84 dX11_level_83 (s) rfl rfl (by decide) (sh_51 z _) (by decide) (by omega) (by omega) ?_
      refine r_aloadN 85 dX11_level_84 rfl rfl ?_
      refine r_getq 88 dX11_level_85 rfl fX11_20 (by decide) (sh_50 z _) rfl ?_
      refine r_iconst 89 dX11_level_88 rfl ?_
      refine r_iald (n := 6) 90 dX11_level_89 (0) rfl rfl (by decide) (sh_51 z _) (by decide) (by omega) (by omega) ?_
      refine r_iloadN 91 dX11_level_90 rfl rfl ?_
      refine r_imul 92 dX11_level_91 rfl ?_
      refine r_iconst 93 dX11_level_92 rfl ?_
      refine r_idiv 94 dX11_level_93 rfl (by omega) (by omega) ?_
      refine r_isub 95 dX11_level_94 rfl ?_
      refine r_istore4 97 dX11_level_95 rfl rfl (by decide) ?_
      refine r_aloadN 98 dX11_level_97 rfl rfl ?_
      refine r_getq 101 dX11_level_98 rfl fX11_44 (by decide) (sh_50 z _) rfl ?_
      refine r_iloadN 102 dX11_level_101 rfl rfl ?_
      refine r_iald (n := 14) 103 dX11_level_102 (s) rfl rfl (by decide) (sh_51 z _) (by decide) (by omega) (by omega) ?_
      refine r_bipush 105 dX11_level_103 rfl (by decide) ?_
      refine r_icne 123 108 dX11_level_105 rfl (by decide) (by omega) (by omega) (fun h105 => ?_) (fun h105 => ?_)
      · refine r_iload 125 dX11_level_123 rfl rfl ?_
        refine r_ifgt 130 128 dX11_level_125 rfl (by decide) (by omega) (fun h125 => ?_) (fun h125 => ?_)
        · refine r_aloadN 131 dX11_level_130 rfl rfl ?_
          refine r_getq 134 dX11_level_131 rfl fX11_23 (by decide) (sh_50 z _) rfl ?_
          refine r_iloadN 135 dX11_level_134 rfl rfl ?_
          refine r_iald (n := 64) 136 dX11_level_135 (sp) rfl rfl (by decide) (sh_51 z _) (by decide) (by omega) (by omega) ?_
          refine r_ifle 159 139 dX11_level_136 rfl (by decide) (by omega) (fun h136 => ?_) (fun h136 => ?_)
          · refine r_iconst 160 dX11_level_159 rfl ?_
            refine r_istore5 162 dX11_level_160 rfl rfl (by decide) ?_
            refine r_aloadN 163 dX11_level_162 rfl rfl ?_
            refine r_getq 166 dX11_level_163 rfl fX11_44 (by decide) (sh_50 z _) rfl ?_
            refine r_iloadN 167 dX11_level_166 rfl rfl ?_
            refine r_iald (n := 14) 168 dX11_level_167 (s) rfl rfl (by decide) (sh_51 z _) (by decide) (by omega) (by omega) ?_
            refine r_iconst 169 dX11_level_168 rfl ?_
            refine r_icne 183 172 dX11_level_169 rfl (by decide) (by omega) (by omega) (fun h169 => ?_) (fun h169 => ?_)
            · refine r_aloadN 184 dX11_level_183 rfl rfl ?_
              refine r_getq 187 dX11_level_184 rfl fX11_44 (by decide) (sh_50 z _) rfl ?_
              refine r_iloadN 188 dX11_level_187 rfl rfl ?_
              refine r_iald (n := 14) 189 dX11_level_188 (s) rfl rfl (by decide) (sh_51 z _) (by decide) (by omega) (by omega) ?_
              refine r_bipush 191 dX11_level_189 rfl (by decide) ?_
              refine r_icne 197 194 dX11_level_191 rfl (by decide) (by omega) (by omega) (fun h191 => ?_) (fun h191 => ?_)
              · refine r_iload 199 dX11_level_197 rfl rfl ?_
                refine r_ifeqT 214 0 dX11_level_199 (by decide) (by decide) (by decide) ?_
                refine r_iload 216 dX11_level_214 rfl rfl ?_
                have hS : fStd (c 51) s (sp : Int) = false := by
                  unfold fStd
                  rw [Int.toNat_natCast]
                  first
                    | (rw [decide_eq_false (show ¬ 0 < c 51 12 sp by omega)]; rfl)
                    | (rw [decide_eq_false (show ¬ c 51 21 s % c 51 12 sp = 0 by omega), Bool.and_false])
                refine r_ret dX11_level_216 rfl (k _ ?_)
                unfold fLvl
                rw [y2, if_neg (by decide)]
                rw [if_neg (by unfold fRaw; (repeat' split) <;> omega), hS]
                unfold fRaw
                simp only [Bool.false_eq_true, if_false, if_true, and_true, and_false]
                (repeat' split) <;> omega
              · refine r_iinc4 197 dX11_level_194 rfl rfl (by decide) ?_
                refine r_iload 199 dX11_level_197 rfl rfl ?_
                refine r_ifeqT 214 0 dX11_level_199 (by decide) (by decide) (by decide) ?_
                refine r_iload 216 dX11_level_214 rfl rfl ?_
                have hS : fStd (c 51) s (sp : Int) = false := by
                  unfold fStd
                  rw [Int.toNat_natCast]
                  first
                    | (rw [decide_eq_false (show ¬ 0 < c 51 12 sp by omega)]; rfl)
                    | (rw [decide_eq_false (show ¬ c 51 21 s % c 51 12 sp = 0 by omega), Bool.and_false])
                refine r_ret dX11_level_216 rfl (k _ ?_)
                unfold fLvl
                rw [y2, if_neg (by decide)]
                rw [if_neg (by unfold fRaw; (repeat' split) <;> omega), hS]
                unfold fRaw
                simp only [Bool.false_eq_true, if_false, if_true, and_true, and_false]
                (repeat' split) <;> omega
            · refine r_iload 174 dX11_level_172 rfl rfl ?_
              refine r_ifeqT 183 0 dX11_level_174 (by decide) (by decide) (by decide) ?_
              refine r_aloadN 184 dX11_level_183 rfl rfl ?_
              refine r_getq 187 dX11_level_184 rfl fX11_44 (by decide) (sh_50 z _) rfl ?_
              refine r_iloadN 188 dX11_level_187 rfl rfl ?_
              refine r_iald (n := 14) 189 dX11_level_188 (s) rfl rfl (by decide) (sh_51 z _) (by decide) (by omega) (by omega) ?_
              refine r_bipush 191 dX11_level_189 rfl (by decide) ?_
              refine r_icne 197 194 dX11_level_191 rfl (by decide) (by omega) (by omega) (fun h191 => ?_) (fun h191 => ?_)
              · refine r_iload 199 dX11_level_197 rfl rfl ?_
                refine r_ifeqT 214 0 dX11_level_199 (by decide) (by decide) (by decide) ?_
                refine r_iload 216 dX11_level_214 rfl rfl ?_
                have hS : fStd (c 51) s (sp : Int) = false := by
                  unfold fStd
                  rw [Int.toNat_natCast]
                  first
                    | (rw [decide_eq_false (show ¬ 0 < c 51 12 sp by omega)]; rfl)
                    | (rw [decide_eq_false (show ¬ c 51 21 s % c 51 12 sp = 0 by omega), Bool.and_false])
                refine r_ret dX11_level_216 rfl (k _ ?_)
                unfold fLvl
                rw [y2, if_neg (by decide)]
                rw [if_neg (by unfold fRaw; (repeat' split) <;> omega), hS]
                unfold fRaw
                simp only [Bool.false_eq_true, if_false, if_true, and_true, and_false]
                (repeat' split) <;> omega
              · refine r_iinc4 197 dX11_level_194 rfl rfl (by decide) ?_
                refine r_iload 199 dX11_level_197 rfl rfl ?_
                refine r_ifeqT 214 0 dX11_level_199 (by decide) (by decide) (by decide) ?_
                refine r_iload 216 dX11_level_214 rfl rfl ?_
                have hS : fStd (c 51) s (sp : Int) = false := by
                  unfold fStd
                  rw [Int.toNat_natCast]
                  first
                    | (rw [decide_eq_false (show ¬ 0 < c 51 12 sp by omega)]; rfl)
                    | (rw [decide_eq_false (show ¬ c 51 21 s % c 51 12 sp = 0 by omega), Bool.and_false])
                refine r_ret dX11_level_216 rfl (k _ ?_)
                unfold fLvl
                rw [y2, if_neg (by decide)]
                rw [if_neg (by unfold fRaw; (repeat' split) <;> omega), hS]
                unfold fRaw
                simp only [Bool.false_eq_true, if_false, if_true, and_true, and_false]
                (repeat' split) <;> omega
          · refine r_aloadN 140 dX11_level_139 rfl rfl ?_
            refine r_getq 143 dX11_level_140 rfl fX11_50 (by decide) (sh_50 z _) rfl ?_
            refine r_iloadN 144 dX11_level_143 rfl rfl ?_
            refine r_iald (n := 14) 145 dX11_level_144 (s) rfl rfl (by decide) (sh_51 z _) (by decide) (by omega) (by omega) ?_
            refine r_aloadN 146 dX11_level_145 rfl rfl ?_
            refine r_getq 149 dX11_level_146 rfl fX11_23 (by decide) (sh_50 z _) rfl ?_
            refine r_iloadN 150 dX11_level_149 rfl rfl ?_
            refine r_iald (n := 64) 151 dX11_level_150 (sp) rfl rfl (by decide) (sh_51 z _) (by decide) (by omega) (by omega) ?_
            have hm1 := Int.emod_nonneg (c 51 21 s) (show c 51 12 sp ≠ 0 by omega)
            have hm2 := Int.emod_lt_of_pos (c 51 21 s) (show 0 < c 51 12 sp by omega)
            refine r_irem 152 dX11_level_151 rfl (by omega) (by omega) ?_
            refine r_ifne 159 155 dX11_level_152 rfl (by decide) (by omega) (fun h152 => ?_) (fun h152 => ?_)
            · refine r_iconst 160 dX11_level_159 rfl ?_
              refine r_istore5 162 dX11_level_160 rfl rfl (by decide) ?_
              refine r_aloadN 163 dX11_level_162 rfl rfl ?_
              refine r_getq 166 dX11_level_163 rfl fX11_44 (by decide) (sh_50 z _) rfl ?_
              refine r_iloadN 167 dX11_level_166 rfl rfl ?_
              refine r_iald (n := 14) 168 dX11_level_167 (s) rfl rfl (by decide) (sh_51 z _) (by decide) (by omega) (by omega) ?_
              refine r_iconst 169 dX11_level_168 rfl ?_
              refine r_icne 183 172 dX11_level_169 rfl (by decide) (by omega) (by omega) (fun h169 => ?_) (fun h169 => ?_)
              · refine r_aloadN 184 dX11_level_183 rfl rfl ?_
                refine r_getq 187 dX11_level_184 rfl fX11_44 (by decide) (sh_50 z _) rfl ?_
                refine r_iloadN 188 dX11_level_187 rfl rfl ?_
                refine r_iald (n := 14) 189 dX11_level_188 (s) rfl rfl (by decide) (sh_51 z _) (by decide) (by omega) (by omega) ?_
                refine r_bipush 191 dX11_level_189 rfl (by decide) ?_
                refine r_icne 197 194 dX11_level_191 rfl (by decide) (by omega) (by omega) (fun h191 => ?_) (fun h191 => ?_)
                · refine r_iload 199 dX11_level_197 rfl rfl ?_
                  refine r_ifeqT 214 0 dX11_level_199 (by decide) (by decide) (by decide) ?_
                  refine r_iload 216 dX11_level_214 rfl rfl ?_
                  have hS : fStd (c 51) s (sp : Int) = false := by
                    unfold fStd
                    rw [Int.toNat_natCast]
                    first
                      | (rw [decide_eq_false (show ¬ 0 < c 51 12 sp by omega)]; rfl)
                      | (rw [decide_eq_false (show ¬ c 51 21 s % c 51 12 sp = 0 by omega), Bool.and_false])
                  refine r_ret dX11_level_216 rfl (k _ ?_)
                  unfold fLvl
                  rw [y2, if_neg (by decide)]
                  rw [if_neg (by unfold fRaw; (repeat' split) <;> omega), hS]
                  unfold fRaw
                  simp only [Bool.false_eq_true, if_false, if_true, and_true, and_false]
                  (repeat' split) <;> omega
                · refine r_iinc4 197 dX11_level_194 rfl rfl (by decide) ?_
                  refine r_iload 199 dX11_level_197 rfl rfl ?_
                  refine r_ifeqT 214 0 dX11_level_199 (by decide) (by decide) (by decide) ?_
                  refine r_iload 216 dX11_level_214 rfl rfl ?_
                  have hS : fStd (c 51) s (sp : Int) = false := by
                    unfold fStd
                    rw [Int.toNat_natCast]
                    first
                      | (rw [decide_eq_false (show ¬ 0 < c 51 12 sp by omega)]; rfl)
                      | (rw [decide_eq_false (show ¬ c 51 21 s % c 51 12 sp = 0 by omega), Bool.and_false])
                  refine r_ret dX11_level_216 rfl (k _ ?_)
                  unfold fLvl
                  rw [y2, if_neg (by decide)]
                  rw [if_neg (by unfold fRaw; (repeat' split) <;> omega), hS]
                  unfold fRaw
                  simp only [Bool.false_eq_true, if_false, if_true, and_true, and_false]
                  (repeat' split) <;> omega
              · refine r_iload 174 dX11_level_172 rfl rfl ?_
                refine r_ifeqT 183 0 dX11_level_174 (by decide) (by decide) (by decide) ?_
                refine r_aloadN 184 dX11_level_183 rfl rfl ?_
                refine r_getq 187 dX11_level_184 rfl fX11_44 (by decide) (sh_50 z _) rfl ?_
                refine r_iloadN 188 dX11_level_187 rfl rfl ?_
                refine r_iald (n := 14) 189 dX11_level_188 (s) rfl rfl (by decide) (sh_51 z _) (by decide) (by omega) (by omega) ?_
                refine r_bipush 191 dX11_level_189 rfl (by decide) ?_
                refine r_icne 197 194 dX11_level_191 rfl (by decide) (by omega) (by omega) (fun h191 => ?_) (fun h191 => ?_)
                · refine r_iload 199 dX11_level_197 rfl rfl ?_
                  refine r_ifeqT 214 0 dX11_level_199 (by decide) (by decide) (by decide) ?_
                  refine r_iload 216 dX11_level_214 rfl rfl ?_
                  have hS : fStd (c 51) s (sp : Int) = false := by
                    unfold fStd
                    rw [Int.toNat_natCast]
                    first
                      | (rw [decide_eq_false (show ¬ 0 < c 51 12 sp by omega)]; rfl)
                      | (rw [decide_eq_false (show ¬ c 51 21 s % c 51 12 sp = 0 by omega), Bool.and_false])
                  refine r_ret dX11_level_216 rfl (k _ ?_)
                  unfold fLvl
                  rw [y2, if_neg (by decide)]
                  rw [if_neg (by unfold fRaw; (repeat' split) <;> omega), hS]
                  unfold fRaw
                  simp only [Bool.false_eq_true, if_false, if_true, and_true, and_false]
                  (repeat' split) <;> omega
                · refine r_iinc4 197 dX11_level_194 rfl rfl (by decide) ?_
                  refine r_iload 199 dX11_level_197 rfl rfl ?_
                  refine r_ifeqT 214 0 dX11_level_199 (by decide) (by decide) (by decide) ?_
                  refine r_iload 216 dX11_level_214 rfl rfl ?_
                  have hS : fStd (c 51) s (sp : Int) = false := by
                    unfold fStd
                    rw [Int.toNat_natCast]
                    first
                      | (rw [decide_eq_false (show ¬ 0 < c 51 12 sp by omega)]; rfl)
                      | (rw [decide_eq_false (show ¬ c 51 21 s % c 51 12 sp = 0 by omega), Bool.and_false])
                  refine r_ret dX11_level_216 rfl (k _ ?_)
                  unfold fLvl
                  rw [y2, if_neg (by decide)]
                  rw [if_neg (by unfold fRaw; (repeat' split) <;> omega), hS]
                  unfold fRaw
                  simp only [Bool.false_eq_true, if_false, if_true, and_true, and_false]
                  (repeat' split) <;> omega
            · refine r_iconst 156 dX11_level_155 rfl ?_
              refine r_goto 160 dX11_level_156 (by decide) ?_
              refine r_istore5 162 dX11_level_160 rfl rfl (by decide) ?_
              refine r_aloadN 163 dX11_level_162 rfl rfl ?_
              refine r_getq 166 dX11_level_163 rfl fX11_44 (by decide) (sh_50 z _) rfl ?_
              refine r_iloadN 167 dX11_level_166 rfl rfl ?_
              refine r_iald (n := 14) 168 dX11_level_167 (s) rfl rfl (by decide) (sh_51 z _) (by decide) (by omega) (by omega) ?_
              refine r_iconst 169 dX11_level_168 rfl ?_
              refine r_icne 183 172 dX11_level_169 rfl (by decide) (by omega) (by omega) (fun h169 => ?_) (fun h169 => ?_)
              · refine r_aloadN 184 dX11_level_183 rfl rfl ?_
                refine r_getq 187 dX11_level_184 rfl fX11_44 (by decide) (sh_50 z _) rfl ?_
                refine r_iloadN 188 dX11_level_187 rfl rfl ?_
                refine r_iald (n := 14) 189 dX11_level_188 (s) rfl rfl (by decide) (sh_51 z _) (by decide) (by omega) (by omega) ?_
                refine r_bipush 191 dX11_level_189 rfl (by decide) ?_
                refine r_icne 197 194 dX11_level_191 rfl (by decide) (by omega) (by omega) (fun h191 => ?_) (fun h191 => ?_)
                · refine r_iload 199 dX11_level_197 rfl rfl ?_
                  refine r_ifeqF 202 dX11_level_199 rfl 214 (by decide) (by decide) (by decide) ?_
                  refine r_iload 204 dX11_level_202 rfl rfl ?_
                  refine r_aloadN 205 dX11_level_204 rfl rfl ?_
                  refine r_getq 208 dX11_level_205 rfl fX11_20 (by decide) (sh_50 z _) rfl ?_
                  refine r_iconst 209 dX11_level_208 rfl ?_
                  refine r_iald (n := 6) 210 dX11_level_209 (1) rfl rfl (by decide) (sh_51 z _) (by decide) (by omega) (by omega) ?_
                  refine r_iadd 211 dX11_level_210 rfl ?_
                  refine r_goto 216 dX11_level_211 (by decide) ?_
                  have hS : fStd (c 51) s (sp : Int) = true := by
                    unfold fStd
                    rw [Int.toNat_natCast, decide_eq_true (show 0 < c 51 12 sp by omega), decide_eq_true (show c 51 21 s % c 51 12 sp = 0 by omega)]
                    rfl
                  refine r_ret dX11_level_216 rfl (k _ ?_)
                  unfold fLvl
                  rw [y2, if_neg (by decide)]
                  rw [if_neg (by unfold fRaw; (repeat' split) <;> omega), hS]
                  unfold fRaw
                  simp only [Bool.false_eq_true, if_false, if_true, and_true, and_false]
                  (repeat' split) <;> omega
                · refine r_iinc4 197 dX11_level_194 rfl rfl (by decide) ?_
                  refine r_iload 199 dX11_level_197 rfl rfl ?_
                  refine r_ifeqF 202 dX11_level_199 rfl 214 (by decide) (by decide) (by decide) ?_
                  refine r_iload 204 dX11_level_202 rfl rfl ?_
                  refine r_aloadN 205 dX11_level_204 rfl rfl ?_
                  refine r_getq 208 dX11_level_205 rfl fX11_20 (by decide) (sh_50 z _) rfl ?_
                  refine r_iconst 209 dX11_level_208 rfl ?_
                  refine r_iald (n := 6) 210 dX11_level_209 (1) rfl rfl (by decide) (sh_51 z _) (by decide) (by omega) (by omega) ?_
                  refine r_iadd 211 dX11_level_210 rfl ?_
                  refine r_goto 216 dX11_level_211 (by decide) ?_
                  have hS : fStd (c 51) s (sp : Int) = true := by
                    unfold fStd
                    rw [Int.toNat_natCast, decide_eq_true (show 0 < c 51 12 sp by omega), decide_eq_true (show c 51 21 s % c 51 12 sp = 0 by omega)]
                    rfl
                  refine r_ret dX11_level_216 rfl (k _ ?_)
                  unfold fLvl
                  rw [y2, if_neg (by decide)]
                  rw [if_neg (by unfold fRaw; (repeat' split) <;> omega), hS]
                  unfold fRaw
                  simp only [Bool.false_eq_true, if_false, if_true, and_true, and_false]
                  (repeat' split) <;> omega
              · refine r_iload 174 dX11_level_172 rfl rfl ?_
                refine r_ifeqF 177 dX11_level_174 rfl 183 (by decide) (by decide) (by decide) ?_
                refine r_iload 179 dX11_level_177 rfl rfl ?_
                refine r_iconst 180 dX11_level_179 rfl ?_
                refine r_imul 181 dX11_level_180 rfl ?_
                refine r_istore4 183 dX11_level_181 rfl rfl (by decide) ?_
                refine r_aloadN 184 dX11_level_183 rfl rfl ?_
                refine r_getq 187 dX11_level_184 rfl fX11_44 (by decide) (sh_50 z _) rfl ?_
                refine r_iloadN 188 dX11_level_187 rfl rfl ?_
                refine r_iald (n := 14) 189 dX11_level_188 (s) rfl rfl (by decide) (sh_51 z _) (by decide) (by omega) (by omega) ?_
                refine r_bipush 191 dX11_level_189 rfl (by decide) ?_
                refine r_icne 197 194 dX11_level_191 rfl (by decide) (by omega) (by omega) (fun h191 => ?_) (fun h191 => ?_)
                · refine r_iload 199 dX11_level_197 rfl rfl ?_
                  refine r_ifeqF 202 dX11_level_199 rfl 214 (by decide) (by decide) (by decide) ?_
                  refine r_iload 204 dX11_level_202 rfl rfl ?_
                  refine r_aloadN 205 dX11_level_204 rfl rfl ?_
                  refine r_getq 208 dX11_level_205 rfl fX11_20 (by decide) (sh_50 z _) rfl ?_
                  refine r_iconst 209 dX11_level_208 rfl ?_
                  refine r_iald (n := 6) 210 dX11_level_209 (1) rfl rfl (by decide) (sh_51 z _) (by decide) (by omega) (by omega) ?_
                  refine r_iadd 211 dX11_level_210 rfl ?_
                  refine r_goto 216 dX11_level_211 (by decide) ?_
                  have hS : fStd (c 51) s (sp : Int) = true := by
                    unfold fStd
                    rw [Int.toNat_natCast, decide_eq_true (show 0 < c 51 12 sp by omega), decide_eq_true (show c 51 21 s % c 51 12 sp = 0 by omega)]
                    rfl
                  refine r_ret dX11_level_216 rfl (k _ ?_)
                  unfold fLvl
                  rw [y2, if_neg (by decide)]
                  rw [if_neg (by unfold fRaw; (repeat' split) <;> omega), hS]
                  unfold fRaw
                  simp only [Bool.false_eq_true, if_false, if_true, and_true, and_false]
                  (repeat' split) <;> omega
                · refine r_iinc4 197 dX11_level_194 rfl rfl (by decide) ?_
                  refine r_iload 199 dX11_level_197 rfl rfl ?_
                  refine r_ifeqF 202 dX11_level_199 rfl 214 (by decide) (by decide) (by decide) ?_
                  refine r_iload 204 dX11_level_202 rfl rfl ?_
                  refine r_aloadN 205 dX11_level_204 rfl rfl ?_
                  refine r_getq 208 dX11_level_205 rfl fX11_20 (by decide) (sh_50 z _) rfl ?_
                  refine r_iconst 209 dX11_level_208 rfl ?_
                  refine r_iald (n := 6) 210 dX11_level_209 (1) rfl rfl (by decide) (sh_51 z _) (by decide) (by omega) (by omega) ?_
                  refine r_iadd 211 dX11_level_210 rfl ?_
                  refine r_goto 216 dX11_level_211 (by decide) ?_
                  have hS : fStd (c 51) s (sp : Int) = true := by
                    unfold fStd
                    rw [Int.toNat_natCast, decide_eq_true (show 0 < c 51 12 sp by omega), decide_eq_true (show c 51 21 s % c 51 12 sp = 0 by omega)]
                    rfl
                  refine r_ret dX11_level_216 rfl (k _ ?_)
                  unfold fLvl
                  rw [y2, if_neg (by decide)]
                  rw [if_neg (by unfold fRaw; (repeat' split) <;> omega), hS]
                  unfold fRaw
                  simp only [Bool.false_eq_true, if_false, if_true, and_true, and_false]
                  (repeat' split) <;> omega
        · refine r_iconst 129 dX11_level_128 rfl ?_
          refine r_ret dX11_level_129 rfl (k _ ?_)
          unfold fLvl
          rw [y2, if_neg (by decide)]
          rw [if_pos (by unfold fRaw; (repeat' split) <;> omega)]
      · refine r_aloadN 109 dX11_level_108 rfl rfl ?_
        refine r_getq 112 dX11_level_109 rfl fX11_53 (by decide) (sh_50 z _) rfl ?_
        refine r_iloadN 113 dX11_level_112 rfl rfl ?_
        refine r_iald (n := 14) 114 dX11_level_113 (s) rfl rfl (by decide) (sh_51 z _) (by decide) (by omega) (by omega) ?_
        refine r_aloadN 115 dX11_level_114 rfl rfl ?_
        refine r_getq 118 dX11_level_115 rfl fX11_20 (by decide) (sh_50 z _) rfl ?_
        refine r_iconst 119 dX11_level_118 rfl ?_
        refine r_iald (n := 6) 120 dX11_level_119 (0) rfl rfl (by decide) (sh_51 z _) (by decide) (by omega) (by omega) ?_
        refine r_isub 121 dX11_level_120 rfl ?_
        refine r_istore4 123 dX11_level_121 rfl rfl (by decide) ?_
        refine r_iload 125 dX11_level_123 rfl rfl ?_
        refine r_ifgt 130 128 dX11_level_125 rfl (by decide) (by omega) (fun h125 => ?_) (fun h125 => ?_)
        · refine r_aloadN 131 dX11_level_130 rfl rfl ?_
          refine r_getq 134 dX11_level_131 rfl fX11_23 (by decide) (sh_50 z _) rfl ?_
          refine r_iloadN 135 dX11_level_134 rfl rfl ?_
          refine r_iald (n := 64) 136 dX11_level_135 (sp) rfl rfl (by decide) (sh_51 z _) (by decide) (by omega) (by omega) ?_
          refine r_ifle 159 139 dX11_level_136 rfl (by decide) (by omega) (fun h136 => ?_) (fun h136 => ?_)
          · refine r_iconst 160 dX11_level_159 rfl ?_
            refine r_istore5 162 dX11_level_160 rfl rfl (by decide) ?_
            refine r_aloadN 163 dX11_level_162 rfl rfl ?_
            refine r_getq 166 dX11_level_163 rfl fX11_44 (by decide) (sh_50 z _) rfl ?_
            refine r_iloadN 167 dX11_level_166 rfl rfl ?_
            refine r_iald (n := 14) 168 dX11_level_167 (s) rfl rfl (by decide) (sh_51 z _) (by decide) (by omega) (by omega) ?_
            refine r_iconst 169 dX11_level_168 rfl ?_
            refine r_icne 183 172 dX11_level_169 rfl (by decide) (by omega) (by omega) (fun h169 => ?_) (fun h169 => ?_)
            · refine r_aloadN 184 dX11_level_183 rfl rfl ?_
              refine r_getq 187 dX11_level_184 rfl fX11_44 (by decide) (sh_50 z _) rfl ?_
              refine r_iloadN 188 dX11_level_187 rfl rfl ?_
              refine r_iald (n := 14) 189 dX11_level_188 (s) rfl rfl (by decide) (sh_51 z _) (by decide) (by omega) (by omega) ?_
              refine r_bipush 191 dX11_level_189 rfl (by decide) ?_
              refine r_icne 197 194 dX11_level_191 rfl (by decide) (by omega) (by omega) (fun h191 => ?_) (fun h191 => ?_)
              · refine r_iload 199 dX11_level_197 rfl rfl ?_
                refine r_ifeqT 214 0 dX11_level_199 (by decide) (by decide) (by decide) ?_
                refine r_iload 216 dX11_level_214 rfl rfl ?_
                have hS : fStd (c 51) s (sp : Int) = false := by
                  unfold fStd
                  rw [Int.toNat_natCast]
                  first
                    | (rw [decide_eq_false (show ¬ 0 < c 51 12 sp by omega)]; rfl)
                    | (rw [decide_eq_false (show ¬ c 51 21 s % c 51 12 sp = 0 by omega), Bool.and_false])
                refine r_ret dX11_level_216 rfl (k _ ?_)
                unfold fLvl
                rw [y2, if_neg (by decide)]
                rw [if_neg (by unfold fRaw; (repeat' split) <;> omega), hS]
                unfold fRaw
                simp only [Bool.false_eq_true, if_false, if_true, and_true, and_false]
                (repeat' split) <;> omega
              · refine r_iinc4 197 dX11_level_194 rfl rfl (by decide) ?_
                refine r_iload 199 dX11_level_197 rfl rfl ?_
                refine r_ifeqT 214 0 dX11_level_199 (by decide) (by decide) (by decide) ?_
                refine r_iload 216 dX11_level_214 rfl rfl ?_
                have hS : fStd (c 51) s (sp : Int) = false := by
                  unfold fStd
                  rw [Int.toNat_natCast]
                  first
                    | (rw [decide_eq_false (show ¬ 0 < c 51 12 sp by omega)]; rfl)
                    | (rw [decide_eq_false (show ¬ c 51 21 s % c 51 12 sp = 0 by omega), Bool.and_false])
                refine r_ret dX11_level_216 rfl (k _ ?_)
                unfold fLvl
                rw [y2, if_neg (by decide)]
                rw [if_neg (by unfold fRaw; (repeat' split) <;> omega), hS]
                unfold fRaw
                simp only [Bool.false_eq_true, if_false, if_true, and_true, and_false]
                (repeat' split) <;> omega
            · refine r_iload 174 dX11_level_172 rfl rfl ?_
              refine r_ifeqT 183 0 dX11_level_174 (by decide) (by decide) (by decide) ?_
              refine r_aloadN 184 dX11_level_183 rfl rfl ?_
              refine r_getq 187 dX11_level_184 rfl fX11_44 (by decide) (sh_50 z _) rfl ?_
              refine r_iloadN 188 dX11_level_187 rfl rfl ?_
              refine r_iald (n := 14) 189 dX11_level_188 (s) rfl rfl (by decide) (sh_51 z _) (by decide) (by omega) (by omega) ?_
              refine r_bipush 191 dX11_level_189 rfl (by decide) ?_
              refine r_icne 197 194 dX11_level_191 rfl (by decide) (by omega) (by omega) (fun h191 => ?_) (fun h191 => ?_)
              · refine r_iload 199 dX11_level_197 rfl rfl ?_
                refine r_ifeqT 214 0 dX11_level_199 (by decide) (by decide) (by decide) ?_
                refine r_iload 216 dX11_level_214 rfl rfl ?_
                have hS : fStd (c 51) s (sp : Int) = false := by
                  unfold fStd
                  rw [Int.toNat_natCast]
                  first
                    | (rw [decide_eq_false (show ¬ 0 < c 51 12 sp by omega)]; rfl)
                    | (rw [decide_eq_false (show ¬ c 51 21 s % c 51 12 sp = 0 by omega), Bool.and_false])
                refine r_ret dX11_level_216 rfl (k _ ?_)
                unfold fLvl
                rw [y2, if_neg (by decide)]
                rw [if_neg (by unfold fRaw; (repeat' split) <;> omega), hS]
                unfold fRaw
                simp only [Bool.false_eq_true, if_false, if_true, and_true, and_false]
                (repeat' split) <;> omega
              · refine r_iinc4 197 dX11_level_194 rfl rfl (by decide) ?_
                refine r_iload 199 dX11_level_197 rfl rfl ?_
                refine r_ifeqT 214 0 dX11_level_199 (by decide) (by decide) (by decide) ?_
                refine r_iload 216 dX11_level_214 rfl rfl ?_
                have hS : fStd (c 51) s (sp : Int) = false := by
                  unfold fStd
                  rw [Int.toNat_natCast]
                  first
                    | (rw [decide_eq_false (show ¬ 0 < c 51 12 sp by omega)]; rfl)
                    | (rw [decide_eq_false (show ¬ c 51 21 s % c 51 12 sp = 0 by omega), Bool.and_false])
                refine r_ret dX11_level_216 rfl (k _ ?_)
                unfold fLvl
                rw [y2, if_neg (by decide)]
                rw [if_neg (by unfold fRaw; (repeat' split) <;> omega), hS]
                unfold fRaw
                simp only [Bool.false_eq_true, if_false, if_true, and_true, and_false]
                (repeat' split) <;> omega
          · refine r_aloadN 140 dX11_level_139 rfl rfl ?_
            refine r_getq 143 dX11_level_140 rfl fX11_50 (by decide) (sh_50 z _) rfl ?_
            refine r_iloadN 144 dX11_level_143 rfl rfl ?_
            refine r_iald (n := 14) 145 dX11_level_144 (s) rfl rfl (by decide) (sh_51 z _) (by decide) (by omega) (by omega) ?_
            refine r_aloadN 146 dX11_level_145 rfl rfl ?_
            refine r_getq 149 dX11_level_146 rfl fX11_23 (by decide) (sh_50 z _) rfl ?_
            refine r_iloadN 150 dX11_level_149 rfl rfl ?_
            refine r_iald (n := 64) 151 dX11_level_150 (sp) rfl rfl (by decide) (sh_51 z _) (by decide) (by omega) (by omega) ?_
            have hm1 := Int.emod_nonneg (c 51 21 s) (show c 51 12 sp ≠ 0 by omega)
            have hm2 := Int.emod_lt_of_pos (c 51 21 s) (show 0 < c 51 12 sp by omega)
            refine r_irem 152 dX11_level_151 rfl (by omega) (by omega) ?_
            refine r_ifne 159 155 dX11_level_152 rfl (by decide) (by omega) (fun h152 => ?_) (fun h152 => ?_)
            · refine r_iconst 160 dX11_level_159 rfl ?_
              refine r_istore5 162 dX11_level_160 rfl rfl (by decide) ?_
              refine r_aloadN 163 dX11_level_162 rfl rfl ?_
              refine r_getq 166 dX11_level_163 rfl fX11_44 (by decide) (sh_50 z _) rfl ?_
              refine r_iloadN 167 dX11_level_166 rfl rfl ?_
              refine r_iald (n := 14) 168 dX11_level_167 (s) rfl rfl (by decide) (sh_51 z _) (by decide) (by omega) (by omega) ?_
              refine r_iconst 169 dX11_level_168 rfl ?_
              refine r_icne 183 172 dX11_level_169 rfl (by decide) (by omega) (by omega) (fun h169 => ?_) (fun h169 => ?_)
              · refine r_aloadN 184 dX11_level_183 rfl rfl ?_
                refine r_getq 187 dX11_level_184 rfl fX11_44 (by decide) (sh_50 z _) rfl ?_
                refine r_iloadN 188 dX11_level_187 rfl rfl ?_
                refine r_iald (n := 14) 189 dX11_level_188 (s) rfl rfl (by decide) (sh_51 z _) (by decide) (by omega) (by omega) ?_
                refine r_bipush 191 dX11_level_189 rfl (by decide) ?_
                refine r_icne 197 194 dX11_level_191 rfl (by decide) (by omega) (by omega) (fun h191 => ?_) (fun h191 => ?_)
                · refine r_iload 199 dX11_level_197 rfl rfl ?_
                  refine r_ifeqT 214 0 dX11_level_199 (by decide) (by decide) (by decide) ?_
                  refine r_iload 216 dX11_level_214 rfl rfl ?_
                  have hS : fStd (c 51) s (sp : Int) = false := by
                    unfold fStd
                    rw [Int.toNat_natCast]
                    first
                      | (rw [decide_eq_false (show ¬ 0 < c 51 12 sp by omega)]; rfl)
                      | (rw [decide_eq_false (show ¬ c 51 21 s % c 51 12 sp = 0 by omega), Bool.and_false])
                  refine r_ret dX11_level_216 rfl (k _ ?_)
                  unfold fLvl
                  rw [y2, if_neg (by decide)]
                  rw [if_neg (by unfold fRaw; (repeat' split) <;> omega), hS]
                  unfold fRaw
                  simp only [Bool.false_eq_true, if_false, if_true, and_true, and_false]
                  (repeat' split) <;> omega
                · refine r_iinc4 197 dX11_level_194 rfl rfl (by decide) ?_
                  refine r_iload 199 dX11_level_197 rfl rfl ?_
                  refine r_ifeqT 214 0 dX11_level_199 (by decide) (by decide) (by decide) ?_
                  refine r_iload 216 dX11_level_214 rfl rfl ?_
                  have hS : fStd (c 51) s (sp : Int) = false := by
                    unfold fStd
                    rw [Int.toNat_natCast]
                    first
                      | (rw [decide_eq_false (show ¬ 0 < c 51 12 sp by omega)]; rfl)
                      | (rw [decide_eq_false (show ¬ c 51 21 s % c 51 12 sp = 0 by omega), Bool.and_false])
                  refine r_ret dX11_level_216 rfl (k _ ?_)
                  unfold fLvl
                  rw [y2, if_neg (by decide)]
                  rw [if_neg (by unfold fRaw; (repeat' split) <;> omega), hS]
                  unfold fRaw
                  simp only [Bool.false_eq_true, if_false, if_true, and_true, and_false]
                  (repeat' split) <;> omega
              · refine r_iload 174 dX11_level_172 rfl rfl ?_
                refine r_ifeqT 183 0 dX11_level_174 (by decide) (by decide) (by decide) ?_
                refine r_aloadN 184 dX11_level_183 rfl rfl ?_
                refine r_getq 187 dX11_level_184 rfl fX11_44 (by decide) (sh_50 z _) rfl ?_
                refine r_iloadN 188 dX11_level_187 rfl rfl ?_
                refine r_iald (n := 14) 189 dX11_level_188 (s) rfl rfl (by decide) (sh_51 z _) (by decide) (by omega) (by omega) ?_
                refine r_bipush 191 dX11_level_189 rfl (by decide) ?_
                refine r_icne 197 194 dX11_level_191 rfl (by decide) (by omega) (by omega) (fun h191 => ?_) (fun h191 => ?_)
                · refine r_iload 199 dX11_level_197 rfl rfl ?_
                  refine r_ifeqT 214 0 dX11_level_199 (by decide) (by decide) (by decide) ?_
                  refine r_iload 216 dX11_level_214 rfl rfl ?_
                  have hS : fStd (c 51) s (sp : Int) = false := by
                    unfold fStd
                    rw [Int.toNat_natCast]
                    first
                      | (rw [decide_eq_false (show ¬ 0 < c 51 12 sp by omega)]; rfl)
                      | (rw [decide_eq_false (show ¬ c 51 21 s % c 51 12 sp = 0 by omega), Bool.and_false])
                  refine r_ret dX11_level_216 rfl (k _ ?_)
                  unfold fLvl
                  rw [y2, if_neg (by decide)]
                  rw [if_neg (by unfold fRaw; (repeat' split) <;> omega), hS]
                  unfold fRaw
                  simp only [Bool.false_eq_true, if_false, if_true, and_true, and_false]
                  (repeat' split) <;> omega
                · refine r_iinc4 197 dX11_level_194 rfl rfl (by decide) ?_
                  refine r_iload 199 dX11_level_197 rfl rfl ?_
                  refine r_ifeqT 214 0 dX11_level_199 (by decide) (by decide) (by decide) ?_
                  refine r_iload 216 dX11_level_214 rfl rfl ?_
                  have hS : fStd (c 51) s (sp : Int) = false := by
                    unfold fStd
                    rw [Int.toNat_natCast]
                    first
                      | (rw [decide_eq_false (show ¬ 0 < c 51 12 sp by omega)]; rfl)
                      | (rw [decide_eq_false (show ¬ c 51 21 s % c 51 12 sp = 0 by omega), Bool.and_false])
                  refine r_ret dX11_level_216 rfl (k _ ?_)
                  unfold fLvl
                  rw [y2, if_neg (by decide)]
                  rw [if_neg (by unfold fRaw; (repeat' split) <;> omega), hS]
                  unfold fRaw
                  simp only [Bool.false_eq_true, if_false, if_true, and_true, and_false]
                  (repeat' split) <;> omega
            · refine r_iconst 156 dX11_level_155 rfl ?_
              refine r_goto 160 dX11_level_156 (by decide) ?_
              refine r_istore5 162 dX11_level_160 rfl rfl (by decide) ?_
              refine r_aloadN 163 dX11_level_162 rfl rfl ?_
              refine r_getq 166 dX11_level_163 rfl fX11_44 (by decide) (sh_50 z _) rfl ?_
              refine r_iloadN 167 dX11_level_166 rfl rfl ?_
              refine r_iald (n := 14) 168 dX11_level_167 (s) rfl rfl (by decide) (sh_51 z _) (by decide) (by omega) (by omega) ?_
              refine r_iconst 169 dX11_level_168 rfl ?_
              refine r_icne 183 172 dX11_level_169 rfl (by decide) (by omega) (by omega) (fun h169 => ?_) (fun h169 => ?_)
              · refine r_aloadN 184 dX11_level_183 rfl rfl ?_
                refine r_getq 187 dX11_level_184 rfl fX11_44 (by decide) (sh_50 z _) rfl ?_
                refine r_iloadN 188 dX11_level_187 rfl rfl ?_
                refine r_iald (n := 14) 189 dX11_level_188 (s) rfl rfl (by decide) (sh_51 z _) (by decide) (by omega) (by omega) ?_
                refine r_bipush 191 dX11_level_189 rfl (by decide) ?_
                refine r_icne 197 194 dX11_level_191 rfl (by decide) (by omega) (by omega) (fun h191 => ?_) (fun h191 => ?_)
                · refine r_iload 199 dX11_level_197 rfl rfl ?_
                  refine r_ifeqF 202 dX11_level_199 rfl 214 (by decide) (by decide) (by decide) ?_
                  refine r_iload 204 dX11_level_202 rfl rfl ?_
                  refine r_aloadN 205 dX11_level_204 rfl rfl ?_
                  refine r_getq 208 dX11_level_205 rfl fX11_20 (by decide) (sh_50 z _) rfl ?_
                  refine r_iconst 209 dX11_level_208 rfl ?_
                  refine r_iald (n := 6) 210 dX11_level_209 (1) rfl rfl (by decide) (sh_51 z _) (by decide) (by omega) (by omega) ?_
                  refine r_iadd 211 dX11_level_210 rfl ?_
                  refine r_goto 216 dX11_level_211 (by decide) ?_
                  have hS : fStd (c 51) s (sp : Int) = true := by
                    unfold fStd
                    rw [Int.toNat_natCast, decide_eq_true (show 0 < c 51 12 sp by omega), decide_eq_true (show c 51 21 s % c 51 12 sp = 0 by omega)]
                    rfl
                  refine r_ret dX11_level_216 rfl (k _ ?_)
                  unfold fLvl
                  rw [y2, if_neg (by decide)]
                  rw [if_neg (by unfold fRaw; (repeat' split) <;> omega), hS]
                  unfold fRaw
                  simp only [Bool.false_eq_true, if_false, if_true, and_true, and_false]
                  (repeat' split) <;> omega
                · refine r_iinc4 197 dX11_level_194 rfl rfl (by decide) ?_
                  refine r_iload 199 dX11_level_197 rfl rfl ?_
                  refine r_ifeqF 202 dX11_level_199 rfl 214 (by decide) (by decide) (by decide) ?_
                  refine r_iload 204 dX11_level_202 rfl rfl ?_
                  refine r_aloadN 205 dX11_level_204 rfl rfl ?_
                  refine r_getq 208 dX11_level_205 rfl fX11_20 (by decide) (sh_50 z _) rfl ?_
                  refine r_iconst 209 dX11_level_208 rfl ?_
                  refine r_iald (n := 6) 210 dX11_level_209 (1) rfl rfl (by decide) (sh_51 z _) (by decide) (by omega) (by omega) ?_
                  refine r_iadd 211 dX11_level_210 rfl ?_
                  refine r_goto 216 dX11_level_211 (by decide) ?_
                  have hS : fStd (c 51) s (sp : Int) = true := by
                    unfold fStd
                    rw [Int.toNat_natCast, decide_eq_true (show 0 < c 51 12 sp by omega), decide_eq_true (show c 51 21 s % c 51 12 sp = 0 by omega)]
                    rfl
                  refine r_ret dX11_level_216 rfl (k _ ?_)
                  unfold fLvl
                  rw [y2, if_neg (by decide)]
                  rw [if_neg (by unfold fRaw; (repeat' split) <;> omega), hS]
                  unfold fRaw
                  simp only [Bool.false_eq_true, if_false, if_true, and_true, and_false]
                  (repeat' split) <;> omega
              · refine r_iload 174 dX11_level_172 rfl rfl ?_
                refine r_ifeqF 177 dX11_level_174 rfl 183 (by decide) (by decide) (by decide) ?_
                refine r_iload 179 dX11_level_177 rfl rfl ?_
                refine r_iconst 180 dX11_level_179 rfl ?_
                refine r_imul 181 dX11_level_180 rfl ?_
                refine r_istore4 183 dX11_level_181 rfl rfl (by decide) ?_
                refine r_aloadN 184 dX11_level_183 rfl rfl ?_
                refine r_getq 187 dX11_level_184 rfl fX11_44 (by decide) (sh_50 z _) rfl ?_
                refine r_iloadN 188 dX11_level_187 rfl rfl ?_
                refine r_iald (n := 14) 189 dX11_level_188 (s) rfl rfl (by decide) (sh_51 z _) (by decide) (by omega) (by omega) ?_
                refine r_bipush 191 dX11_level_189 rfl (by decide) ?_
                refine r_icne 197 194 dX11_level_191 rfl (by decide) (by omega) (by omega) (fun h191 => ?_) (fun h191 => ?_)
                · refine r_iload 199 dX11_level_197 rfl rfl ?_
                  refine r_ifeqF 202 dX11_level_199 rfl 214 (by decide) (by decide) (by decide) ?_
                  refine r_iload 204 dX11_level_202 rfl rfl ?_
                  refine r_aloadN 205 dX11_level_204 rfl rfl ?_
                  refine r_getq 208 dX11_level_205 rfl fX11_20 (by decide) (sh_50 z _) rfl ?_
                  refine r_iconst 209 dX11_level_208 rfl ?_
                  refine r_iald (n := 6) 210 dX11_level_209 (1) rfl rfl (by decide) (sh_51 z _) (by decide) (by omega) (by omega) ?_
                  refine r_iadd 211 dX11_level_210 rfl ?_
                  refine r_goto 216 dX11_level_211 (by decide) ?_
                  have hS : fStd (c 51) s (sp : Int) = true := by
                    unfold fStd
                    rw [Int.toNat_natCast, decide_eq_true (show 0 < c 51 12 sp by omega), decide_eq_true (show c 51 21 s % c 51 12 sp = 0 by omega)]
                    rfl
                  refine r_ret dX11_level_216 rfl (k _ ?_)
                  unfold fLvl
                  rw [y2, if_neg (by decide)]
                  rw [if_neg (by unfold fRaw; (repeat' split) <;> omega), hS]
                  unfold fRaw
                  simp only [Bool.false_eq_true, if_false, if_true, and_true, and_false]
                  (repeat' split) <;> omega
                · refine r_iinc4 197 dX11_level_194 rfl rfl (by decide) ?_
                  refine r_iload 199 dX11_level_197 rfl rfl ?_
                  refine r_ifeqF 202 dX11_level_199 rfl 214 (by decide) (by decide) (by decide) ?_
                  refine r_iload 204 dX11_level_202 rfl rfl ?_
                  refine r_aloadN 205 dX11_level_204 rfl rfl ?_
                  refine r_getq 208 dX11_level_205 rfl fX11_20 (by decide) (sh_50 z _) rfl ?_
                  refine r_iconst 209 dX11_level_208 rfl ?_
                  refine r_iald (n := 6) 210 dX11_level_209 (1) rfl rfl (by decide) (sh_51 z _) (by decide) (by omega) (by omega) ?_
                  refine r_iadd 211 dX11_level_210 rfl ?_
                  refine r_goto 216 dX11_level_211 (by decide) ?_
                  have hS : fStd (c 51) s (sp : Int) = true := by
                    unfold fStd
                    rw [Int.toNat_natCast, decide_eq_true (show 0 < c 51 12 sp by omega), decide_eq_true (show c 51 21 s % c 51 12 sp = 0 by omega)]
                    rfl
                  refine r_ret dX11_level_216 rfl (k _ ?_)
                  unfold fLvl
                  rw [y2, if_neg (by decide)]
                  rw [if_neg (by unfold fRaw; (repeat' split) <;> omega), hS]
                  unfold fRaw
                  simp only [Bool.false_eq_true, if_false, if_true, and_true, and_false]
                  (repeat' split) <;> omega
        · refine r_iconst 129 dX11_level_128 rfl ?_
          refine r_ret dX11_level_129 rfl (k _ ?_)
          unfold fLvl
          rw [y2, if_neg (by decide)]
          rw [if_pos (by unfold fRaw; (repeat' split) <;> omega)]
theorem m_need {z : xZ} {d : Nat} {Q : tQ} {c : tC} {L : tL} {n p : Nat} {t : Int} (hR : RX c) (hn : c 50 0 2 = (n : Int)) (hp : (p : Int) < c 50 0 1) (ht : 0 ≤ t ∧ t ≤ 99) (k : ∀ r, r = fNeed (c 51) p t → Q (some (.int (iI r))) c L) : En z (d + 2) MX11_need Q 0 [some (.ref (xad z 50 0)), some (.int (iI (p : Int))), some (.int (iI t))] [] c L := by
  have hg := R0_rng hR
  have hc := R0_scal hR
  have hpp := R0_per hR p hp
  refine r_aloadN 1 dX11_need_0 rfl rfl ?_
  refine r_getq 4 dX11_need_1 rfl fX11_35 (by decide) (sh_50 z _) rfl ?_
  refine r_iloadN 5 dX11_need_4 rfl rfl ?_
  refine r_iald (n := 12) 6 dX11_need_5 (p) rfl rfl (by decide) (sh_51 z _) (by decide) (by omega) (by omega) ?_
  refine r_aloadN 7 dX11_need_6 rfl rfl ?_
  refine r_getq 10 dX11_need_7 rfl fX11_38 (by decide) (sh_50 z _) rfl ?_
  refine r_iloadN 11 dX11_need_10 rfl rfl ?_
  refine r_iald (n := 12) 12 dX11_need_11 (p) rfl rfl (by decide) (sh_51 z _) (by decide) (by omega) (by omega) ?_
  refine r_aloadN 13 dX11_need_12 rfl rfl ?_
  refine r_aloadN 14 dX11_need_13 rfl rfl ?_
  refine r_getq 17 dX11_need_14 rfl fX11_32 (by decide) (sh_50 z _) rfl ?_
  refine r_iloadN 18 dX11_need_17 rfl rfl ?_
  refine r_iald (n := 12) 19 dX11_need_18 (p) rfl rfl (by decide) (sh_51 z _) (by decide) (by omega) (by omega) ?_
  refine r_iloadN 20 dX11_need_19 rfl rfl ?_
  refine r_cv2 23 dX11_need_20 rfl gX11_266 rfl (by decide) (sh_50 z _) rfl rfl (Nat.le_of_ble_eq_true rfl) (Nat.le_of_ble_eq_true rfl) rfl ?_
  refine m_apart (by omega) (by omega) (fun r20 e20 => ?_)
  refine r_imul 24 dX11_need_23 rfl ?_
  refine r_iadd 25 dX11_need_24 rfl ?_
  refine r_ret dX11_need_25 rfl (k _ ?_)
  rw [e20]
  rfl
theorem m_couldHear {z : xZ} {d : Nat} {Q : tQ} {c : tC} {L : tL} {n s p sp : Nat} (hR : RX c) (hn : c 50 0 2 = (n : Int)) (hs : s < n) (hsp : sp < 64) (hp : (p : Int) < c 50 0 1) (k1 : fHear (c 51) p s (sp : Int) = true → Q (some (.int (iI 1))) c L) (k0 : fHear (c 51) p s (sp : Int) = false → Q (some (.int (iI 0))) c L) : En z (d + 3) MX11_couldHear Q 0 [some (.ref (xad z 50 0)), some (.int (iI (p : Int))), some (.int (iI (s : Int))), some (.int (iI (sp : Int))), none] [] c L := by
  have hg := R0_rng hR
  have hc := R0_scal hR
  have hq := R0_src hR s (by omega)
  have hpp := R0_per hR p hp
  have hlv := fLvl_bd hR hn hs hsp
  have hnd := fNeed_bd hR hp (t := c 51 21 s) (by omega)
  refine r_aloadN 1 dX11_couldHear_0 rfl rfl ?_
  refine r_getq 4 dX11_couldHear_1 rfl fX11_44 (by decide) (sh_50 z _) rfl ?_
  refine r_iloadN 5 dX11_couldHear_4 rfl rfl ?_
  refine r_iald (n := 14) 6 dX11_couldHear_5 (s) rfl rfl (by decide) (sh_51 z _) (by decide) (by omega) (by omega) ?_
  refine r_iconst 7 dX11_couldHear_6 rfl ?_
  refine r_icne 26 10 dX11_couldHear_7 rfl (by decide) (by omega) (by omega) (fun h7 => ?_) (fun h7 => ?_)
  · refine r_aloadN 27 dX11_couldHear_26 rfl rfl ?_
    refine r_getq 30 dX11_couldHear_27 rfl fX11_44 (by decide) (sh_50 z _) rfl ?_
    refine r_iloadN 31 dX11_couldHear_30 rfl rfl ?_
    refine r_iald (n := 14) 32 dX11_couldHear_31 (s) rfl rfl (by decide) (sh_51 z _) (by decide) (by omega) (by omega) ?_
    refine r_iconst 33 dX11_couldHear_32 rfl ?_
    refine r_icne 52 36 dX11_couldHear_33 rfl (by decide) (by omega) (by omega) (fun h33 => ?_) (fun h33 => ?_)
    · refine r_aloadN 53 dX11_couldHear_52 rfl rfl ?_
      refine r_iloadN 54 dX11_couldHear_53 rfl rfl ?_
      refine r_iloadN 55 dX11_couldHear_54 rfl rfl ?_
      refine r_cv2 58 dX11_couldHear_55 rfl gX11_282 rfl (by decide) (sh_50 z _) rfl rfl (Nat.le_of_ble_eq_true rfl) (Nat.le_of_ble_eq_true rfl) rfl ?_
      refine m_level hR hn hs hsp (fun r55 e55 => ?_)
      refine r_istore4 60 dX11_couldHear_58 rfl rfl (by decide) ?_
      refine r_iload 62 dX11_couldHear_60 rfl rfl ?_
      refine r_ifle 85 65 dX11_couldHear_62 rfl (by decide) (by omega) (fun h62 => ?_) (fun h62 => ?_)
      · refine r_iconst 86 dX11_couldHear_85 rfl ?_
        refine r_zret dX11_couldHear_86 rfl (by decide) (k0 ?_)
        unfold fHear
        rw [if_neg (by omega), if_neg (by omega)]
        exact decide_eq_false (by omega)
      · refine r_iload 67 dX11_couldHear_65 rfl rfl ?_
        refine r_aloadN 68 dX11_couldHear_67 rfl rfl ?_
        refine r_iloadN 69 dX11_couldHear_68 rfl rfl ?_
        refine r_aloadN 70 dX11_couldHear_69 rfl rfl ?_
        refine r_getq 73 dX11_couldHear_70 rfl fX11_50 (by decide) (sh_50 z _) rfl ?_
        refine r_iloadN 74 dX11_couldHear_73 rfl rfl ?_
        refine r_iald (n := 14) 75 dX11_couldHear_74 (s) rfl rfl (by decide) (sh_51 z _) (by decide) (by omega) (by omega) ?_
        refine r_cv2 78 dX11_couldHear_75 rfl gX11_285 rfl (by decide) (sh_50 z _) rfl rfl (Nat.le_of_ble_eq_true rfl) (Nat.le_of_ble_eq_true rfl) rfl ?_
        refine m_need hR hn hp (by omega) (fun r75 e75 => ?_)
        refine r_iclt 85 81 dX11_couldHear_78 rfl (by decide) (by omega) (by omega) (fun h78 => ?_) (fun h78 => ?_)
        · refine r_iconst 86 dX11_couldHear_85 rfl ?_
          refine r_zret dX11_couldHear_86 rfl (by decide) (k0 ?_)
          unfold fHear
          rw [if_neg (by omega), if_neg (by omega)]
          exact decide_eq_false (by omega)
        · refine r_iconst 82 dX11_couldHear_81 rfl ?_
          refine r_goto 86 dX11_couldHear_82 (by decide) ?_
          refine r_zret dX11_couldHear_86 rfl (by decide) (k1 ?_)
          unfold fHear
          rw [if_neg (by omega), if_neg (by omega)]
          exact decide_eq_true (by omega)
    · refine r_aloadN 37 dX11_couldHear_36 rfl rfl ?_
      refine r_getq 40 dX11_couldHear_37 rfl fX11_41 (by decide) (sh_50 z _) rfl ?_
      refine r_iloadN 41 dX11_couldHear_40 rfl rfl ?_
      refine r_iald (n := 12) 42 dX11_couldHear_41 (p) rfl rfl (by decide) (sh_51 z _) (by decide) (by omega) (by omega) ?_
      refine r_iconst 43 dX11_couldHear_42 rfl ?_
      refine r_icne 50 46 dX11_couldHear_43 rfl (by decide) (by omega) (by omega) (fun h43 => ?_) (fun h43 => ?_)
      · refine r_iconst 51 dX11_couldHear_50 rfl ?_
        refine r_zret dX11_couldHear_51 rfl (by decide) (k0 ?_)
        unfold fHear
        rw [if_neg (by omega), if_pos (by omega)]
        exact decide_eq_false (by omega)
      · refine r_iconst 47 dX11_couldHear_46 rfl ?_
        refine r_goto 51 dX11_couldHear_47 (by decide) ?_
        refine r_zret dX11_couldHear_51 rfl (by decide) (k1 ?_)
        unfold fHear
        rw [if_neg (by omega), if_pos (by omega)]
        exact decide_eq_true (by omega)
  · refine r_aloadN 11 dX11_couldHear_10 rfl rfl ?_
    refine r_getq 14 dX11_couldHear_11 rfl fX11_47 (by decide) (sh_50 z _) rfl ?_
    refine r_iloadN 15 dX11_couldHear_14 rfl rfl ?_
    refine r_iald (n := 14) 16 dX11_couldHear_15 (s) rfl rfl (by decide) (sh_51 z _) (by decide) (by omega) (by omega) ?_
    refine r_iloadN 17 dX11_couldHear_16 rfl rfl ?_
    refine r_icne 24 20 dX11_couldHear_17 rfl (by decide) (by omega) (by omega) (fun h17 => ?_) (fun h17 => ?_)
    · refine r_iconst 25 dX11_couldHear_24 rfl ?_
      refine r_zret dX11_couldHear_25 rfl (by decide) (k0 ?_)
      unfold fHear
      rw [if_pos (by omega)]
      exact decide_eq_false (by omega)
    · refine r_iconst 21 dX11_couldHear_20 rfl ?_
      refine r_goto 25 dX11_couldHear_21 (by decide) ?_
      refine r_zret dX11_couldHear_25 rfl (by decide) (k1 ?_)
      unfold fHear
      rw [if_pos (by omega)]
      exact decide_eq_true (by omega)
theorem m_isHearing {z : xZ} {d : Nat} {Q : tQ} {c : tC} {L : tL} {n s p sp : Nat} {h : Int} (hR : RX c) (hn : c 50 0 2 = (n : Int)) (hs : s < n) (hsp : sp < 64) (hp : (p : Int) < c 50 0 1) (hh : 0 ≤ h ∧ h ≤ 239) (k1 : (fHear (c 51) p s (sp : Int) && fSnd (c 50 0) (c 51) s h) = true → Q (some (.int (iI 1))) c L) (k0 : (fHear (c 51) p s (sp : Int) && fSnd (c 50 0) (c 51) s h) = false → Q (some (.int (iI 0))) c L) : En z (d + 5) MX11_isHearing Q 0 [some (.ref (xad z 50 0)), some (.int (iI (p : Int))), some (.int (iI (s : Int))), some (.int (iI (sp : Int))), some (.int (iI h))] [] c L := by
  have hg := R0_rng hR
  have hc := R0_scal hR
  refine r_aloadN 1 dX11_isHearing_0 rfl rfl ?_
  refine r_iloadN 2 dX11_isHearing_1 rfl rfl ?_
  refine r_iloadN 3 dX11_isHearing_2 rfl rfl ?_
  refine r_iloadN 4 dX11_isHearing_3 rfl rfl ?_
  refine r_cv3 7 dX11_isHearing_4 rfl gX11_288 rfl (by decide) (sh_50 z _) rfl rfl (Nat.le_of_ble_eq_true rfl) (Nat.le_of_ble_eq_true rfl) rfl ?_
  refine m_couldHear hR hn (by omega) (by omega) hp (fun y4 => ?_) (fun y4 => ?_)
  · refine r_ifeqF 10 dX11_isHearing_7 rfl 24 (by decide) (by decide) (by decide) ?_
    refine r_aloadN 11 dX11_isHearing_10 rfl rfl ?_
    refine r_iloadN 12 dX11_isHearing_11 rfl rfl ?_
    refine r_iload 14 dX11_isHearing_12 rfl rfl ?_
    refine r_cv2 17 dX11_isHearing_14 rfl gX11_292 rfl (by decide) (sh_50 z _) rfl rfl (Nat.le_of_ble_eq_true rfl) (Nat.le_of_ble_eq_true rfl) rfl ?_
    refine m_isSounding hR hn (by omega) hh (fun y14 => ?_) (fun y14 => ?_)
    · refine r_ifeqF 20 dX11_isHearing_17 rfl 24 (by decide) (by decide) (by decide) ?_
      refine r_iconst 21 dX11_isHearing_20 rfl ?_
      refine r_goto 25 dX11_isHearing_21 (by decide) ?_
      refine r_zret dX11_isHearing_25 rfl (by decide) (k1 ?_)
      first
        | (rw [y4, y14]; rfl)
        | (rw [y4]; rfl)
    · refine r_ifeqT 24 0 dX11_isHearing_17 (by decide) (by decide) (by decide) ?_
      refine r_iconst 25 dX11_isHearing_24 rfl ?_
      refine r_zret dX11_isHearing_25 rfl (by decide) (k0 ?_)
      first
        | (rw [y4, y14]; rfl)
        | (rw [y4]; rfl)
  · refine r_ifeqT 24 0 dX11_isHearing_7 (by decide) (by decide) (by decide) ?_
    refine r_iconst 25 dX11_isHearing_24 rfl ?_
    refine r_zret dX11_isHearing_25 rfl (by decide) (k0 ?_)
    first
      | (rw [y4, y14]; rfl)
      | (rw [y4]; rfl)
theorem m_heard_loop {z : xZ} {d : Nat} {Q : tQ} {c : tC} {L : tL} {n p sp : Nat} {h : Int} (hR : RX c) (hn : c 50 0 2 = (n : Int)) (hsp : sp < 64) (hp : (p : Int) < c 50 0 1) (hh : 0 ≤ h ∧ h ≤ 239) (kk : ∀ r, r = ((mkN (fun s => fHear (c 51) p s (sp : Int) && fSnd (c 50 0) (c 51) s h) n : Nat) : Int) → Q (some (.int (iI r))) c L) : ∀ (k i : Nat) (m : Int), i + k = n → m = ((mkN (fun s => fHear (c 51) p s (sp : Int) && fSnd (c 50 0) (c 51) s h) i : Nat) : Int) → En z (d + 6) MX11_heard Q 6 [some (.ref (xad z 50 0)), some (.int (iI (p : Int))), some (.int (iI (sp : Int))), some (.int (iI h)), some (.int (iI m)), some (.int (iI (i : Int)))] [] c L := by
  have hg := R0_rng hR
  have hc := R0_scal hR
  intro k
  induction k with
  | zero =>
    intro i m hi hm
    refine r_iload 8 dX11_heard_6 rfl rfl ?_
    refine r_aloadN 9 dX11_heard_8 rfl rfl ?_
    refine r_geti 12 dX11_heard_9 rfl fX11_174 (by decide) (sh_50 z _) rfl ?_
    refine r_icge 42 15 dX11_heard_12 rfl (by decide) (by omega) (by omega) (fun h12 => ?_) (fun h12 => ?_)
    · refine r_iload 44 dX11_heard_42 rfl rfl ?_
      refine r_ret dX11_heard_44 rfl (kk _ ?_)
      rw [hm, show i = n by omega]
    · exfalso; omega
  | succ k ih =>
    intro i m hi hm
    refine r_iload 8 dX11_heard_6 rfl rfl ?_
    refine r_aloadN 9 dX11_heard_8 rfl rfl ?_
    refine r_geti 12 dX11_heard_9 rfl fX11_174 (by decide) (sh_50 z _) rfl ?_
    refine r_icge 42 15 dX11_heard_12 rfl (by decide) (by omega) (by omega) (fun h12 => ?_) (fun h12 => ?_)
    · exfalso; omega
    · refine r_aloadN 16 dX11_heard_15 rfl rfl ?_
      refine r_iloadN 17 dX11_heard_16 rfl rfl ?_
      refine r_iload 19 dX11_heard_17 rfl rfl ?_
      refine r_iloadN 20 dX11_heard_19 rfl rfl ?_
      refine r_iloadN 21 dX11_heard_20 rfl rfl ?_
      refine r_cv4 24 dX11_heard_21 rfl gX11_295 rfl (by decide) (sh_50 z _) rfl rfl (Nat.le_of_ble_eq_true rfl) (Nat.le_of_ble_eq_true rfl) rfl ?_
      refine m_isHearing hR hn (by omega) hsp hp hh (fun y21 => ?_) (fun y21 => ?_)
      · refine r_ifeqF 27 dX11_heard_24 rfl 36 (by decide) (by decide) (by decide) ?_
        refine r_iload 29 dX11_heard_27 rfl rfl ?_
        refine r_iconst 30 dX11_heard_29 rfl ?_
        refine r_iload 32 dX11_heard_30 rfl rfl ?_
        refine r_ishl 33 dX11_heard_32 rfl ?_
        rw [ishl_one i (by omega)]
        refine r_ior 34 dX11_heard_33 rfl ?_
        refine r_istore4 36 dX11_heard_34 rfl rfl (by decide) ?_
        refine r_iinc5 39 dX11_heard_36 rfl rfl (by decide) ?_
        refine r_goto 6 dX11_heard_39 (by decide) ?_
        refine ih (i + 1) _ (by omega) ?_
        first
          | exact ior_step (by omega) hm y21
          | exact mkN_skip hm y21
      · refine r_ifeqT 36 0 dX11_heard_24 (by decide) (by decide) (by decide) ?_
        refine r_iinc5 39 dX11_heard_36 rfl rfl (by decide) ?_
        refine r_goto 6 dX11_heard_39 (by decide) ?_
        refine ih (i + 1) _ (by omega) ?_
        first
          | exact ior_step (by omega) hm y21
          | exact mkN_skip hm y21
theorem m_heard {z : xZ} {d : Nat} {Q : tQ} {c : tC} {L : tL} {n p sp : Nat} {h : Int} (hR : RX c) (hn : c 50 0 2 = (n : Int)) (hsp : sp < 64) (hp : (p : Int) < c 50 0 1) (hh : 0 ≤ h ∧ h ≤ 239) (k : ∀ r, r = ((fHeard (c 50 0) (c 51) p (sp : Int) h : Nat) : Int) → Q (some (.int (iI r))) c L) : En z (d + 6) MX11_heard Q 0 [some (.ref (xad z 50 0)), some (.int (iI (p : Int))), some (.int (iI (sp : Int))), some (.int (iI h)), none, none] [] c L := by
  refine r_iconst 1 dX11_heard_0 rfl ?_
  refine r_istore4 3 dX11_heard_1 rfl rfl (by decide) ?_
  refine r_iconst 4 dX11_heard_3 rfl ?_
  refine r_istore5 6 dX11_heard_4 rfl rfl (by decide) ?_
  exact m_heard_loop hR hn hsp hp hh (fun r e => k r (by rw [e]; unfold fHeard; rw [hn, Int.toNat_natCast])) n 0 _ (by omega) rfl
