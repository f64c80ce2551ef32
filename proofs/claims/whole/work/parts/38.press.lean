abbrev uPrM (c : tC) (n : Nat) (m p h a v : Int) : tC := cu (cu (cu (cu (cu (cu (cu c 51 27 n p) 51 28 n h) 51 29 n a) 51 30 n v) 50 0 9 (m + 1)) 51 31 n m) 50 0 3 ((n : Int) + 1)
theorem m_pressed0 {z : xZ} {d : Nat} {Q : tQ} {c : tC} {L : tL} {n p : Nat} {h v m : Int} (h4 : c 50 0 3 = (n : Int)) (hn : n < 60) (hp : p < 12) (h9 : c 50 0 9 = m) (k : Q none (uPrM c n m p h (c 51 14 p) v) L) : En z (d + 1) MX11_pressed Q 0 [some (.ref (xad z 50 0)), some (.int (iI (p : Int))), some (.int (iI h)), some (.int (iI v))] [] c L := by
  refine r_aloadN 1 dX11_pressed_0 rfl rfl ?_
  refine r_getq 4 dX11_pressed_1 rfl fX11_68 (by decide) (sh_50 z _) rfl ?_
  refine r_aloadN 5 dX11_pressed_4 rfl rfl ?_
  refine r_geti 8 dX11_pressed_5 rfl fX11_303 (by decide) (sh_50 z _) rfl ?_
  rw [h4]
  refine r_iloadN 9 dX11_pressed_8 rfl rfl ?_
  refine r_iast (n := 60) 10 dX11_pressed_9 (n) rfl rfl (by decide) (sh_51 z _) (by decide) (by omega) (by omega) ?_
  refine r_aloadN 11 dX11_pressed_10 rfl rfl ?_
  refine r_getq 14 dX11_pressed_11 rfl fX11_71 (by decide) (sh_50 z _) rfl ?_
  refine r_aloadN 15 dX11_pressed_14 rfl rfl ?_
  refine r_geti 18 dX11_pressed_15 rfl fX11_303 (by decide) (sh_50 z _) rfl ?_
  (try simp only [cu_ap, Nat.reduceEqDiff, false_and, and_false, if_false, reduceIte])
  rw [h4]
  refine r_iloadN 19 dX11_pressed_18 rfl rfl ?_
  refine r_iast (n := 60) 20 dX11_pressed_19 (n) rfl rfl (by decide) (sh_51 z _) (by decide) (by omega) (by omega) ?_
  refine r_aloadN 21 dX11_pressed_20 rfl rfl ?_
  refine r_getq 24 dX11_pressed_21 rfl fX11_74 (by decide) (sh_50 z _) rfl ?_
  refine r_aloadN 25 dX11_pressed_24 rfl rfl ?_
  refine r_geti 28 dX11_pressed_25 rfl fX11_303 (by decide) (sh_50 z _) rfl ?_
  (try simp only [cu_ap, Nat.reduceEqDiff, false_and, and_false, if_false, reduceIte])
  rw [h4]
  refine r_aloadN 29 dX11_pressed_28 rfl rfl ?_
  refine r_getq 32 dX11_pressed_29 rfl fX11_29 (by decide) (sh_50 z _) rfl ?_
  refine r_iloadN 33 dX11_pressed_32 rfl rfl ?_
  refine r_iald (n := 12) 34 dX11_pressed_33 (p) rfl rfl (by decide) (sh_51 z _) (by decide) (by omega) (by omega) ?_
  (try simp only [cu_ap, Nat.reduceEqDiff, false_and, and_false, if_false, reduceIte])
  refine r_iast (n := 60) 35 dX11_pressed_34 (n) rfl rfl (by decide) (sh_51 z _) (by decide) (by omega) (by omega) ?_
  refine r_aloadN 36 dX11_pressed_35 rfl rfl ?_
  refine r_getq 39 dX11_pressed_36 rfl fX11_77 (by decide) (sh_50 z _) rfl ?_
  refine r_aloadN 40 dX11_pressed_39 rfl rfl ?_
  refine r_geti 43 dX11_pressed_40 rfl fX11_303 (by decide) (sh_50 z _) rfl ?_
  (try simp only [cu_ap, Nat.reduceEqDiff, false_and, and_false, if_false, reduceIte])
  rw [h4]
  refine r_iloadN 44 dX11_pressed_43 rfl rfl ?_
  refine r_iast (n := 60) 45 dX11_pressed_44 (n) rfl rfl (by decide) (sh_51 z _) (by decide) (by omega) (by omega) ?_
  refine r_aloadN 46 dX11_pressed_45 rfl rfl ?_
  refine r_getq 49 dX11_pressed_46 rfl fX11_80 (by decide) (sh_50 z _) rfl ?_
  refine r_aloadN 50 dX11_pressed_49 rfl rfl ?_
  refine r_geti 53 dX11_pressed_50 rfl fX11_303 (by decide) (sh_50 z _) rfl ?_
  (try simp only [cu_ap, Nat.reduceEqDiff, false_and, and_false, if_false, reduceIte])
  rw [h4]
  refine r_aloadN 54 dX11_pressed_53 rfl rfl ?_
  refine r_dupr 55 dX11_pressed_54 rfl ?_
  refine r_geti 58 dX11_pressed_55 rfl fX11_306 (by decide) (sh_50 z _) rfl ?_
  (try simp only [cu_ap, Nat.reduceEqDiff, false_and, and_false, if_false, reduceIte])
  rw [h9]
  refine r_dupx1 59 dX11_pressed_58 rfl ?_
  refine r_iconst 60 dX11_pressed_59 rfl ?_
  refine r_iadd 61 dX11_pressed_60 rfl ?_
  refine r_puti 64 dX11_pressed_61 rfl pX11_306 (by decide) (sh_50 z _) rfl ?_
  refine r_iast (n := 60) 65 dX11_pressed_64 (n) rfl rfl (by decide) (sh_51 z _) (by decide) (by omega) (by omega) ?_
  refine r_aloadN 66 dX11_pressed_65 rfl rfl ?_
  refine r_dupr 67 dX11_pressed_66 rfl ?_
  refine r_geti 70 dX11_pressed_67 rfl fX11_303 (by decide) (sh_50 z _) rfl ?_
  (try simp only [cu_ap, Nat.reduceEqDiff, false_and, and_false, if_false, reduceIte])
  rw [h4]
  refine r_iconst 71 dX11_pressed_70 rfl ?_
  refine r_iadd 72 dX11_pressed_71 rfl ?_
  refine r_puti 75 dX11_pressed_72 rfl pX11_303 (by decide) (sh_50 z _) rfl ?_
  exact r_vret dX11_pressed_75 rfl k
theorem m_press {z : xZ} {d : Nat} {Q : tQ} {c : tC} {L : tL} {p v : Int} {n : Nat} {m : Int} (hg : MG c) (hp : inR p) (hv : inR v) (h4 : c 50 0 3 = (n : Int)) (h9 : c 50 0 9 = m) (hv01 : v = 0 ∨ v = 1) (kb : ∀ r w, w ≠ 0 → (r, w) = gPress (c 50 0) p → Q (some (.int (iI r))) (mRe c w) L) (k : ∀ r, (r, 0) = gPress (c 50 0) p → Q (some (.int (iI r))) (uPrM c n m p (c 50 0 0) (c 51 14 p.toNat) v) L) : En z (d + 20) MX11_press Q 0 [some (.ref (xad z 50 0)), some (.int (iI p)), some (.int (iI v))] [] c L := by
  have p1 := hp.1
  have p2 := hp.2
  have v1 := hv.1
  have v2 := hv.2
  unfold MG RT_rng at hg
  refine r_aloadN 1 dX11_press_0 rfl rfl ?_
  refine r_iloadN 2 dX11_press_1 rfl rfl ?_
  refine r_cv1 5 dX11_press_2 rfl gX11_197 rfl (by decide) (sh_50 z _) rfl rfl (Nat.le_of_ble_eq_true rfl) (Nat.le_of_ble_eq_true rfl) rfl ?_
  refine m_isPer hg (by assumption) (fun y2 => ?_) (fun y2 => ?_)
  · refine r_ifneT 14 0 dX11_press_5 (by decide) (by decide) (by decide) ?_
    refine r_aloadN 15 dX11_press_14 rfl rfl ?_
    refine r_geti 18 dX11_press_15 rfl fX11_303 (by decide) (sh_50 z _) rfl ?_
    refine r_bipush 20 dX11_press_18 rfl (by decide) ?_
    refine r_icne 30 23 dX11_press_20 rfl (by decide) (by omega) (by omega) (fun h20 => ?_) (fun h20 => ?_)
    · obtain ⟨p0, hp00⟩ := Int.eq_ofNat_of_zero_le (show 0 ≤ p by omega)
      subst hp00
      refine r_aloadN 31 dX11_press_30 rfl rfl ?_
      refine r_iloadN 32 dX11_press_31 rfl rfl ?_
      refine r_aloadN 33 dX11_press_32 rfl rfl ?_
      refine r_geti 36 dX11_press_33 rfl fX11_200 (by decide) (sh_50 z _) rfl ?_
      refine r_iloadN 37 dX11_press_36 rfl rfl ?_
      refine r_ifeq 44 40 dX11_press_37 rfl (by decide) (by omega) (fun h37 => ?_) (fun h37 => ?_)
      · obtain rfl : v = 0 := by omega
        refine r_iconst 45 dX11_press_44 rfl ?_
        refine r_cv3 48 dX11_press_45 rfl gX11_309 rfl (by decide) (sh_50 z _) rfl rfl (Nat.le_of_ble_eq_true rfl) (Nat.le_of_ble_eq_true rfl) rfl ?_
        refine m_pressed0 (n := n) (p := p0) (m := m) h4 (by omega) (by omega) h9 ?_
        refine r_aloadN 49 dX11_press_48 rfl rfl ?_
        refine r_geti 52 dX11_press_49 rfl fX11_303 (by decide) (sh_50 z _) rfl ?_
        rw [show uPrM c n m p0 (c 50 0 0) (c 51 14 p0) _ 50 0 3 = (n : Int) + 1 from rfl]
        refine r_ret dX11_press_52 rfl (k _ ?_)
        unfold gPress
        rw [if_neg (by omega), if_neg (by omega), h4]
      · obtain rfl : v = 1 := by omega
        refine r_iconst 41 dX11_press_40 rfl ?_
        refine r_goto 45 dX11_press_41 (by decide) ?_
        refine r_cv3 48 dX11_press_45 rfl gX11_309 rfl (by decide) (sh_50 z _) rfl rfl (Nat.le_of_ble_eq_true rfl) (Nat.le_of_ble_eq_true rfl) rfl ?_
        refine m_pressed0 (n := n) (p := p0) (m := m) h4 (by omega) (by omega) h9 ?_
        refine r_aloadN 49 dX11_press_48 rfl rfl ?_
        refine r_geti 52 dX11_press_49 rfl fX11_303 (by decide) (sh_50 z _) rfl ?_
        rw [show uPrM c n m p0 (c 50 0 0) (c 51 14 p0) _ 50 0 3 = (n : Int) + 1 from rfl]
        refine r_ret dX11_press_52 rfl (k _ ?_)
        unfold gPress
        rw [if_neg (by omega), if_neg (by omega), h4]
    · refine r_aloadN 24 dX11_press_23 rfl rfl ?_
      refine r_bipush 26 dX11_press_24 rfl (by decide) ?_
      refine r_cv1 29 dX11_press_26 rfl gX11_184 rfl (by decide) (sh_50 z _) rfl rfl (Nat.le_of_ble_eq_true rfl) (Nat.le_of_ble_eq_true rfl) rfl ?_
      refine m_no (k0 := 7) (by decide) (by decide) ?_
      refine r_ret dX11_press_29 rfl (kb _ 7 (by decide) ?_)
      unfold gPress
      rw [if_neg (by omega), if_pos (by omega)]
  · refine r_ifneF 8 dX11_press_5 rfl 14 (by decide) (by decide) (by decide) ?_
    refine r_aloadN 9 dX11_press_8 rfl rfl ?_
    refine r_iconst 10 dX11_press_9 rfl ?_
    refine r_cv1 13 dX11_press_10 rfl gX11_184 rfl (by decide) (sh_50 z _) rfl rfl (Nat.le_of_ble_eq_true rfl) (Nat.le_of_ble_eq_true rfl) rfl ?_
    refine m_no (k0 := 1) (by decide) (by decide) ?_
    refine r_ret dX11_press_13 rfl (kb _ 1 (by decide) ?_)
    unfold gPress
    rw [if_pos (by omega)]
abbrev uDia (c : tC) (n : Nat) (p h a v : Int) : tC := cu (cu (cu (cu (cu c 17 0 n p) 18 0 n h) 19 0 n a) 20 0 n v) 16 0 0 ((n : Int) + 1)
theorem x_dadd {z : xZ} {d : Nat} {Q : tQ} {c : tC} {L : tL} {n : Nat} {p h a v : Int} (h0 : c 16 0 0 = (n : Int)) (hn : n < 80) (k : Q none (uDia c n p h a v) L) : En z (d + 1) MX1_add Q 0 [some (.ref (xad z 16 0)), some (.int (iI p)), some (.int (iI h)), some (.int (iI a)), some (.int (iI v))] [] c L := by
  refine r_aloadN 1 dX1_add_0 rfl rfl ?_
  refine r_geti 4 dX1_add_1 rfl fX1_9 (by decide) (sh_16 z _) rfl ?_
  rw [h0]
  refine r_bipush 6 dX1_add_4 rfl (by decide) ?_
  refine r_icge 60 9 dX1_add_6 rfl (by decide) (by omega) (by omega) (fun h6 => ?_) (fun h6 => ?_)
  · first
      | (exfalso; omega)
      | exact r_vret dX1_add_60 rfl k
  · refine r_aloadN 10 dX1_add_9 rfl rfl ?_
    refine r_getq 13 dX1_add_10 rfl fX1_21 (by decide) (sh_16 z _) rfl ?_
    refine r_aloadN 14 dX1_add_13 rfl rfl ?_
    refine r_geti 17 dX1_add_14 rfl fX1_9 (by decide) (sh_16 z _) rfl ?_
    rw [h0]
    refine r_iloadN 18 dX1_add_17 rfl rfl ?_
    refine r_iast 19 dX1_add_18 (n) rfl rfl (by decide) (sh_17 z _) (by decide) (by omega) (by omega) ?_
    refine r_aloadN 20 dX1_add_19 rfl rfl ?_
    refine r_getq 23 dX1_add_20 rfl fX1_25 (by decide) (sh_16 z _) rfl ?_
    refine r_aloadN 24 dX1_add_23 rfl rfl ?_
    refine r_geti 27 dX1_add_24 rfl fX1_9 (by decide) (sh_16 z _) rfl ?_
    (try simp only [cu_ap, Nat.reduceEqDiff, false_and, and_false, if_false, reduceIte])
    rw [h0]
    refine r_iloadN 28 dX1_add_27 rfl rfl ?_
    refine r_iast 29 dX1_add_28 (n) rfl rfl (by decide) (sh_18 z _) (by decide) (by omega) (by omega) ?_
    refine r_aloadN 30 dX1_add_29 rfl rfl ?_
    refine r_getq 33 dX1_add_30 rfl fX1_28 (by decide) (sh_16 z _) rfl ?_
    refine r_aloadN 34 dX1_add_33 rfl rfl ?_
    refine r_geti 37 dX1_add_34 rfl fX1_9 (by decide) (sh_16 z _) rfl ?_
    (try simp only [cu_ap, Nat.reduceEqDiff, false_and, and_false, if_false, reduceIte])
    rw [h0]
    refine r_iloadN 38 dX1_add_37 rfl rfl ?_
    refine r_iast 39 dX1_add_38 (n) rfl rfl (by decide) (sh_19 z _) (by decide) (by omega) (by omega) ?_
    refine r_aloadN 40 dX1_add_39 rfl rfl ?_
    refine r_getq 43 dX1_add_40 rfl fX1_31 (by decide) (sh_16 z _) rfl ?_
    refine r_aloadN 44 dX1_add_43 rfl rfl ?_
    refine r_geti 47 dX1_add_44 rfl fX1_9 (by decide) (sh_16 z _) rfl ?_
    (try simp only [cu_ap, Nat.reduceEqDiff, false_and, and_false, if_false, reduceIte])
    rw [h0]
    refine r_iload 49 dX1_add_47 rfl rfl ?_
    refine r_iast 50 dX1_add_49 (n) rfl rfl (by decide) (sh_20 z _) (by decide) (by omega) (by omega) ?_
    refine r_aloadN 51 dX1_add_50 rfl rfl ?_
    refine r_dupr 52 dX1_add_51 rfl ?_
    refine r_geti 55 dX1_add_52 rfl fX1_9 (by decide) (sh_16 z _) rfl ?_
    (try simp only [cu_ap, Nat.reduceEqDiff, false_and, and_false, if_false, reduceIte])
    rw [h0]
    refine r_iconst 56 dX1_add_55 rfl ?_
    refine r_iadd 57 dX1_add_56 rfl ?_
    refine r_puti 60 dX1_add_57 rfl pX1_9 (by decide) (sh_16 z _) rfl ?_
    first
      | (exfalso; omega)
      | exact r_vret dX1_add_60 rfl k
theorem x_addPress {z : xZ} {d : Nat} {Q : tQ} {c : tC} {L : tL} {n : Nat} {q p h a v : Int} (h0 : c 16 0 0 = (n : Int)) (hn : n < 80) (h1 : c 16 0 1 = q) (hq : 0 ≤ q ∧ q < 60) (hv : v = 0 ∨ v = 1) (k : Q none (uDia (cu c 16 0 1 (q + 1)) n p h a v) L) : En z (d + 2) MX1_addPress Q 0 [some (.ref (xad z 16 0)), some (.int (iI p)), some (.int (iI h)), some (.int (iI a)), some (.int (iI v))] [] c L := by
  refine r_aloadN 1 dX1_addPress_0 rfl rfl ?_
  refine r_geti 4 dX1_addPress_1 rfl fX1_15 (by decide) (sh_16 z _) rfl ?_
  refine r_bipush 6 dX1_addPress_4 rfl (by decide) ?_
  refine r_icge 36 9 dX1_addPress_6 rfl (by decide) (by omega) (by omega) (fun h6 => ?_) (fun h6 => ?_)
  · first
      | (exfalso; omega)
      | exact r_vret dX1_addPress_36 rfl k
  · refine r_aloadN 10 dX1_addPress_9 rfl rfl ?_
    refine r_dupr 11 dX1_addPress_10 rfl ?_
    refine r_geti 14 dX1_addPress_11 rfl fX1_15 (by decide) (sh_16 z _) rfl ?_
    rw [h1]
    refine r_iconst 15 dX1_addPress_14 rfl ?_
    refine r_iadd 16 dX1_addPress_15 rfl ?_
    refine r_puti 19 dX1_addPress_16 rfl pX1_15 (by decide) (sh_16 z _) rfl ?_
    refine r_aloadN 20 dX1_addPress_19 rfl rfl ?_
    refine r_iloadN 21 dX1_addPress_20 rfl rfl ?_
    refine r_iloadN 22 dX1_addPress_21 rfl rfl ?_
    refine r_iloadN 23 dX1_addPress_22 rfl rfl ?_
    refine r_iload 25 dX1_addPress_23 rfl rfl ?_
    refine r_ifeq 32 28 dX1_addPress_25 rfl (by decide) (by omega) (fun h25 => ?_) (fun h25 => ?_)
    · obtain rfl : v = 0 := by omega
      refine r_iconst 33 dX1_addPress_32 rfl ?_
      refine r_cv4 36 dX1_addPress_33 rfl gX1_34 rfl (by decide) (sh_16 z _) rfl rfl (Nat.le_of_ble_eq_true rfl) (Nat.le_of_ble_eq_true rfl) rfl ?_
      refine x_dadd (n := n) h0 hn ?_
      first
        | (exfalso; omega)
        | exact r_vret dX1_addPress_36 rfl k
    · obtain rfl : v = 1 := by omega
      refine r_iconst 29 dX1_addPress_28 rfl ?_
      refine r_goto 33 dX1_addPress_29 (by decide) ?_
      refine r_cv4 36 dX1_addPress_33 rfl gX1_34 rfl (by decide) (sh_16 z _) rfl rfl (Nat.le_of_ble_eq_true rfl) (Nat.le_of_ble_eq_true rfl) rfl ?_
      refine x_dadd (n := n) h0 hn ?_
      first
        | (exfalso; omega)
        | exact r_vret dX1_addPress_36 rfl k
theorem x_addMatch {z : xZ} {d : Nat} {Q : tQ} {c : tC} {L : tL} {n : Nat} {q p t : Int} (h0 : c 16 0 0 = (n : Int)) (hn : n < 80) (h1 : c 16 0 2 = q) (hq : 0 ≤ q ∧ q < 20) (k : Q none (uDia (cu c 16 0 2 (q + 1)) n p (-1) 0 t) L) : En z (d + 2) MX1_addMatch Q 0 [some (.ref (xad z 16 0)), some (.int (iI p)), some (.int (iI t))] [] c L := by
  refine r_aloadN 1 dX1_addMatch_0 rfl rfl ?_
  refine r_geti 4 dX1_addMatch_1 rfl fX1_18 (by decide) (sh_16 z _) rfl ?_
  refine r_bipush 6 dX1_addMatch_4 rfl (by decide) ?_
  refine r_icge 27 9 dX1_addMatch_6 rfl (by decide) (by omega) (by omega) (fun h6 => ?_) (fun h6 => ?_)
  · first
      | (exfalso; omega)
      | exact r_vret dX1_addMatch_27 rfl k
  · refine r_aloadN 10 dX1_addMatch_9 rfl rfl ?_
    refine r_dupr 11 dX1_addMatch_10 rfl ?_
    refine r_geti 14 dX1_addMatch_11 rfl fX1_18 (by decide) (sh_16 z _) rfl ?_
    rw [h1]
    refine r_iconst 15 dX1_addMatch_14 rfl ?_
    refine r_iadd 16 dX1_addMatch_15 rfl ?_
    refine r_puti 19 dX1_addMatch_16 rfl pX1_18 (by decide) (sh_16 z _) rfl ?_
    refine r_aloadN 20 dX1_addMatch_19 rfl rfl ?_
    refine r_iloadN 21 dX1_addMatch_20 rfl rfl ?_
    refine r_iconst 22 dX1_addMatch_21 rfl ?_
    refine r_iconst 23 dX1_addMatch_22 rfl ?_
    refine r_iloadN 24 dX1_addMatch_23 rfl rfl ?_
    refine r_cv4 27 dX1_addMatch_24 rfl gX1_34 rfl (by decide) (sh_16 z _) rfl rfl (Nat.le_of_ble_eq_true rfl) (Nat.le_of_ble_eq_true rfl) rfl ?_
    refine x_dadd (n := n) h0 hn ?_
    first
      | (exfalso; omega)
      | exact r_vret dX1_addMatch_27 rfl k
