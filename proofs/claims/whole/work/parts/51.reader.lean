/-! the class's reader: T its signs, e how many, p the place -/
def RS (c : tC) (e : Nat) (T : Nat → Int) : Prop := c 30 0 1 = (e : Int) ∧ e ≤ 60 ∧ (∀ j, j < e → c 31 0 j = T j) ∧ ∀ j, inR (T j)
def RF (c c2 : tC) : Prop := ∀ g i j, ¬ (g = 30 ∧ i = 0 ∧ 2 ≤ j ∧ j ≤ 4) → c2 g i j = c g i j
theorem RF_rfl (c : tC) : RF c c := fun _ _ _ _ => rfl
theorem RF_tr {a b c : tC} (h : RF a b) (h2 : RF b c) : RF a c := fun g i j n => (h2 g i j n).trans (h g i j n)
theorem RF_cu {c : tC} {j : Nat} {v : Int} (h : 2 ≤ j ∧ j ≤ 4) : RF c (cu c 30 0 j v) := fun g i j2 n => by
  rw [cu_ap, if_neg (by omega)]
theorem RS_fr {c c2 : tC} {e : Nat} {T : Nat → Int} (h : RS c e T) (h2 : RF c c2) : RS c2 e T := ⟨(h2 30 0 1 (by omega)).trans h.1, h.2.1, fun j hj => (h2 31 0 j (by omega)).trans (h.2.2.1 j hj), h.2.2.2⟩
/-- gone on to q / stopped at q -/
def RP (c c2 : tC) (q : Nat) : Prop := RF c c2 ∧ c2 30 0 2 = (q : Int) ∧ c2 30 0 4 = c 30 0 4
def RB (c c2 : tC) (q : Nat) : Prop := RF c c2 ∧ c2 30 0 4 = (q : Int)
theorem RP_tr {a b c : tC} {p q : Nat} (h : RP a b p) (h2 : RP b c q) : RP a c q := ⟨RF_tr h.1 h2.1, h2.2.1, h2.2.2.trans h.2.2⟩
theorem RB_tr {a b c : tC} {p q : Nat} (h : RP a b p) (h2 : RB b c q) : RB a c q := ⟨RF_tr h.1 h2.1, h2.2⟩
theorem x_failAt {z : xZ} {d : Nat} {Q : tQ} {c : tC} {L : tL} {v : Int}  (k : Q (some (.int (iI 0))) (cu c 30 0 4 v) L) : En z (d + 1) MX5_failAt Q 0 [some (.ref (xad z 30 0)), some (.int (iI v))] [] c L := by
  refine r_aloadN 1 dX5_failAt_0 rfl rfl ?_
  refine r_iloadN 2 dX5_failAt_1 rfl rfl ?_
  refine r_puti 5 dX5_failAt_2 rfl pX5_25 (by decide) (sh_30 z _) rfl ?_
  refine r_iconst 6 dX5_failAt_5 rfl ?_
  exact r_zret dX5_failAt_6 rfl (by decide) k
theorem x_isNext {z : xZ} {d : Nat} {Q : tQ} {c : tC} {L : tL} {e p : Nat} {T : Nat → Int} {x : Int} (hs : RS c e T) (ha : c 30 0 2 = (p : Int)) (hp : p ≤ e) (hx : 0 ≤ x ∧ x ≤ 127) (k1 : (p < e ∧ T p = x) → Q (some (.int (iI 1))) c L) (k0 : ¬ (p < e ∧ T p = x) → Q (some (.int (iI 0))) c L) : En z (d + 1) MX5_isNext Q 0 [some (.ref (xad z 30 0)), some (.int (iI x))] [] c L := by
  have hs1 := hs.1
  have hs2 := hs.2.1
  have hT1 := (hs.2.2.2 p).1
  have hT2 := (hs.2.2.2 p).2
  refine r_aloadN 1 dX5_isNext_0 rfl rfl ?_
  refine r_geti 4 dX5_isNext_1 rfl fX5_19 (by decide) (sh_30 z _) rfl ?_
  rw [ha]
  refine r_aloadN 5 dX5_isNext_4 rfl rfl ?_
  refine r_geti 8 dX5_isNext_5 rfl fX5_15 (by decide) (sh_30 z _) rfl ?_
  rw [hs1]
  refine r_icge 28 11 dX5_isNext_8 rfl (by decide) (by omega) (by omega) (fun h8 => ?_) (fun h8 => ?_)
  · refine r_iconst 29 dX5_isNext_28 rfl ?_
    exact r_zret dX5_isNext_29 rfl (by decide) (k0 (by omega))
  · refine r_aloadN 12 dX5_isNext_11 rfl rfl ?_
    refine r_getq 15 dX5_isNext_12 rfl fX5_9 (by decide) (sh_30 z _) rfl ?_
    refine r_aloadN 16 dX5_isNext_15 rfl rfl ?_
    refine r_geti 19 dX5_isNext_16 rfl fX5_19 (by decide) (sh_30 z _) rfl ?_
    rw [ha]
    refine r_iald 20 dX5_isNext_19 (p) rfl rfl (by decide) (sh_31 z _) (by decide) (by omega) (by omega) ?_
    rw [hs.2.2.1 p (by omega)]
    refine r_iloadN 21 dX5_isNext_20 rfl rfl ?_
    refine r_icne 28 24 dX5_isNext_21 rfl (by decide) (by omega) (by omega) (fun h21 => ?_) (fun h21 => ?_)
    · refine r_iconst 29 dX5_isNext_28 rfl ?_
      exact r_zret dX5_isNext_29 rfl (by decide) (k0 (by omega))
    · refine r_iconst 25 dX5_isNext_24 rfl ?_
      refine r_goto 29 dX5_isNext_25 (by decide) ?_
      exact r_zret dX5_isNext_29 rfl (by decide) (k1 (by omega))
theorem x_isDigit {z : xZ} {d : Nat} {Q : tQ} {c : tC} {L : tL} {e p : Nat} {T : Nat → Int} (hs : RS c e T) (ha : c 30 0 2 = (p : Int)) (hp : p ≤ e) (k1 : (p < e ∧ 48 ≤ T p ∧ T p ≤ 57) → Q (some (.int (iI 1))) c L) (k0 : ¬ (p < e ∧ 48 ≤ T p ∧ T p ≤ 57) → Q (some (.int (iI 0))) c L) : En z (d + 1) MX5_isDigitNext Q 0 [some (.ref (xad z 30 0))] [] c L := by
  have hs1 := hs.1
  have hs2 := hs.2.1
  have hT1 := (hs.2.2.2 p).1
  have hT2 := (hs.2.2.2 p).2
  refine r_aloadN 1 dX5_isDigitNext_0 rfl rfl ?_
  refine r_geti 4 dX5_isDigitNext_1 rfl fX5_19 (by decide) (sh_30 z _) rfl ?_
  rw [ha]
  refine r_aloadN 5 dX5_isDigitNext_4 rfl rfl ?_
  refine r_geti 8 dX5_isDigitNext_5 rfl fX5_15 (by decide) (sh_30 z _) rfl ?_
  rw [hs1]
  refine r_icge 43 11 dX5_isDigitNext_8 rfl (by decide) (by omega) (by omega) (fun h8 => ?_) (fun h8 => ?_)
  · refine r_iconst 44 dX5_isDigitNext_43 rfl ?_
    exact r_zret dX5_isDigitNext_44 rfl (by decide) (k0 (by omega))
  · refine r_aloadN 12 dX5_isDigitNext_11 rfl rfl ?_
    refine r_getq 15 dX5_isDigitNext_12 rfl fX5_9 (by decide) (sh_30 z _) rfl ?_
    refine r_aloadN 16 dX5_isDigitNext_15 rfl rfl ?_
    refine r_geti 19 dX5_isDigitNext_16 rfl fX5_19 (by decide) (sh_30 z _) rfl ?_
    rw [ha]
    refine r_iald 20 dX5_isDigitNext_19 (p) rfl rfl (by decide) (sh_31 z _) (by decide) (by omega) (by omega) ?_
    rw [hs.2.2.1 p (by omega)]
    refine r_bipush 22 dX5_isDigitNext_20 rfl (by decide) ?_
    refine r_iclt 43 25 dX5_isDigitNext_22 rfl (by decide) (by omega) (by omega) (fun h22 => ?_) (fun h22 => ?_)
    · refine r_iconst 44 dX5_isDigitNext_43 rfl ?_
      exact r_zret dX5_isDigitNext_44 rfl (by decide) (k0 (by omega))
    · refine r_aloadN 26 dX5_isDigitNext_25 rfl rfl ?_
      refine r_getq 29 dX5_isDigitNext_26 rfl fX5_9 (by decide) (sh_30 z _) rfl ?_
      refine r_aloadN 30 dX5_isDigitNext_29 rfl rfl ?_
      refine r_geti 33 dX5_isDigitNext_30 rfl fX5_19 (by decide) (sh_30 z _) rfl ?_
      rw [ha]
      refine r_iald 34 dX5_isDigitNext_33 (p) rfl rfl (by decide) (sh_31 z _) (by decide) (by omega) (by omega) ?_
      rw [hs.2.2.1 p (by omega)]
      refine r_bipush 36 dX5_isDigitNext_34 rfl (by decide) ?_
      refine r_icgt 43 39 dX5_isDigitNext_36 rfl (by decide) (by omega) (by omega) (fun h36 => ?_) (fun h36 => ?_)
      · refine r_iconst 44 dX5_isDigitNext_43 rfl ?_
        exact r_zret dX5_isDigitNext_44 rfl (by decide) (k0 (by omega))
      · refine r_iconst 40 dX5_isDigitNext_39 rfl ?_
        refine r_goto 44 dX5_isDigitNext_40 (by decide) ?_
        exact r_zret dX5_isDigitNext_44 rfl (by decide) (k1 (by omega))
theorem x_take {z : xZ} {d : Nat} {Q : tQ} {c : tC} {L : tL} {e p : Nat} {T : Nat → Int} {x : Int} (hs : RS c e T) (ha : c 30 0 2 = (p : Int)) (hp : p ≤ e) (hx : 0 ≤ x ∧ x ≤ 127) (k1 : (p < e ∧ T p = x) → Q (some (.int (iI 1))) (cu c 30 0 2 ((p + 1 : Nat) : Int)) L) (k0 : ¬ (p < e ∧ T p = x) → Q (some (.int (iI 0))) (cu c 30 0 4 (p : Int)) L) : En z (d + 2) MX5_take Q 0 [some (.ref (xad z 30 0)), some (.int (iI x))] [] c L := by
  refine r_aloadN 1 dX5_take_0 rfl rfl ?_
  refine r_iloadN 2 dX5_take_1 rfl rfl ?_
  refine r_cv1 5 dX5_take_2 rfl gX5_75 rfl (by decide) (sh_30 z _) rfl rfl (Nat.le_of_ble_eq_true rfl) (Nat.le_of_ble_eq_true rfl) rfl ?_
  refine x_isNext hs ha hp hx (fun y2 => ?_) (fun y2 => ?_)
  · refine r_ifneT 17 0 dX5_take_5 (by decide) (by decide) (by decide) ?_
    refine r_aloadN 18 dX5_take_17 rfl rfl ?_
    refine r_dupr 19 dX5_take_18 rfl ?_
    refine r_geti 22 dX5_take_19 rfl fX5_19 (by decide) (sh_30 z _) rfl ?_
    rw [ha]
    refine r_iconst 23 dX5_take_22 rfl ?_
    refine r_iadd 24 dX5_take_23 rfl ?_
    rw [show (p : Int) + 1 = ((p + 1 : Nat) : Int) by omega]
    refine r_puti 27 dX5_take_24 rfl pX5_19 (by decide) (sh_30 z _) rfl ?_
    refine r_iconst 28 dX5_take_27 rfl ?_
    exact r_zret dX5_take_28 rfl (by decide) (k1 y2)
  · refine r_ifneF 8 dX5_take_5 rfl 17 (by decide) (by decide) (by decide) ?_
    refine r_aloadN 9 dX5_take_8 rfl rfl ?_
    refine r_aloadN 10 dX5_take_9 rfl rfl ?_
    refine r_geti 13 dX5_take_10 rfl fX5_19 (by decide) (sh_30 z _) rfl ?_
    rw [ha]
    refine r_cv1 16 dX5_take_13 rfl gX5_63 rfl (by decide) (sh_30 z _) rfl rfl (Nat.le_of_ble_eq_true rfl) (Nat.le_of_ble_eq_true rfl) rfl ?_
    refine x_failAt ?_
    exact r_zret dX5_take_16 rfl (by decide) (k0 y2)
theorem x_goesOn {z : xZ} {d : Nat} {Q : tQ} {c : tC} {L : tL} {e p : Nat} {T : Nat → Int} (hs : RS c e T) (ha : c 30 0 2 = (p : Int)) (hp : p ≤ e) (k1 : (p < e ∧ T p = 59) → Q (some (.int (iI 1))) (cu c 30 0 2 ((p + 1 : Nat) : Int)) L) (k0 : p < e → ¬ T p = 59 → Q (some (.int (iI 0))) (cu c 30 0 4 (p : Int)) L) (ke : ¬ p < e → Q (some (.int (iI 0))) c L) : En z (d + 3) MX5_goesOn Q 0 [some (.ref (xad z 30 0))] [] c L := by
  have hs1 := hs.1
  have hs2 := hs.2.1
  have hT1 := (hs.2.2.2 p).1
  have hT2 := (hs.2.2.2 p).2
  refine r_aloadN 1 dX5_goesOn_0 rfl rfl ?_
  refine r_geti 4 dX5_goesOn_1 rfl fX5_19 (by decide) (sh_30 z _) rfl ?_
  rw [ha]
  refine r_aloadN 5 dX5_goesOn_4 rfl rfl ?_
  refine r_geti 8 dX5_goesOn_5 rfl fX5_15 (by decide) (sh_30 z _) rfl ?_
  rw [hs1]
  refine r_icge 24 11 dX5_goesOn_8 rfl (by decide) (by omega) (by omega) (fun h8 => ?_) (fun h8 => ?_)
  · refine r_iconst 25 dX5_goesOn_24 rfl ?_
    first
      | exact r_zret dX5_goesOn_25 rfl (by decide) (k1 y14)
      | exact r_zret dX5_goesOn_25 rfl (by decide) (k0 (by omega) (fun q => y14 ⟨by omega, q⟩))
      | exact r_zret dX5_goesOn_25 rfl (by decide) (ke (by omega))
  · refine r_aloadN 12 dX5_goesOn_11 rfl rfl ?_
    refine r_bipush 14 dX5_goesOn_12 rfl (by decide) ?_
    refine r_cv1 17 dX5_goesOn_14 rfl gX5_88 rfl (by decide) (sh_30 z _) rfl rfl (Nat.le_of_ble_eq_true rfl) (Nat.le_of_ble_eq_true rfl) rfl ?_
    refine x_take hs ha hp (by decide) (fun y14 => ?_) (fun y14 => ?_)
    · refine r_ifeqF 20 dX5_goesOn_17 rfl 24 (by decide) (by decide) (by decide) ?_
      refine r_iconst 21 dX5_goesOn_20 rfl ?_
      refine r_goto 25 dX5_goesOn_21 (by decide) ?_
      first
        | exact r_zret dX5_goesOn_25 rfl (by decide) (k1 y14)
        | exact r_zret dX5_goesOn_25 rfl (by decide) (k0 (by omega) (fun q => y14 ⟨by omega, q⟩))
        | exact r_zret dX5_goesOn_25 rfl (by decide) (ke (by omega))
    · refine r_ifeqT 24 0 dX5_goesOn_17 (by decide) (by decide) (by decide) ?_
      refine r_iconst 25 dX5_goesOn_24 rfl ?_
      first
        | exact r_zret dX5_goesOn_25 rfl (by decide) (k1 y14)
        | exact r_zret dX5_goesOn_25 rfl (by decide) (k0 (by omega) (fun q => y14 ⟨by omega, q⟩))
        | exact r_zret dX5_goesOn_25 rfl (by decide) (ke (by omega))
theorem tSq_drop {T : Nat → Int} {e w i p : Nat} (hi : i < (nm w).length) : tSq T e ((nm w).drop i) p = if p < e ∧ T p = (nm w).getD i 0 then tSq T e ((nm w).drop (i + 1)) (p + 1) else (p, false) := by
  rw [List.drop_eq_getElem_cons hi, tSq, List.getD_eq_getElem?_getD, List.getElem?_eq_getElem hi]
  rfl
theorem x_takeAll_loop {z : xZ} {d : Nat} {Q : tQ} {L : tL} {e p0 w : Nat} {T : Nat → Int} {c0 : tC} (hz : zF z) (hw : w < 11) (hs0 : RS c0 e T) (k1 : ∀ c, (tSq T e (nm w) p0).2 = true → RP c0 c (tSq T e (nm w) p0).1 → Q (some (.int (iI 1))) c L) (k0 : ∀ c, (tSq T e (nm w) p0).2 = false → RB c0 c (tSq T e (nm w) p0).1 → Q (some (.int (iI 0))) c L) : ∀ (k i : Nat) (c : tC), i + k = (nm w).length → p0 + i ≤ e → RP c0 c (p0 + i) → tSq T e (nm w) p0 = tSq T e ((nm w).drop i) (p0 + i) → En z (d + 5) MX5_takeAll Q 2 [some (.ref (xad z 30 0)), some (.ref (sad z w)), some (.int (iI (i : Int)))] [] c L := by
  have hl := nm_len w hw
  intro k
  induction k with
  | zero =>
    intro i c hi hp hP hq
    refine r_iloadN 3 dX5_takeAll_2 rfl rfl ?_
    refine r_aloadN 4 dX5_takeAll_3 rfl rfl ?_
    refine r_cr0 7 dX5_takeAll_4 rfl gX5_79 (s_cls hw) (Nat.le_of_ble_eq_true rfl) (Nat.le_of_ble_eq_true rfl) rfl ?_
    refine s_len hw ?_
    refine r_icge 30 10 dX5_takeAll_7 rfl (by decide) (by omega) (by omega) (fun h7 => ?_) (fun h7 => ?_)
    · refine r_iconst 31 dX5_takeAll_30 rfl ?_
      have hq2 : tSq T e (nm w) p0 = (p0 + i, true) := by
        rw [hq, List.drop_eq_nil_of_le (by omega), tSq]
      exact r_zret dX5_takeAll_31 rfl (by decide) (k1 _ (by rw [hq2]) (by rw [hq2]; exact hP))
    · exfalso; omega
  | succ k ih =>
    intro i c hi hp hP hq
    have hs := RS_fr hs0 hP.1
    have hr := nm_rng w hw i (by omega)
    refine r_iloadN 3 dX5_takeAll_2 rfl rfl ?_
    refine r_aloadN 4 dX5_takeAll_3 rfl rfl ?_
    refine r_cr0 7 dX5_takeAll_4 rfl gX5_79 (s_cls hw) (Nat.le_of_ble_eq_true rfl) (Nat.le_of_ble_eq_true rfl) rfl ?_
    refine s_len hw ?_
    refine r_icge 30 10 dX5_takeAll_7 rfl (by decide) (by omega) (by omega) (fun h7 => ?_) (fun h7 => ?_)
    · exfalso; omega
    · refine r_aloadN 11 dX5_takeAll_10 rfl rfl ?_
      refine r_aloadN 12 dX5_takeAll_11 rfl rfl ?_
      refine r_iloadN 13 dX5_takeAll_12 rfl rfl ?_
      refine r_cr1 16 dX5_takeAll_13 rfl gX5_84 (s_cls hw) (Nat.le_of_ble_eq_true rfl) (Nat.le_of_ble_eq_true rfl) rfl ?_
      refine s_charAt hz hw (by omega) ?_
      refine r_cv1 19 dX5_takeAll_16 rfl gX5_88 rfl (by decide) (sh_30 z _) rfl rfl (Nat.le_of_ble_eq_true rfl) (Nat.le_of_ble_eq_true rfl) rfl ?_
      refine x_take (p := p0 + i) hs hP.2.1 hp hr (fun y16 => ?_) (fun y16 => ?_)
      · refine r_ifneT 24 0 dX5_takeAll_19 (by decide) (by decide) (by decide) ?_
        refine r_iinc2 27 dX5_takeAll_24 rfl rfl (by decide) ?_
        refine r_goto 2 dX5_takeAll_27 (by decide) ?_
        refine ih (i + 1) _ (by omega) (by omega) ?_ ?_
        · rw [show p0 + (i + 1) = p0 + i + 1 by omega]
          exact ⟨RF_tr hP.1 (RF_cu (by omega)), by rw [cu_ap, if_pos ⟨rfl, rfl, rfl⟩], by rw [cu_ap, if_neg (by omega)]; exact hP.2.2⟩
        · rw [hq, tSq_drop (by omega), if_pos y16, show p0 + (i + 1) = p0 + i + 1 by omega]
      · refine r_ifneF 22 dX5_takeAll_19 rfl 24 (by decide) (by decide) (by decide) ?_
        refine r_iconst 23 dX5_takeAll_22 rfl ?_
        have hq2 : tSq T e (nm w) p0 = (p0 + i, false) := by
          rw [hq, tSq_drop (by omega), if_neg y16]
        exact r_zret dX5_takeAll_23 rfl (by decide) (k0 _ (by rw [hq2]) (by rw [hq2]; exact ⟨RF_tr hP.1 (RF_cu (by omega)), by rw [cu_ap, if_pos ⟨rfl, rfl, rfl⟩]⟩))
theorem x_takeAll {z : xZ} {d : Nat} {Q : tQ} {c : tC} {L : tL} {e p : Nat} {T : Nat → Int} {w : Nat} (hz : zF z) (hw : w < 11) (hs : RS c e T) (ha : c 30 0 2 = (p : Int)) (hp : p ≤ e) (k1 : ∀ c2, (tSq T e (nm w) p).2 = true → RP c c2 (tSq T e (nm w) p).1 → Q (some (.int (iI 1))) c2 L) (k0 : ∀ c2, (tSq T e (nm w) p).2 = false → RB c c2 (tSq T e (nm w) p).1 → Q (some (.int (iI 0))) c2 L) : En z (d + 5) MX5_takeAll Q 0 [some (.ref (xad z 30 0)), some (.ref (sad z w)), none] [] c L := by
  refine r_iconst 1 dX5_takeAll_0 rfl ?_
  refine r_istore2 2 dX5_takeAll_1 rfl rfl (by decide) ?_
  exact x_takeAll_loop hz hw hs k1 k0 (nm w).length 0 c (by omega) (by omega) ⟨RF_rfl c, by rw [Nat.add_zero]; exact ha, rfl⟩ rfl
theorem x_num_loop {z : xZ} {d : Nat} {Q : tQ} {L : tL} {e p : Nat} {T : Nat → Int} {c0 : tC} {lo0 hi0 : Int} (hs0 : RS c0 e T) (hp : p ≤ e) (kk : ∀ c, RP c0 c (tNum T e 3 p 0).1 → c 30 0 3 = (tNum T e 3 p 0).2 → En z (d + 3) MX5_readNumber Q 64 [some (.ref (xad z 30 0)), some (.int (iI lo0)), some (.int (iI hi0)), some (.int (iI (p : Int)))] [] c L) : ∀ (k i : Nat) (c : tC) (v : Int), i + k = 3 → p + i ≤ e → RP c0 c (p + i) → c 30 0 3 = v → tNum T e 3 p 0 = tNum T e k (p + i) v → En z (d + 3) MX5_readNumber Q 10 [some (.ref (xad z 30 0)), some (.int (iI lo0)), some (.int (iI hi0)), some (.int (iI (p : Int)))] [] c L := by
  have hs02 := hs0.2.1
  intro k
  induction k with
  | zero =>
    intro i c v hi hpe hP hv hq
    refine r_aloadN 11 dX5_readNumber_10 rfl rfl ?_
    refine r_geti 14 dX5_readNumber_11 rfl fX5_19 (by decide) (sh_30 z _) rfl ?_
    rw [hP.2.1]
    refine r_iloadN 15 dX5_readNumber_14 rfl rfl ?_
    refine r_iconst 16 dX5_readNumber_15 rfl ?_
    refine r_iadd 17 dX5_readNumber_16 rfl ?_
    refine r_icge 64 20 dX5_readNumber_17 rfl (by decide) (by omega) (by omega) (fun h17 => ?_) (fun h17 => ?_)
    · exact kk c (by rw [hq]; exact hP) (by rw [hq]; exact hv)
    · exfalso; omega
  | succ k ih =>
    intro i c v hi hpe hP hv hq
    have hs := RS_fr hs0 hP.1
    refine r_aloadN 11 dX5_readNumber_10 rfl rfl ?_
    refine r_geti 14 dX5_readNumber_11 rfl fX5_19 (by decide) (sh_30 z _) rfl ?_
    rw [hP.2.1]
    refine r_iloadN 15 dX5_readNumber_14 rfl rfl ?_
    refine r_iconst 16 dX5_readNumber_15 rfl ?_
    refine r_iadd 17 dX5_readNumber_16 rfl ?_
    refine r_icge 64 20 dX5_readNumber_17 rfl (by decide) (by omega) (by omega) (fun h17 => ?_) (fun h17 => ?_)
    · first
        | (exfalso; omega)
        | exact kk c (by rw [hq, tNum, if_neg y21]; exact hP) (by rw [hq, tNum, if_neg y21]; exact hv)
    · refine r_aloadN 21 dX5_readNumber_20 rfl rfl ?_
      refine r_cv0 24 dX5_readNumber_21 rfl gX5_91 rfl (by decide) (sh_30 z _) rfl rfl (Nat.le_of_ble_eq_true rfl) (Nat.le_of_ble_eq_true rfl) rfl ?_
      refine x_isDigit (p := p + i) hs hP.2.1 hpe (fun y21 => ?_) (fun y21 => ?_)
      · refine r_ifeqF 27 dX5_readNumber_24 rfl 64 (by decide) (by decide) (by decide) ?_
        refine r_aloadN 28 dX5_readNumber_27 rfl rfl ?_
        refine r_aloadN 29 dX5_readNumber_28 rfl rfl ?_
        refine r_geti 32 dX5_readNumber_29 rfl fX5_22 (by decide) (sh_30 z _) rfl ?_
        rw [hv]
        refine r_bipush 34 dX5_readNumber_32 rfl (by decide) ?_
        refine r_imul 35 dX5_readNumber_34 rfl ?_
        refine r_aloadN 36 dX5_readNumber_35 rfl rfl ?_
        refine r_getq 39 dX5_readNumber_36 rfl fX5_9 (by decide) (sh_30 z _) rfl ?_
        refine r_aloadN 40 dX5_readNumber_39 rfl rfl ?_
        refine r_geti 43 dX5_readNumber_40 rfl fX5_19 (by decide) (sh_30 z _) rfl ?_
        rw [hP.2.1]
        refine r_iald 44 dX5_readNumber_43 (p + i) rfl rfl (by decide) (sh_31 z _) (by decide) (by omega) (by omega) ?_
        rw [hs.2.2.1 (p + i) (by omega)]
        refine r_iadd 45 dX5_readNumber_44 rfl ?_
        refine r_bipush 47 dX5_readNumber_45 rfl (by decide) ?_
        refine r_isub 48 dX5_readNumber_47 rfl ?_
        refine r_puti 51 dX5_readNumber_48 rfl pX5_22 (by decide) (sh_30 z _) rfl ?_
        refine r_aloadN 52 dX5_readNumber_51 rfl rfl ?_
        refine r_dupr 53 dX5_readNumber_52 rfl ?_
        refine r_geti 56 dX5_readNumber_53 rfl fX5_19 (by decide) (sh_30 z _) rfl ?_
        rw [cu_ap, if_neg (by omega), hP.2.1]
        refine r_iconst 57 dX5_readNumber_56 rfl ?_
        refine r_iadd 58 dX5_readNumber_57 rfl ?_
        rw [show ((p + i : Nat) : Int) + 1 = ((p + i + 1 : Nat) : Int) by omega]
        refine r_puti 61 dX5_readNumber_58 rfl pX5_19 (by decide) (sh_30 z _) rfl ?_
        refine r_goto 10 dX5_readNumber_61 (by decide) ?_
        refine ih (i + 1) _ (v * 10 + T (p + i) - 48) (by omega) (by omega) ?_ ?_ ?_
        · rw [show p + (i + 1) = p + i + 1 by omega]
          refine ⟨RF_tr hP.1 (RF_tr (RF_cu (j := 3) (by omega)) (RF_cu (by omega))), by rw [cu_ap, if_pos ⟨rfl, rfl, rfl⟩], ?_⟩
          rw [cu_ap, if_neg (by omega), cu_ap, if_neg (by omega)]
          exact hP.2.2
        · rw [cu_ap, if_neg (by omega), cu_ap, if_pos ⟨rfl, rfl, rfl⟩]
        · rw [hq, tNum, if_pos y21, show p + (i + 1) = p + i + 1 by omega]
      · refine r_ifeqT 64 0 dX5_readNumber_24 (by decide) (by decide) (by decide) ?_
        first
          | (exfalso; omega)
          | exact kk c (by rw [hq, tNum, if_neg y21]; exact hP) (by rw [hq, tNum, if_neg y21]; exact hv)
theorem x_readNumber {z : xZ} {d : Nat} {Q : tQ} {c : tC} {L : tL} {e p : Nat} {T : Nat → Int} {lo0 hi0 : Int} (hs : RS c e T) (ha : c 30 0 2 = (p : Int)) (hp : p ≤ e) (hl : inR lo0) (hh : inR hi0) (k1 : ∀ c2, tOk T e p lo0 hi0 = true → RP c c2 (tNum T e 3 p 0).1 → c2 30 0 3 = (tNum T e 3 p 0).2 → Q (some (.int (iI 1))) c2 L) (k0 : ∀ c2, tOk T e p lo0 hi0 = false → RB c c2 p → Q (some (.int (iI 0))) c2 L) : En z (d + 3) MX5_readNumber Q 0 [some (.ref (xad z 30 0)), some (.int (iI lo0)), some (.int (iI hi0)), none] [] c L := by
  have hs2 := hs.2.1
  refine r_aloadN 1 dX5_readNumber_0 rfl rfl ?_
  refine r_geti 4 dX5_readNumber_1 rfl fX5_19 (by decide) (sh_30 z _) rfl ?_
  rw [ha]
  refine r_istore3 5 dX5_readNumber_4 rfl rfl (by decide) ?_
  refine r_aloadN 6 dX5_readNumber_5 rfl rfl ?_
  refine r_iconst 7 dX5_readNumber_6 rfl ?_
  refine r_puti 10 dX5_readNumber_7 rfl pX5_22 (by decide) (sh_30 z _) rfl ?_
  refine x_num_loop (lo0 := lo0) (hi0 := hi0) hs hp (fun c2 hP hv => ?_) 3 0 _ 0 rfl (by omega) ?_ ?_ rfl
  · have ht := tNum_3 (T := T) hp
    refine r_aloadN 65 dX5_readNumber_64 rfl rfl ?_
    refine r_geti 68 dX5_readNumber_65 rfl fX5_19 (by decide) (sh_30 z _) rfl ?_
    rw [hP.2.1]
    refine r_iloadN 69 dX5_readNumber_68 rfl rfl ?_
    refine r_icle 84 72 dX5_readNumber_69 rfl (by decide) (by omega) (by omega) (fun h69 => ?_) (fun h69 => ?_)
    · refine r_aloadN 85 dX5_readNumber_84 rfl rfl ?_
      refine r_iloadN 86 dX5_readNumber_85 rfl rfl ?_
      refine r_cv1 89 dX5_readNumber_86 rfl gX5_63 rfl (by decide) (sh_30 z _) rfl rfl (Nat.le_of_ble_eq_true rfl) (Nat.le_of_ble_eq_true rfl) rfl ?_
      refine x_failAt ?_
      refine r_ifeqT 96 0 dX5_readNumber_89 (by decide) (by decide) (by decide) ?_
      refine r_iconst 97 dX5_readNumber_96 rfl ?_
      first
        | exact r_zret dX5_readNumber_97 rfl (by decide) (k1 c2 (decide_eq_true (by omega)) hP hv)
        | exact r_zret dX5_readNumber_97 rfl (by decide) (k0 _ (decide_eq_false (by omega)) ⟨RF_tr hP.1 (RF_cu (by omega)), by rw [cu_ap, if_pos ⟨rfl, rfl, rfl⟩]⟩)
    · refine r_aloadN 73 dX5_readNumber_72 rfl rfl ?_
      refine r_geti 76 dX5_readNumber_73 rfl fX5_22 (by decide) (sh_30 z _) rfl ?_
      rw [hv]
      refine r_iloadN 77 dX5_readNumber_76 rfl rfl ?_
      refine r_iloadN 78 dX5_readNumber_77 rfl rfl ?_
      refine r_cs3 81 dX5_readNumber_78 rfl gX5_94 (Nat.le_of_ble_eq_true rfl) (Nat.le_of_ble_eq_true rfl) rfl ?_
      refine x_isWithin (by constructor <;> omega) hl hh (fun y78 => ?_) (fun y78 => ?_)
      · refine r_ifneT 92 0 dX5_readNumber_81 (by decide) (by decide) (by decide) ?_
        refine r_iconst 93 dX5_readNumber_92 rfl ?_
        refine r_goto 97 dX5_readNumber_93 (by decide) ?_
        first
          | exact r_zret dX5_readNumber_97 rfl (by decide) (k1 c2 (decide_eq_true (by omega)) hP hv)
          | exact r_zret dX5_readNumber_97 rfl (by decide) (k0 _ (decide_eq_false (by omega)) ⟨RF_tr hP.1 (RF_cu (by omega)), by rw [cu_ap, if_pos ⟨rfl, rfl, rfl⟩]⟩)
      · refine r_ifneF 84 dX5_readNumber_81 rfl 92 (by decide) (by decide) (by decide) ?_
        refine r_aloadN 85 dX5_readNumber_84 rfl rfl ?_
        refine r_iloadN 86 dX5_readNumber_85 rfl rfl ?_
        refine r_cv1 89 dX5_readNumber_86 rfl gX5_63 rfl (by decide) (sh_30 z _) rfl rfl (Nat.le_of_ble_eq_true rfl) (Nat.le_of_ble_eq_true rfl) rfl ?_
        refine x_failAt ?_
        refine r_ifeqT 96 0 dX5_readNumber_89 (by decide) (by decide) (by decide) ?_
        refine r_iconst 97 dX5_readNumber_96 rfl ?_
        first
          | exact r_zret dX5_readNumber_97 rfl (by decide) (k1 c2 (decide_eq_true (by omega)) hP hv)
          | exact r_zret dX5_readNumber_97 rfl (by decide) (k0 _ (decide_eq_false (by omega)) ⟨RF_tr hP.1 (RF_cu (by omega)), by rw [cu_ap, if_pos ⟨rfl, rfl, rfl⟩]⟩)
  · exact ⟨RF_cu (by omega), by rw [cu_ap, if_neg (by omega), Nat.add_zero]; exact ha, by rw [cu_ap, if_neg (by omega)]⟩
  · rw [cu_ap, if_pos ⟨rfl, rfl, rfl⟩]
