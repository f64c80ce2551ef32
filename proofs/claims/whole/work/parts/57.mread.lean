/-! ===== the model reads texts: shelf s, e how many, p the place ===== -/
def MS (c : tC) (s e : Nat) : Prop := c 50 0 50 = 60 * (s : Int) ∧ c 50 0 52 = (e : Int) ∧ e ≤ 60 ∧ s < 8
def MF (c c2 : tC) : Prop := ∀ g i j, ¬ (g = 50 ∧ i = 0 ∧ (j = 51 ∨ (53 ≤ j ∧ j ≤ 55))) → c2 g i j = c g i j
theorem MF_rfl (c : tC) : MF c c := fun _ _ _ _ => rfl
theorem MF_tr {a b c : tC} (h : MF a b) (h2 : MF b c) : MF a c := fun g i j n => (h2 g i j n).trans (h g i j n)
theorem MF_cu {c : tC} {j : Nat} {v : Int} (h : j = 51 ∨ (53 ≤ j ∧ j ≤ 55)) : MF c (cu c 50 0 j v) := fun g i j2 n => by
  rw [cu_ap, if_neg (by omega)]
theorem MS_fr {c c2 : tC} {s e : Nat} (h : MS c s e) (h2 : MF c c2) : MS c2 s e := ⟨(h2 50 0 50 (by omega)).trans h.1, (h2 50 0 52 (by omega)).trans h.2.1, h.2.2⟩
def MP (c c2 : tC) (q : Nat) : Prop := MF c c2 ∧ c2 50 0 51 = (q : Int)
def MB (c c2 : tC) (q : Nat) : Prop := MF c c2 ∧ c2 50 0 55 = (q : Int)
theorem MP_tr {a b c : tC} {p q : Nat} (h : MP a b p) (h2 : MP b c q) : MP a c q := ⟨MF_tr h.1 h2.1, h2.2⟩
theorem MB_tr {a b c : tC} {p q : Nat} (h : MP a b p) (h2 : MB b c q) : MB a c q := ⟨MF_tr h.1 h2.1, h2.2⟩
theorem m_ltr {z : xZ} {d : Nat} {Q : tQ} {c : tC} {L : tL} {s e p : Nat} (hs : MS c s e) (ha : c 50 0 51 = (p : Int)) (hp : p < e) (k : Q (some (.int (iI (eT L s p)))) c L) : En z (d + 1) MX11_letter Q 0 [some (.ref (xad z 50 0))] [] c L := by
  have hs1 := hs.2.1
  have hs2 := hs.2.2.1
  have hs3 := hs.2.2.2
  have hT1 := (eT_in L s p).1
  have hT2 := (eT_in L s p).2
  refine r_aloadN 1 dX11_letter_0 rfl rfl ?_
  refine r_geti 4 dX11_letter_1 rfl fX11_203 (by decide) (sh_50 z _) rfl ?_
  rw [ha]
  refine r_aloadN 5 dX11_letter_4 rfl rfl ?_
  refine r_geti 8 dX11_letter_5 rfl fX11_206 (by decide) (sh_50 z _) rfl ?_
  rw [hs1]
  refine r_icge 29 11 dX11_letter_8 rfl (by decide) (by omega) (by omega) (fun h8 => ?_) (fun h8 => ?_)
  · refine r_iconst 30 dX11_letter_29 rfl ?_
    first
      | exact r_ret dX11_letter_30 rfl k
      | (exfalso; omega)
  · refine r_aloadN 12 dX11_letter_11 rfl rfl ?_
    refine r_getq 15 dX11_letter_12 rfl fX11_131 (by decide) (sh_50 z _) rfl ?_
    refine r_aloadN 16 dX11_letter_15 rfl rfl ?_
    refine r_geti 19 dX11_letter_16 rfl fX11_209 (by decide) (sh_50 z _) rfl ?_
    refine r_aloadN 20 dX11_letter_19 rfl rfl ?_
    refine r_geti 23 dX11_letter_20 rfl fX11_203 (by decide) (sh_50 z _) rfl ?_
    refine r_iadd 24 dX11_letter_23 rfl ?_
    rw [hs.1, ha, show 60 * (s : Int) + (p : Int) = ((60 * s + p : Nat) : Int) by omega]
    refine r_lald (n := 480) 25 dX11_letter_24 (60 * s + p) rfl rfl (by decide) (sh_52 z _) (by decide) (by omega) (by omega) ?_
    refine r_l2iR 26 dX11_letter_25 rfl ?_
    refine r_goto 30 dX11_letter_26 (by decide) ?_
    first
      | exact r_ret dX11_letter_30 rfl k
      | (exfalso; omega)
theorem m_wrong {z : xZ} {d : Nat} {Q : tQ} {c : tC} {L : tL} {v : Int}  (k : Q (some (.int (iI 0))) (cu c 50 0 55 v) L) : En z (d + 1) MX11_wrong Q 0 [some (.ref (xad z 50 0)), some (.int (iI v))] [] c L := by
  refine r_aloadN 1 dX11_wrong_0 rfl rfl ?_
  refine r_iloadN 2 dX11_wrong_1 rfl rfl ?_
  refine r_puti 5 dX11_wrong_2 rfl pX11_212 (by decide) (sh_50 z _) rfl ?_
  refine r_iconst 6 dX11_wrong_5 rfl ?_
  exact r_zret dX11_wrong_6 rfl (by decide) k
theorem m_takes {z : xZ} {d : Nat} {Q : tQ} {c : tC} {L : tL} {s e p : Nat} {x : Int} (hs : MS c s e) (ha : c 50 0 51 = (p : Int)) (hp : p ≤ e) (hx : 0 ≤ x ∧ x ≤ 127) (k1 : (p < e ∧ eT L s p = x) → ∀ c2, MP c c2 (p + 1) → Q (some (.int (iI 1))) c2 L) (k0 : ¬ (p < e ∧ eT L s p = x) → ∀ c2, MB c c2 p → c2 50 0 51 = (p : Int) → Q (some (.int (iI 0))) c2 L) : En z (d + 2) MX11_takes Q 0 [some (.ref (xad z 50 0)), some (.int (iI x))] [] c L := by
  have hs1 := hs.2.1
  have hs2 := hs.2.2.1
  have hs3 := hs.2.2.2
  have hT1 := (eT_in L s p).1
  have hT2 := (eT_in L s p).2
  refine r_aloadN 1 dX11_takes_0 rfl rfl ?_
  refine r_geti 4 dX11_takes_1 rfl fX11_203 (by decide) (sh_50 z _) rfl ?_
  rw [ha]
  refine r_aloadN 5 dX11_takes_4 rfl rfl ?_
  refine r_geti 8 dX11_takes_5 rfl fX11_206 (by decide) (sh_50 z _) rfl ?_
  rw [hs1]
  refine r_icge 19 11 dX11_takes_8 rfl (by decide) (by omega) (by omega) (fun h8 => ?_) (fun h8 => ?_)
  · refine r_aloadN 20 dX11_takes_19 rfl rfl ?_
    refine r_aloadN 21 dX11_takes_20 rfl rfl ?_
    refine r_geti 24 dX11_takes_21 rfl fX11_203 (by decide) (sh_50 z _) rfl ?_
    rw [ha]
    refine r_cv1 27 dX11_takes_24 rfl gX11_219 rfl (by decide) (sh_50 z _) rfl rfl (Nat.le_of_ble_eq_true rfl) (Nat.le_of_ble_eq_true rfl) rfl ?_
    refine m_wrong ?_
    first
      | (exfalso; omega)
      | exact r_zret dX11_takes_27 rfl (by decide) (k0 (by omega) _ ⟨MF_cu (by omega), by rw [cu_ap, if_pos ⟨rfl, rfl, rfl⟩]⟩ (by rw [cu_ap, if_neg (by omega)]; exact ha))
  · refine r_aloadN 12 dX11_takes_11 rfl rfl ?_
    refine r_cv0 15 dX11_takes_12 rfl gX11_215 rfl (by decide) (sh_50 z _) rfl rfl (Nat.le_of_ble_eq_true rfl) (Nat.le_of_ble_eq_true rfl) rfl ?_
    refine m_ltr hs ha (by omega) ?_
    refine r_iloadN 16 dX11_takes_15 rfl rfl ?_
    refine r_iceq 28 19 dX11_takes_16 rfl (by decide) (by omega) (by omega) (fun h16 => ?_) (fun h16 => ?_)
    · refine r_aloadN 29 dX11_takes_28 rfl rfl ?_
      refine r_dupr 30 dX11_takes_29 rfl ?_
      refine r_geti 33 dX11_takes_30 rfl fX11_203 (by decide) (sh_50 z _) rfl ?_
      rw [ha]
      refine r_iconst 34 dX11_takes_33 rfl ?_
      refine r_iadd 35 dX11_takes_34 rfl ?_
      rw [show (p : Int) + 1 = ((p + 1 : Nat) : Int) by omega]
      refine r_puti 38 dX11_takes_35 rfl pX11_203 (by decide) (sh_50 z _) rfl ?_
      refine r_iconst 39 dX11_takes_38 rfl ?_
      exact r_zret dX11_takes_39 rfl (by decide) (k1 (by omega) _ ⟨MF_cu (by omega), by rw [cu_ap, if_pos ⟨rfl, rfl, rfl⟩]⟩)
    · refine r_aloadN 20 dX11_takes_19 rfl rfl ?_
      refine r_aloadN 21 dX11_takes_20 rfl rfl ?_
      refine r_geti 24 dX11_takes_21 rfl fX11_203 (by decide) (sh_50 z _) rfl ?_
      rw [ha]
      refine r_cv1 27 dX11_takes_24 rfl gX11_219 rfl (by decide) (sh_50 z _) rfl rfl (Nat.le_of_ble_eq_true rfl) (Nat.le_of_ble_eq_true rfl) rfl ?_
      refine m_wrong ?_
      first
        | (exfalso; omega)
        | exact r_zret dX11_takes_27 rfl (by decide) (k0 (by omega) _ ⟨MF_cu (by omega), by rw [cu_ap, if_pos ⟨rfl, rfl, rfl⟩]⟩ (by rw [cu_ap, if_neg (by omega)]; exact ha))
theorem m_isDig {z : xZ} {d : Nat} {Q : tQ} {c : tC} {L : tL} {s e p : Nat} (hs : MS c s e) (ha : c 50 0 51 = (p : Int)) (hp : p ≤ e) (k1 : (p < e ∧ 48 ≤ eT L s p ∧ eT L s p ≤ 57) → Q (some (.int (iI 1))) c L) (k0 : ¬ (p < e ∧ 48 ≤ eT L s p ∧ eT L s p ≤ 57) → Q (some (.int (iI 0))) c L) : En z (d + 2) MX11_isDigit Q 0 [some (.ref (xad z 50 0))] [] c L := by
  have hs1 := hs.2.1
  have hs2 := hs.2.2.1
  have hs3 := hs.2.2.2
  have hT1 := (eT_in L s p).1
  have hT2 := (eT_in L s p).2
  refine r_aloadN 1 dX11_isDigit_0 rfl rfl ?_
  refine r_geti 4 dX11_isDigit_1 rfl fX11_203 (by decide) (sh_50 z _) rfl ?_
  rw [ha]
  refine r_aloadN 5 dX11_isDigit_4 rfl rfl ?_
  refine r_geti 8 dX11_isDigit_5 rfl fX11_206 (by decide) (sh_50 z _) rfl ?_
  rw [hs1]
  refine r_icge 33 11 dX11_isDigit_8 rfl (by decide) (by omega) (by omega) (fun h8 => ?_) (fun h8 => ?_)
  · refine r_iconst 34 dX11_isDigit_33 rfl ?_
    exact r_zret dX11_isDigit_34 rfl (by decide) (k0 (by omega))
  · refine r_aloadN 12 dX11_isDigit_11 rfl rfl ?_
    refine r_cv0 15 dX11_isDigit_12 rfl gX11_215 rfl (by decide) (sh_50 z _) rfl rfl (Nat.le_of_ble_eq_true rfl) (Nat.le_of_ble_eq_true rfl) rfl ?_
    refine m_ltr hs ha (by omega) ?_
    refine r_bipush 17 dX11_isDigit_15 rfl (by decide) ?_
    refine r_iclt 33 20 dX11_isDigit_17 rfl (by decide) (by omega) (by omega) (fun h17 => ?_) (fun h17 => ?_)
    · refine r_iconst 34 dX11_isDigit_33 rfl ?_
      exact r_zret dX11_isDigit_34 rfl (by decide) (k0 (by omega))
    · refine r_aloadN 21 dX11_isDigit_20 rfl rfl ?_
      refine r_cv0 24 dX11_isDigit_21 rfl gX11_215 rfl (by decide) (sh_50 z _) rfl rfl (Nat.le_of_ble_eq_true rfl) (Nat.le_of_ble_eq_true rfl) rfl ?_
      refine m_ltr hs ha (by omega) ?_
      refine r_bipush 26 dX11_isDigit_24 rfl (by decide) ?_
      refine r_icgt 33 29 dX11_isDigit_26 rfl (by decide) (by omega) (by omega) (fun h26 => ?_) (fun h26 => ?_)
      · refine r_iconst 34 dX11_isDigit_33 rfl ?_
        exact r_zret dX11_isDigit_34 rfl (by decide) (k0 (by omega))
      · refine r_iconst 30 dX11_isDigit_29 rfl ?_
        refine r_goto 34 dX11_isDigit_30 (by decide) ?_
        exact r_zret dX11_isDigit_34 rfl (by decide) (k1 (by omega))
theorem m_num_loop {z : xZ} {d : Nat} {Q : tQ} {L : tL} {s e p : Nat} {c0 : tC} {lo0 hi0 : Int} (hs0 : MS c0 s e) (hp : p ≤ e) (kk : ∀ c v3, MP c0 c (tNum (eT L s) e 3 p 0).1 → c 50 0 53 = (tNum (eT L s) e 3 p 0).2 → c 50 0 54 = (p : Int) → En z (d + 3) MX11_number Q 78 [some (.ref (xad z 50 0)), some (.int (iI lo0)), some (.int (iI hi0)), v3] [] c L) : ∀ (k i : Nat) (c : tC) (v : Int), i + k = 3 → p + i ≤ e → MP c0 c (p + i) → c 50 0 53 = v → c 50 0 54 = (p : Int) → tNum (eT L s) e 3 p 0 = tNum (eT L s) e k (p + i) v → En z (d + 3) MX11_number Q 31 [some (.ref (xad z 50 0)), some (.int (iI lo0)), some (.int (iI hi0)), some (.int (iI (i : Int)))] [] c L := by
  intro k
  induction k with
  | zero =>
    intro i c v hi hpe hP hv h54 hq
    refine r_iloadN 32 dX11_number_31 rfl rfl ?_
    refine r_iconst 33 dX11_number_32 rfl ?_
    refine r_icge 78 36 dX11_number_33 rfl (by decide) (by omega) (by omega) (fun h33 => ?_) (fun h33 => ?_)
    · exact kk c _ (by rw [hq]; exact hP) (by rw [hq]; exact hv) h54
    · exfalso; omega
  | succ k ih =>
    intro i c v hi hpe hP hv h54 hq
    have hs := MS_fr hs0 hP.1
    refine r_iloadN 32 dX11_number_31 rfl rfl ?_
    refine r_iconst 33 dX11_number_32 rfl ?_
    refine r_icge 78 36 dX11_number_33 rfl (by decide) (by omega) (by omega) (fun h33 => ?_) (fun h33 => ?_)
    · first
        | (exfalso; omega)
        | exact kk c _ (by rw [hq, tNum, if_neg y37]; exact hP) (by rw [hq, tNum, if_neg y37]; exact hv) h54
    · refine r_aloadN 37 dX11_number_36 rfl rfl ?_
      refine r_cv0 40 dX11_number_37 rfl gX11_228 rfl (by decide) (sh_50 z _) rfl rfl (Nat.le_of_ble_eq_true rfl) (Nat.le_of_ble_eq_true rfl) rfl ?_
      refine m_isDig (p := p + i) hs hP.2 hpe (fun y37 => ?_) (fun y37 => ?_)
      · refine r_ifeqF 43 dX11_number_40 rfl 78 (by decide) (by decide) (by decide) ?_
        refine r_aloadN 44 dX11_number_43 rfl rfl ?_
        refine r_bipush 46 dX11_number_44 rfl (by decide) ?_
        refine r_aloadN 47 dX11_number_46 rfl rfl ?_
        refine r_geti 50 dX11_number_47 rfl fX11_225 (by decide) (sh_50 z _) rfl ?_
        rw [hv]
        refine r_imul 51 dX11_number_50 rfl ?_
        refine r_aloadN 52 dX11_number_51 rfl rfl ?_
        refine r_cv0 55 dX11_number_52 rfl gX11_215 rfl (by decide) (sh_50 z _) rfl rfl (Nat.le_of_ble_eq_true rfl) (Nat.le_of_ble_eq_true rfl) rfl ?_
        refine m_ltr (p := p + i) hs hP.2 y37.1 ?_
        refine r_iadd 56 dX11_number_55 rfl ?_
        refine r_bipush 58 dX11_number_56 rfl (by decide) ?_
        refine r_isub 59 dX11_number_58 rfl ?_
        refine r_puti 62 dX11_number_59 rfl pX11_225 (by decide) (sh_50 z _) rfl ?_
        refine r_aloadN 63 dX11_number_62 rfl rfl ?_
        refine r_dupr 64 dX11_number_63 rfl ?_
        refine r_geti 67 dX11_number_64 rfl fX11_203 (by decide) (sh_50 z _) rfl ?_
        rw [cu_ap, if_neg (by omega), hP.2]
        refine r_iconst 68 dX11_number_67 rfl ?_
        refine r_iadd 69 dX11_number_68 rfl ?_
        rw [show ((p + i : Nat) : Int) + 1 = ((p + i + 1 : Nat) : Int) by omega]
        refine r_puti 72 dX11_number_69 rfl pX11_203 (by decide) (sh_50 z _) rfl ?_
        refine r_iinc3 75 dX11_number_72 rfl rfl (by decide) ?_
        refine r_goto 31 dX11_number_75 (by decide) ?_
        refine ih (i + 1) _ (v * 10 + eT L s (p + i) - 48) (by omega) (by omega) ?_ ?_ ?_ ?_
        · rw [show p + (i + 1) = p + i + 1 by omega]
          exact ⟨MF_tr hP.1 (MF_tr (MF_cu (j := 53) (by omega)) (MF_cu (by omega))), by rw [cu_ap, if_pos ⟨rfl, rfl, rfl⟩]⟩
        · rw [cu_ap, if_neg (by omega), cu_ap, if_pos ⟨rfl, rfl, rfl⟩]; omega
        · rw [cu_ap, if_neg (by omega), cu_ap, if_neg (by omega)]; exact h54
        · rw [hq, tNum, if_pos y37, show p + (i + 1) = p + i + 1 by omega]
      · refine r_ifeqT 78 0 dX11_number_40 (by decide) (by decide) (by decide) ?_
        first
          | (exfalso; omega)
          | exact kk c _ (by rw [hq, tNum, if_neg y37]; exact hP) (by rw [hq, tNum, if_neg y37]; exact hv) h54
theorem m_number {z : xZ} {d : Nat} {Q : tQ} {c : tC} {L : tL} {s e p : Nat} {lo0 hi0 : Int} (hs : MS c s e) (ha : c 50 0 51 = (p : Int)) (hp : p ≤ e) (hl : inR lo0) (hh : inR hi0) (k1 : ∀ c2, tOk (eT L s) e p lo0 hi0 = true → MP c c2 (tNum (eT L s) e 3 p 0).1 → c2 50 0 53 = (tNum (eT L s) e 3 p 0).2 → Q (some (.int (iI 1))) c2 L) (k0 : ∀ c2, tOk (eT L s) e p lo0 hi0 = false → MB c c2 p → Q (some (.int (iI 0))) c2 L) : En z (d + 3) MX11_number Q 0 [some (.ref (xad z 50 0)), some (.int (iI lo0)), some (.int (iI hi0)), none] [] c L := by
  have hl1 := hl.1
  have hl2 := hl.2
  have hh1 := hh.1
  have hh2 := hh.2
  refine r_aloadN 1 dX11_number_0 rfl rfl ?_
  refine r_aloadN 2 dX11_number_1 rfl rfl ?_
  refine r_geti 5 dX11_number_2 rfl fX11_203 (by decide) (sh_50 z _) rfl ?_
  rw [ha]
  refine r_puti 8 dX11_number_5 rfl pX11_222 (by decide) (sh_50 z _) rfl ?_
  refine r_aloadN 9 dX11_number_8 rfl rfl ?_
  refine r_iconst 10 dX11_number_9 rfl ?_
  refine r_puti 13 dX11_number_10 rfl pX11_225 (by decide) (sh_50 z _) rfl ?_
  refine r_aloadN 14 dX11_number_13 rfl rfl ?_
  have hc9 : MF c (cu (cu c 50 0 54 (p : Int)) 50 0 53 0) := MF_tr (MF_cu (j := 54) (by omega)) (MF_cu (by omega))
  refine r_cv0 17 dX11_number_14 rfl gX11_228 rfl (by decide) (sh_50 z _) rfl rfl (Nat.le_of_ble_eq_true rfl) (Nat.le_of_ble_eq_true rfl) rfl ?_
  refine m_isDig (c := cu (cu c 50 0 54 (p : Int)) 50 0 53 0) (MS_fr hs hc9) ha hp (fun y14 => ?_) (fun y14 => ?_)
  · refine r_ifneT 29 0 dX11_number_17 (by decide) (by decide) (by decide) ?_
    refine r_iconst 30 dX11_number_29 rfl ?_
    refine r_istore3 31 dX11_number_30 rfl rfl (by decide) ?_
    refine m_num_loop (c0 := c) (lo0 := lo0) (hi0 := hi0) hs hp (fun c2 v3 hP hv h54 => ?_) 3 0 _ 0 rfl (by omega) ⟨hc9, ha⟩ rfl rfl rfl
    have ht := tNum_3 (T := eT L s) hp
    have hlt : p < (tNum (eT L s) e 3 p 0).1 := tNum_lt (T := eT L s) (k := 2) (v := 0) y14 (by decide) (by decide) (by decide)
    refine r_aloadN 79 dX11_number_78 rfl rfl ?_
    refine r_geti 82 dX11_number_79 rfl fX11_225 (by decide) (sh_50 z _) rfl ?_
    rw [hv]
    refine r_iloadN 83 dX11_number_82 rfl rfl ?_
    refine r_iclt 94 86 dX11_number_83 rfl (by decide) (by omega) (by omega) (fun h83 => ?_) (fun h83 => ?_)
    · refine r_aloadN 95 dX11_number_94 rfl rfl ?_
      refine r_aloadN 96 dX11_number_95 rfl rfl ?_
      refine r_geti 99 dX11_number_96 rfl fX11_222 (by decide) (sh_50 z _) rfl ?_
      rw [h54]
      refine r_cv1 102 dX11_number_99 rfl gX11_219 rfl (by decide) (sh_50 z _) rfl rfl (Nat.le_of_ble_eq_true rfl) (Nat.le_of_ble_eq_true rfl) rfl ?_
      refine m_wrong ?_
      refine r_ifeqT 109 0 dX11_number_102 (by decide) (by decide) (by decide) ?_
      refine r_iconst 110 dX11_number_109 rfl ?_
      first
        | exact r_zret dX11_number_110 rfl (by decide) (k1 c2 (decide_eq_true (by omega)) hP hv)
        | exact r_zret dX11_number_110 rfl (by decide) (k0 _ (decide_eq_false (by omega)) ⟨MF_tr hP.1 (MF_cu (by omega)), by rw [cu_ap, if_pos ⟨rfl, rfl, rfl⟩]⟩)
    · refine r_aloadN 87 dX11_number_86 rfl rfl ?_
      refine r_geti 90 dX11_number_87 rfl fX11_225 (by decide) (sh_50 z _) rfl ?_
      rw [hv]
      refine r_iloadN 91 dX11_number_90 rfl rfl ?_
      refine r_icle 105 94 dX11_number_91 rfl (by decide) (by omega) (by omega) (fun h91 => ?_) (fun h91 => ?_)
      · refine r_iconst 106 dX11_number_105 rfl ?_
        refine r_goto 110 dX11_number_106 (by decide) ?_
        first
          | exact r_zret dX11_number_110 rfl (by decide) (k1 c2 (decide_eq_true (by omega)) hP hv)
          | exact r_zret dX11_number_110 rfl (by decide) (k0 _ (decide_eq_false (by omega)) ⟨MF_tr hP.1 (MF_cu (by omega)), by rw [cu_ap, if_pos ⟨rfl, rfl, rfl⟩]⟩)
      · refine r_aloadN 95 dX11_number_94 rfl rfl ?_
        refine r_aloadN 96 dX11_number_95 rfl rfl ?_
        refine r_geti 99 dX11_number_96 rfl fX11_222 (by decide) (sh_50 z _) rfl ?_
        rw [h54]
        refine r_cv1 102 dX11_number_99 rfl gX11_219 rfl (by decide) (sh_50 z _) rfl rfl (Nat.le_of_ble_eq_true rfl) (Nat.le_of_ble_eq_true rfl) rfl ?_
        refine m_wrong ?_
        refine r_ifeqT 109 0 dX11_number_102 (by decide) (by decide) (by decide) ?_
        refine r_iconst 110 dX11_number_109 rfl ?_
        first
          | exact r_zret dX11_number_110 rfl (by decide) (k1 c2 (decide_eq_true (by omega)) hP hv)
          | exact r_zret dX11_number_110 rfl (by decide) (k0 _ (decide_eq_false (by omega)) ⟨MF_tr hP.1 (MF_cu (by omega)), by rw [cu_ap, if_pos ⟨rfl, rfl, rfl⟩]⟩)
  · refine r_ifneF 20 dX11_number_17 rfl 29 (by decide) (by decide) (by decide) ?_
    refine r_aloadN 21 dX11_number_20 rfl rfl ?_
    refine r_aloadN 22 dX11_number_21 rfl rfl ?_
    refine r_geti 25 dX11_number_22 rfl fX11_203 (by decide) (sh_50 z _) rfl ?_
    rw [show cu (cu c 50 0 54 (p : Int)) 50 0 53 0 50 0 51 = (p : Int) from ha]
    refine r_cv1 28 dX11_number_25 rfl gX11_219 rfl (by decide) (sh_50 z _) rfl rfl (Nat.le_of_ble_eq_true rfl) (Nat.le_of_ble_eq_true rfl) rfl ?_
    refine m_wrong ?_
    exact r_zret dX11_number_28 rfl (by decide) (k0 _ (decide_eq_false (by rw [tNum, if_neg y14]; show ¬ (p < p ∧ _); omega)) ⟨MF_tr hc9 (MF_cu (by omega)), by rw [cu_ap, if_pos ⟨rfl, rfl, rfl⟩]⟩)
