/-! the model reads a plan -/
def tPd (T : Nat → Int) (e : Nat) (n : Int) (k q : Nat) (l : List tI) : Nat × List tI × Bool := if q < e then (if k = 0 then (q, l, false) else if T q = 59 then tItems T e n k (q + 1) l else (q, l, false)) else (q, l, true)
theorem tItems_hd {T : Nat → Int} {e k p : Nat} {n : Int} {l : List tI} (h : iOk T e n p = true) : tItems T e n (k + 1) p l = tPd T e n k (iQ T e p) (l ++ [iX T e p]) := by
  rw [tItems, if_pos h]
  rfl
theorem tItems_no {T : Nat → Int} {e k p : Nat} {n : Int} {l : List tI} (h : iOk T e n p = false) : tItems T e n (k + 1) p l = (iF T e n p, l, false) := by
  rw [tItems, if_neg (bne h)]
theorem m_readsP_loop {z : xZ} {d : Nat} {Q : tQ} {L : tL} {s e : Nat} {n : Int} {c0 : tC} (hnn : 0 ≤ n ∧ n ≤ 14) (hn0 : c0 50 0 2 = n) (k1 : ∀ c2, (tItems (eT L s) e n 8 0 []).2.2 = true → MV c0 c2 → MI c2 (tItems (eT L s) e n 8 0 []).2.1 → Q (some (.int (iI 1))) c2 L) (k0 : ∀ c2, (tItems (eT L s) e n 8 0 []).2.2 = false → MV c0 c2 → c2 50 0 55 = (((tItems (eT L s) e n 8 0 []).1 : Nat) : Int) → Q (some (.int (iI 0))) c2 L) : ∀ (k q : Nat) (l : List tI) (c : tC), l.length + k = 8 → q ≤ e → MV c0 c → MS c s e → c 50 0 51 = (q : Int) → MI c l → tItems (eT L s) e n 8 0 [] = tPd (eT L s) e n k q l → En z (d + 5) MX11_reads Q 28 [some (.ref (xad z 50 0)), some (.int (iI 1))] [] c L := by
  intro k
  induction k with
  | zero =>
    intro q l c he hq hG hs ha hQ hR
    have hs2 := hs.2.2.1
    refine r_aloadN 29 dX11_reads_28 rfl rfl ?_
    refine r_geti 32 dX11_reads_29 rfl fX11_203 (by decide) (sh_50 z _) rfl ?_
    rw [ha]
    refine r_aloadN 33 dX11_reads_32 rfl rfl ?_
    refine r_geti 36 dX11_reads_33 rfl fX11_206 (by decide) (sh_50 z _) rfl ?_
    rw [hs.2.1]
    refine r_icge 93 39 dX11_reads_36 rfl (by decide) (by omega) (by omega) (fun h36 => ?_) (fun h36 => ?_)
    · refine r_iconst 94 dX11_reads_93 rfl ?_
      exact r_zret dX11_reads_94 rfl (by decide) (k1 c (by rw [hR, tPd, if_neg (by omega)]) hG (by rw [hR, tPd, if_neg (by omega)]; exact hQ))
    · refine r_iloadN 40 dX11_reads_39 rfl rfl ?_
      refine r_ifeqF 43 dX11_reads_40 rfl 52 (by decide) (by decide) (by decide) ?_
      refine r_aloadN 44 dX11_reads_43 rfl rfl ?_
      refine r_geti 47 dX11_reads_44 rfl fX11_238 (by decide) (sh_50 z _) rfl ?_
      rw [hQ.1]
      refine r_bipush 49 dX11_reads_47 rfl (by decide) ?_
      refine r_iceq 61 52 dX11_reads_49 rfl (by decide) (by omega) (by omega) (fun h49 => ?_) (fun h49 => ?_)
      · refine r_aloadN 62 dX11_reads_61 rfl rfl ?_
        refine r_aloadN 63 dX11_reads_62 rfl rfl ?_
        refine r_geti 66 dX11_reads_63 rfl fX11_203 (by decide) (sh_50 z _) rfl ?_
        rw [ha]
        refine r_cv1 69 dX11_reads_66 rfl gX11_219 rfl (by decide) (sh_50 z _) rfl rfl (Nat.le_of_ble_eq_true rfl) (Nat.le_of_ble_eq_true rfl) rfl ?_
        refine m_wrong ?_
        have hR2 : tItems (eT L s) e n 8 0 [] = (q, l, false) := by rw [hR, tPd, if_pos (by omega), if_pos rfl]
        exact r_zret dX11_reads_69 rfl (by decide) (k0 _ (by rw [hR2]) (MV_tr hG (MF_MV (MF_cu (by omega)))) (by rw [hR2, cu_ap, if_pos ⟨rfl, rfl, rfl⟩]))
      · exfalso; omega
  | succ k ih =>
    intro q l c he hq hG hs ha hQ hR
    have hs2 := hs.2.2.1
    refine r_aloadN 29 dX11_reads_28 rfl rfl ?_
    refine r_geti 32 dX11_reads_29 rfl fX11_203 (by decide) (sh_50 z _) rfl ?_
    rw [ha]
    refine r_aloadN 33 dX11_reads_32 rfl rfl ?_
    refine r_geti 36 dX11_reads_33 rfl fX11_206 (by decide) (sh_50 z _) rfl ?_
    rw [hs.2.1]
    refine r_icge 93 39 dX11_reads_36 rfl (by decide) (by omega) (by omega) (fun h36 => ?_) (fun h36 => ?_)
    · refine r_iconst 94 dX11_reads_93 rfl ?_
      exact r_zret dX11_reads_94 rfl (by decide) (k1 c (by rw [hR, tPd, if_neg (by omega)]) hG (by rw [hR, tPd, if_neg (by omega)]; exact hQ))
    · refine r_iloadN 40 dX11_reads_39 rfl rfl ?_
      refine r_ifeqF 43 dX11_reads_40 rfl 52 (by decide) (by decide) (by decide) ?_
      refine r_aloadN 44 dX11_reads_43 rfl rfl ?_
      refine r_geti 47 dX11_reads_44 rfl fX11_238 (by decide) (sh_50 z _) rfl ?_
      rw [hQ.1]
      refine r_bipush 49 dX11_reads_47 rfl (by decide) ?_
      refine r_iceq 61 52 dX11_reads_49 rfl (by decide) (by omega) (by omega) (fun h49 => ?_) (fun h49 => ?_)
      · exfalso; omega
      · refine r_aloadN 53 dX11_reads_52 rfl rfl ?_
        refine r_bipush 55 dX11_reads_53 rfl (by decide) ?_
        refine r_cv1 58 dX11_reads_55 rfl gX11_232 rfl (by decide) (sh_50 z _) rfl rfl (Nat.le_of_ble_eq_true rfl) (Nat.le_of_ble_eq_true rfl) rfl ?_
        refine m_takes hs ha hq (by decide) (fun y55 c2 P55 => ?_) (fun y55 c2 P55 Z55 => ?_)
        · refine r_ifneT 70 0 dX11_reads_58 (by decide) (by decide) (by decide) ?_
          refine r_iloadN 71 dX11_reads_70 rfl rfl ?_
          refine r_ifeqF 74 dX11_reads_71 rfl 84 (by decide) (by decide) (by decide) ?_
          refine r_aloadN 75 dX11_reads_74 rfl rfl ?_
          refine r_cv0 78 dX11_reads_75 rfl gX11_241 rfl (by decide) (sh_50 z _) rfl rfl (Nat.le_of_ble_eq_true rfl) (Nat.le_of_ble_eq_true rfl) rfl ?_
          refine m_item (p := q + 1) (m := l.length) (n := n) (l := l) (MS_fr hs P55.1) P55.2 (by omega) (MI_fr hQ P55.1) rfl ((P55.1 50 0 56 (by omega)).trans hQ.1) (by omega) hnn ((P55.1 50 0 2 (by omega)).trans ((hG 50 0 2 (by omega) (by omega)).trans hn0)) (fun c3 b75 f75 g75 h75 => ?_) (fun c3 b75 f75 g75 => ?_)
          · refine r_ifneT 28 0 dX11_reads_78 (by decide) (by decide) (by decide) ?_
            have hr := iOk_rng (T := eT L s) (show q + 1 ≤ e by omega) b75
            exact ih (iQ (eT L s) e (q + 1)) _ _ (by rw [List.length_append]; show l.length + 1 + k = 8; omega) hr.2.2.1 (MV_tr hG (MV_tr (MF_MV P55.1) f75)) (MS_frV (MS_fr hs P55.1) f75) g75 h75 (by rw [hR, tPd, if_pos y55.1, if_neg (by omega), if_pos y55.2, tItems_hd b75])
          · refine r_ifneF 81 dX11_reads_78 rfl 28 (by decide) (by decide) (by decide) ?_
            refine r_goto 91 dX11_reads_81 (by decide) ?_
            refine r_iconst 92 dX11_reads_91 rfl ?_
            have hR2 : tItems (eT L s) e n 8 0 [] = (iF (eT L s) e n (q + 1), l, false) := by rw [hR, tPd, if_pos y55.1, if_neg (by omega), if_pos y55.2, tItems_no b75]
            exact r_zret dX11_reads_92 rfl (by decide) (k0 _ (by rw [hR2]) (MV_tr hG (MV_tr (MF_MV P55.1) f75)) (by rw [hR2]; exact g75))
        · refine r_ifneF 61 dX11_reads_58 rfl 70 (by decide) (by decide) (by decide) ?_
          refine r_aloadN 62 dX11_reads_61 rfl rfl ?_
          refine r_aloadN 63 dX11_reads_62 rfl rfl ?_
          refine r_geti 66 dX11_reads_63 rfl fX11_203 (by decide) (sh_50 z _) rfl ?_
          rw [Z55]
          refine r_cv1 69 dX11_reads_66 rfl gX11_219 rfl (by decide) (sh_50 z _) rfl rfl (Nat.le_of_ble_eq_true rfl) (Nat.le_of_ble_eq_true rfl) rfl ?_
          refine m_wrong ?_
          have hR2 : tItems (eT L s) e n 8 0 [] = (q, l, false) := by rw [hR, tPd, if_pos (by omega), if_neg (by omega), if_neg (fun h => y55 ⟨by omega, h⟩)]
          exact r_zret dX11_reads_69 rfl (by decide) (k0 _ (by rw [hR2]) (MV_tr hG (MF_MV (MF_tr P55.1 (MF_cu (by omega))))) (by rw [hR2, cu_ap, if_pos ⟨rfl, rfl, rfl⟩]))
theorem m_readsP {z : xZ} {d : Nat} {Q : tQ} {c : tC} {L : tL} {s e : Nat} {n : Int} (hs : MS c s e) (ha : c 50 0 51 = 0) (hnn : 0 ≤ n ∧ n ≤ 14) (hn : c 50 0 2 = n) (k1 : ∀ c2, (tItems (eT L s) e n 8 0 []).2.2 = true → MV c c2 → MI c2 (tItems (eT L s) e n 8 0 []).2.1 → Q (some (.int (iI 1))) c2 L) (k0 : ∀ c2, (tItems (eT L s) e n 8 0 []).2.2 = false → MV c c2 → c2 50 0 55 = (((tItems (eT L s) e n 8 0 []).1 : Nat) : Int) → Q (some (.int (iI 0))) c2 L) : En z (d + 5) MX11_reads Q 0 [some (.ref (xad z 50 0)), some (.int (iI 1))] [] c L := by
  have hs2 := hs.2.2.1
  refine r_aloadN 1 dX11_reads_0 rfl rfl ?_
  refine r_iconst 2 dX11_reads_1 rfl ?_
  refine r_puti 5 dX11_reads_2 rfl pX11_238 (by decide) (sh_50 z _) rfl ?_
  refine r_iloadN 6 dX11_reads_5 rfl rfl ?_
  refine r_ifeqF 9 dX11_reads_6 rfl 19 (by decide) (by decide) (by decide) ?_
  refine r_aloadN 10 dX11_reads_9 rfl rfl ?_
  refine r_cv0 13 dX11_reads_10 rfl gX11_241 rfl (by decide) (sh_50 z _) rfl rfl (Nat.le_of_ble_eq_true rfl) (Nat.le_of_ble_eq_true rfl) rfl ?_
  refine m_item (c := cu c 50 0 56 0) (p := 0) (m := 0) (n := n) (l := []) (MS_frV hs (fun g i j n1 n2 => by rw [cu_ap, if_neg (by omega)])) ha (by omega) ⟨rfl, fun j hj => absurd hj (Nat.not_lt_zero _)⟩ rfl rfl (by decide) hnn hn (fun c3 b75 f75 g75 h75 => ?_) (fun c3 b75 f75 g75 => ?_)
  · refine r_ifneT 28 0 dX11_reads_13 (by decide) (by decide) (by decide) ?_
    have hr := iOk_rng (T := eT L s) (Nat.zero_le e) b75
    have f9 : MV c (cu c 50 0 56 0) := fun g i j n1 n2 => by rw [cu_ap, if_neg (by omega)]
    exact m_readsP_loop hnn hn k1 k0 7 (iQ (eT L s) e 0) _ c3 rfl hr.2.2.1 (MV_tr f9 f75) (MS_frV (MS_frV hs f9) f75) g75 h75 (tItems_hd b75)
  · refine r_ifneF 16 dX11_reads_13 rfl 28 (by decide) (by decide) (by decide) ?_
    refine r_goto 26 dX11_reads_16 (by decide) ?_
    refine r_iconst 27 dX11_reads_26 rfl ?_
    have f9 : MV c (cu c 50 0 56 0) := fun g i j n1 n2 => by rw [cu_ap, if_neg (by omega)]
    have hR2 : tItems (eT L s) e n 8 0 [] = (iF (eT L s) e n 0, [], false) := tItems_no b75
    exact r_zret dX11_reads_27 rfl (by decide) (k0 _ (by rw [hR2]) (MV_tr f9 f75) (by rw [hR2]; exact g75))
theorem m_textP {z : xZ} {d : Nat} {Q : tQ} {c : tC} {L : tL} {s : Int} (hg : MG c) (hS : SH c L) (hs : inR s) (kb : ¬ fBar (c 51) s = 0 → Q (some (.int (iI (fBar (c 51) s)))) c L) (kw : ∀ c2, fBar (c 51) s = 0 → (rPlan c L s).2.2 = false → MTf c c2 → c2 50 0 8 = (((rPlan c L s).1 : Nat) : Int) → Q (some (.int (iI (-6)))) c2 L) (k : ∀ c2, fBar (c 51) s = 0 → (rPlan c L s).2.2 = true → MTf c c2 → c2 50 0 8 = -1 → MI c2 (rPlan c L s).2.1 → Q (some (.int (iI 0))) c2 L) : En z (d + 6) MX11_text Q 0 [some (.ref (xad z 50 0)), some (.int (iI s)), some (.int (iI 1)), none] [] c L := by
  have hs1 := hs.1
  have hs2 := hs.2
  have hb := fBar_rng (c 51) s
  have hg9 := hg
  unfold MG RT_rng at hg9
  refine r_aloadN 1 dX11_text_0 rfl rfl ?_
  refine r_iloadN 2 dX11_text_1 rfl rfl ?_
  refine r_cv1 5 dX11_text_2 rfl gX11_247 rfl (by decide) (sh_50 z _) rfl rfl (Nat.le_of_ble_eq_true rfl) (Nat.le_of_ble_eq_true rfl) rfl ?_
  refine m_wants hg hS (by assumption) (fun r2 e2 => ?_)
  refine r_istore3 6 dX11_text_5 rfl rfl (by decide) ?_
  refine r_iloadN 7 dX11_text_6 rfl rfl ?_
  refine r_ifeq 12 10 dX11_text_7 rfl (by decide) (by omega) (fun h7 => ?_) (fun h7 => ?_)
  · have hz9 := fBar_0 (A := c 51) (s := s) (by omega)
    have hf0 : fBar (c 51) s = 0 := by omega
    obtain ⟨sh, hsh0⟩ := Int.eq_ofNat_of_zero_le (show 0 ≤ s by omega)
    subst hsh0
    rw [Int.toNat_natCast] at hz9
    have hi9 := SH_i hS sh (by omega)
    unfold SI at hi9
    obtain ⟨e, he9⟩ := Int.eq_ofNat_of_zero_le (show 0 ≤ c 51 46 sh by omega)
    have hrl : rPlan c L (sh : Int) = tItems (eT L sh) e (c 50 0 2) 8 0 [] := by unfold rPlan; rw [Int.toNat_natCast, he9, Int.toNat_natCast]
    refine r_aloadN 13 dX11_text_12 rfl rfl ?_
    refine r_bipush 15 dX11_text_13 rfl (by decide) ?_
    refine r_iloadN 16 dX11_text_15 rfl rfl ?_
    refine r_imul 17 dX11_text_16 rfl ?_
    refine r_puti 20 dX11_text_17 rfl pX11_209 (by decide) (sh_50 z _) rfl ?_
    refine r_aloadN 21 dX11_text_20 rfl rfl ?_
    refine r_iconst 22 dX11_text_21 rfl ?_
    refine r_puti 25 dX11_text_22 rfl pX11_203 (by decide) (sh_50 z _) rfl ?_
    refine r_aloadN 26 dX11_text_25 rfl rfl ?_
    refine r_aloadN 27 dX11_text_26 rfl rfl ?_
    refine r_getq 30 dX11_text_27 rfl fX11_125 (by decide) (sh_50 z _) rfl ?_
    refine r_iloadN 31 dX11_text_30 rfl rfl ?_
    refine r_iald (n := 8) 32 dX11_text_31 (sh) rfl rfl (by decide) (sh_51 z _) (by decide) (by omega) (by omega) ?_
    rw [show cu (cu c 50 0 50 (60 * (sh : Int))) 50 0 51 0 51 46 sh = (e : Int) from he9]
    refine r_puti 35 dX11_text_32 rfl pX11_206 (by decide) (sh_50 z _) rfl ?_
    refine r_aloadN 36 dX11_text_35 rfl rfl ?_
    refine r_iconst 37 dX11_text_36 rfl ?_
    refine r_puti 40 dX11_text_37 rfl pX11_13 (by decide) (sh_50 z _) rfl ?_
    refine r_aloadN 41 dX11_text_40 rfl rfl ?_
    refine r_iloadN 42 dX11_text_41 rfl rfl ?_
    have f9 : MTf c (cu (cu (cu (cu c 50 0 50 (60 * (sh : Int))) 50 0 51 0) 50 0 52 (e : Int)) 50 0 8 (-1)) := fun g i j n1 n2 => by rw [cu_ap, if_neg (by omega), cu_ap, if_neg (by omega), cu_ap, if_neg (by omega), cu_ap, if_neg (by omega)]
    refine r_cv1 45 dX11_text_42 rfl gX11_250 rfl (by decide) (sh_50 z _) rfl rfl (Nat.le_of_ble_eq_true rfl) (Nat.le_of_ble_eq_true rfl) rfl ?_
    refine m_readsP (c := (cu (cu (cu (cu c 50 0 50 (60 * (sh : Int))) 50 0 51 0) 50 0 52 (e : Int)) 50 0 8 (-1))) (s := sh) (e := e) (n := c 50 0 2) ⟨rfl, rfl, by omega, by omega⟩ rfl hg9.2.2.1 rfl (fun c3 b42 f42 g42 => ?_) (fun c3 b42 f42 g42 => ?_)
    · refine r_ifneT 59 0 dX11_text_45 (by decide) (by decide) (by decide) ?_
      refine r_iconst 60 dX11_text_59 rfl ?_
      refine r_ret dX11_text_60 rfl (k _ hf0 (by rw [hrl]; exact b42) (fun g i j n1 n2 => ?_) ?_ (by rw [hrl]; exact g42))
      · rw [f42 g i j (by omega) (by omega)]
        exact f9 g i j n1 n2
      · rw [f42 50 0 8 (by omega) (by omega)]
        rfl
    · refine r_ifneF 48 dX11_text_45 rfl 59 (by decide) (by decide) (by decide) ?_
      refine r_aloadN 49 dX11_text_48 rfl rfl ?_
      refine r_aloadN 50 dX11_text_49 rfl rfl ?_
      refine r_geti 53 dX11_text_50 rfl fX11_212 (by decide) (sh_50 z _) rfl ?_
      rw [g42]
      refine r_puti 56 dX11_text_53 rfl pX11_13 (by decide) (sh_50 z _) rfl ?_
      refine r_bipush 58 dX11_text_56 rfl (by decide) ?_
      refine r_ret dX11_text_58 rfl (kw _ hf0 (by rw [hrl]; exact b42) (fun g i j n1 n2 => ?_) ?_)
      · rw [cu_ap, if_neg (by omega), f42 g i j (by omega) (by omega)]
        exact f9 g i j n1 n2
      · rw [cu_ap, if_pos ⟨rfl, rfl, rfl⟩, hrl]
  · refine r_iloadN 11 dX11_text_10 rfl rfl ?_
    rw [e2]
    exact r_ret dX11_text_11 rfl (kb (by omega))
/-- plan m of the model's rows -/
def PM (c : tC) (m : Nat) (l : List tI) : Prop := c 51 38 m = ((l.length : Nat) : Int) ∧ ∀ j, j < l.length → c 51 39 (8 * m + j) = (l.getD j (0, 0, 0, 0, 0)).1 ∧ c 51 40 (8 * m + j) = (l.getD j (0, 0, 0, 0, 0)).2.1 ∧ c 51 41 (8 * m + j) = (l.getD j (0, 0, 0, 0, 0)).2.2.1 ∧ c 51 42 (8 * m + j) = (l.getD j (0, 0, 0, 0, 0)).2.2.2.1 ∧ c 51 43 (8 * m + j) = (l.getD j (0, 0, 0, 0, 0)).2.2.2.2
theorem m_plan_loop {z : xZ} {d : Nat} {Q : tQ} {L : tL} {s b : Int} {m : Nat} {l : List tI} {c0 : tC} (hI : MI c0 l) (hl : l.length ≤ 8) (hm : m < 8) (hm6 : c0 50 0 6 = (m : Int)) (kk : ∀ c, (∀ g i j, ¬ (g = 51 ∧ (39 ≤ i ∧ i ≤ 43) ∧ 8 * m ≤ j ∧ j < 8 * m + 8) → c g i j = c0 g i j) → (∀ j, j < l.length → c 51 39 (8 * m + j) = (l.getD j (0, 0, 0, 0, 0)).1 ∧ c 51 40 (8 * m + j) = (l.getD j (0, 0, 0, 0, 0)).2.1 ∧ c 51 41 (8 * m + j) = (l.getD j (0, 0, 0, 0, 0)).2.2.1 ∧ c 51 42 (8 * m + j) = (l.getD j (0, 0, 0, 0, 0)).2.2.2.1 ∧ c 51 43 (8 * m + j) = (l.getD j (0, 0, 0, 0, 0)).2.2.2.2) → Q (some (.int (iI (m : Int)))) (cu c 50 0 6 ((m : Int) + 1)) L) : ∀ (k i : Nat) (c : tC) (v4 : Option Value), i + k = l.length → (∀ g i j, ¬ (g = 51 ∧ (39 ≤ i ∧ i ≤ 43) ∧ 8 * m ≤ j ∧ j < 8 * m + 8) → c g i j = c0 g i j) → (∀ j, j < i → c 51 39 (8 * m + j) = (l.getD j (0, 0, 0, 0, 0)).1 ∧ c 51 40 (8 * m + j) = (l.getD j (0, 0, 0, 0, 0)).2.1 ∧ c 51 41 (8 * m + j) = (l.getD j (0, 0, 0, 0, 0)).2.2.1 ∧ c 51 42 (8 * m + j) = (l.getD j (0, 0, 0, 0, 0)).2.2.2.1 ∧ c 51 43 (8 * m + j) = (l.getD j (0, 0, 0, 0, 0)).2.2.2.2) → En z (d + 1) MX11_plan Q 48 [some (.ref (xad z 50 0)), some (.int (iI s)), some (.int (iI b)), some (.int (iI (i : Int))), v4] [] c L := by
  intro k
  induction k with
  | zero =>
    intro i c v4 hi hF hX
    refine r_iloadN 49 dX11_plan_48 rfl rfl ?_
    refine r_aloadN 50 dX11_plan_49 rfl rfl ?_
    refine r_geti 53 dX11_plan_50 rfl fX11_238 (by decide) (sh_50 z _) rfl ?_
    rw [hF 50 0 56 (by omega), hI.1]
    refine r_icge 138 56 dX11_plan_53 rfl (by decide) (by omega) (by omega) (fun h53 => ?_) (fun h53 => ?_)
    · refine r_aloadN 139 dX11_plan_138 rfl rfl ?_
      refine r_dupr 140 dX11_plan_139 rfl ?_
      refine r_geti 143 dX11_plan_140 rfl fX11_257 (by decide) (sh_50 z _) rfl ?_
      rw [hF 50 0 6 (by omega), hm6]
      refine r_dupx1 144 dX11_plan_143 rfl ?_
      refine r_iconst 145 dX11_plan_144 rfl ?_
      refine r_iadd 146 dX11_plan_145 rfl ?_
      refine r_puti 149 dX11_plan_146 rfl pX11_257 (by decide) (sh_50 z _) rfl ?_
      exact r_ret dX11_plan_149 rfl (kk c hF (fun j hj => hX j (by omega)))
    · exfalso; omega
  | succ k ih =>
    intro i c v4 hi hF hX
    refine r_iloadN 49 dX11_plan_48 rfl rfl ?_
    refine r_aloadN 50 dX11_plan_49 rfl rfl ?_
    refine r_geti 53 dX11_plan_50 rfl fX11_238 (by decide) (sh_50 z _) rfl ?_
    rw [hF 50 0 56 (by omega), hI.1]
    refine r_icge 138 56 dX11_plan_53 rfl (by decide) (by omega) (by omega) (fun h53 => ?_) (fun h53 => ?_)
    · exfalso; omega
    · refine r_bipush 58 dX11_plan_56 rfl (by decide) ?_
      refine r_aloadN 59 dX11_plan_58 rfl rfl ?_
      refine r_geti 62 dX11_plan_59 rfl fX11_257 (by decide) (sh_50 z _) rfl ?_
      rw [hF 50 0 6 (by omega), hm6]
      refine r_imul 63 dX11_plan_62 rfl ?_
      refine r_iloadN 64 dX11_plan_63 rfl rfl ?_
      refine r_iadd 65 dX11_plan_64 rfl ?_
      rw [show (8 * (m : Int) + (i : Int)) = ((8 * m + i : Nat) : Int) by omega]
      refine r_istore4 67 dX11_plan_65 rfl rfl (by decide) ?_
      refine r_aloadN 68 dX11_plan_67 rfl rfl ?_
      refine r_getq 71 dX11_plan_68 rfl fX11_104 (by decide) (sh_50 z _) rfl ?_
      refine r_iload 73 dX11_plan_71 rfl rfl ?_
      refine r_aloadN 74 dX11_plan_73 rfl rfl ?_
      refine r_getq 77 dX11_plan_74 rfl fX11_144 (by decide) (sh_50 z _) rfl ?_
      refine r_iloadN 78 dX11_plan_77 rfl rfl ?_
      refine r_iald (n := 8) 79 dX11_plan_78 (i) rfl rfl (by decide) (sh_51 z _) (by decide) (by omega) (by omega) ?_
      rw [hF 51 59 i (by omega)]
      refine r_iast (n := 64) 80 dX11_plan_79 (8 * m + i) rfl rfl (by decide) (sh_51 z _) (by decide) (by omega) (by omega) ?_
      refine r_aloadN 81 dX11_plan_80 rfl rfl ?_
      refine r_getq 84 dX11_plan_81 rfl fX11_107 (by decide) (sh_50 z _) rfl ?_
      refine r_iload 86 dX11_plan_84 rfl rfl ?_
      refine r_aloadN 87 dX11_plan_86 rfl rfl ?_
      refine r_getq 90 dX11_plan_87 rfl fX11_147 (by decide) (sh_50 z _) rfl ?_
      refine r_iloadN 91 dX11_plan_90 rfl rfl ?_
      refine r_iald (n := 8) 92 dX11_plan_91 (i) rfl rfl (by decide) (sh_51 z _) (by decide) (by omega) (by omega) ?_
      rw [cu_ap, if_neg (by omega), hF 51 60 i (by omega)]
      refine r_iast (n := 64) 93 dX11_plan_92 (8 * m + i) rfl rfl (by decide) (sh_51 z _) (by decide) (by omega) (by omega) ?_
      refine r_aloadN 94 dX11_plan_93 rfl rfl ?_
      refine r_getq 97 dX11_plan_94 rfl fX11_110 (by decide) (sh_50 z _) rfl ?_
      refine r_iload 99 dX11_plan_97 rfl rfl ?_
      refine r_aloadN 100 dX11_plan_99 rfl rfl ?_
      refine r_getq 103 dX11_plan_100 rfl fX11_150 (by decide) (sh_50 z _) rfl ?_
      refine r_iloadN 104 dX11_plan_103 rfl rfl ?_
      refine r_iald (n := 8) 105 dX11_plan_104 (i) rfl rfl (by decide) (sh_51 z _) (by decide) (by omega) (by omega) ?_
      rw [cu_ap, if_neg (by omega), cu_ap, if_neg (by omega), hF 51 61 i (by omega)]
      refine r_iast (n := 64) 106 dX11_plan_105 (8 * m + i) rfl rfl (by decide) (sh_51 z _) (by decide) (by omega) (by omega) ?_
      refine r_aloadN 107 dX11_plan_106 rfl rfl ?_
      refine r_getq 110 dX11_plan_107 rfl fX11_113 (by decide) (sh_50 z _) rfl ?_
      refine r_iload 112 dX11_plan_110 rfl rfl ?_
      refine r_aloadN 113 dX11_plan_112 rfl rfl ?_
      refine r_getq 116 dX11_plan_113 rfl fX11_153 (by decide) (sh_50 z _) rfl ?_
      refine r_iloadN 117 dX11_plan_116 rfl rfl ?_
      refine r_iald (n := 8) 118 dX11_plan_117 (i) rfl rfl (by decide) (sh_51 z _) (by decide) (by omega) (by omega) ?_
      rw [cu_ap, if_neg (by omega), cu_ap, if_neg (by omega), cu_ap, if_neg (by omega), hF 51 62 i (by omega)]
      refine r_iast (n := 64) 119 dX11_plan_118 (8 * m + i) rfl rfl (by decide) (sh_51 z _) (by decide) (by omega) (by omega) ?_
      refine r_aloadN 120 dX11_plan_119 rfl rfl ?_
      refine r_getq 123 dX11_plan_120 rfl fX11_116 (by decide) (sh_50 z _) rfl ?_
      refine r_iload 125 dX11_plan_123 rfl rfl ?_
      refine r_aloadN 126 dX11_plan_125 rfl rfl ?_
      refine r_getq 129 dX11_plan_126 rfl fX11_156 (by decide) (sh_50 z _) rfl ?_
      refine r_iloadN 130 dX11_plan_129 rfl rfl ?_
      refine r_iald (n := 8) 131 dX11_plan_130 (i) rfl rfl (by decide) (sh_51 z _) (by decide) (by omega) (by omega) ?_
      rw [cu_ap, if_neg (by omega), cu_ap, if_neg (by omega), cu_ap, if_neg (by omega), cu_ap, if_neg (by omega), hF 51 63 i (by omega)]
      refine r_iast (n := 64) 132 dX11_plan_131 (8 * m + i) rfl rfl (by decide) (sh_51 z _) (by decide) (by omega) (by omega) ?_
      refine r_iinc3 135 dX11_plan_132 rfl rfl (by decide) ?_
      refine r_goto 48 dX11_plan_135 (by decide) ?_
      refine ih (i + 1) _ _ (by omega) (fun g a b n => ?_) (fun j hj => ?_)
      · rw [cu_ap, if_neg (by omega), cu_ap, if_neg (by omega), cu_ap, if_neg (by omega), cu_ap, if_neg (by omega), cu_ap, if_neg (by omega)]
        exact hF g a b n
      · by_cases q : j = i
        · rw [q]
          have := hI.2 i (by omega)
          simp only [cu_ap, Nat.reduceEqDiff, false_and, true_and, and_false, and_true, and_self, if_false, if_true, reduceIte]
          exact this
        · have := hX j (by omega)
          rw [cu_ap, if_neg (by omega), cu_ap, if_neg (by omega), cu_ap, if_neg (by omega), cu_ap, if_neg (by omega), cu_ap, if_neg (by omega), cu_ap, if_neg (by omega), cu_ap, if_neg (by omega), cu_ap, if_neg (by omega), cu_ap, if_neg (by omega), cu_ap, if_neg (by omega), cu_ap, if_neg (by omega), cu_ap, if_neg (by omega), cu_ap, if_neg (by omega), cu_ap, if_neg (by omega), cu_ap, if_neg (by omega), cu_ap, if_neg (by omega), cu_ap, if_neg (by omega), cu_ap, if_neg (by omega), cu_ap, if_neg (by omega), cu_ap, if_neg (by omega), cu_ap, if_neg (by omega), cu_ap, if_neg (by omega), cu_ap, if_neg (by omega), cu_ap, if_neg (by omega), cu_ap, if_neg (by omega)]
          exact this
theorem m_plan {z : xZ} {d : Nat} {Q : tQ} {c : tC} {L : tL} {s : Int} (hg : MG c) (hS : SH c L) (hs : inR s) (k : ∀ r w c2, (∀ g i j, ¬ (g = 50 ∧ i = 0 ∧ (j = 8 ∨ (50 ≤ j ∧ j ≤ 56))) → ¬ (g = 51 ∧ 57 ≤ i ∧ i ≤ 63) → ¬ (w = 0 ∧ ((g = 50 ∧ i = 0 ∧ j = 6) ∨ (g = 51 ∧ i = 38 ∧ j = (c 50 0 6).toNat) ∨ (g = 51 ∧ (39 ≤ i ∧ i ≤ 43) ∧ 8 * (c 50 0 6).toNat ≤ j ∧ j < 8 * (c 50 0 6).toNat + 8))) → c2 g i j = c g i j) → c2 50 0 8 = flPlan c L s (c 50 0 8) → (w = 0 → c2 50 0 6 = c 50 0 6 + 1 ∧ PM c2 (c 50 0 6).toNat (rPlan c L s).2.1) → (r, w) = gPlan c L s → Q (some (.int (iI r))) (mRe c2 w) L) : En z (d + 20) MX11_plan Q 0 [some (.ref (xad z 50 0)), some (.int (iI s)), none, none, none] [] c L := by
  have hb := fBar_rng (c 51) s
  have hg9 := hg
  unfold MG RT_rng at hg9
  refine r_aloadN 1 dX11_plan_0 rfl rfl ?_
  refine r_iloadN 2 dX11_plan_1 rfl rfl ?_
  refine r_iconst 3 dX11_plan_2 rfl ?_
  refine r_cv2 6 dX11_plan_3 rfl gX11_253 rfl (by decide) (sh_50 z _) rfl rfl (Nat.le_of_ble_eq_true rfl) (Nat.le_of_ble_eq_true rfl) rfl ?_
  refine m_textP hg hS hs (fun b3 => ?_) (fun c2 b3 d3 f3 g3 => ?_) (fun c2 b3 d3 f3 g3 h3 => ?_)
  · refine r_istore2 7 dX11_plan_6 rfl rfl (by decide) ?_
    refine r_iloadN 8 dX11_plan_7 rfl rfl ?_
    refine r_ifeqF 11 dX11_plan_8 rfl 17 (by decide) (by omega) (by omega) ?_
    refine r_aloadN 12 dX11_plan_11 rfl rfl ?_
    refine r_iloadN 13 dX11_plan_12 rfl rfl ?_
    refine r_cv1 16 dX11_plan_13 rfl gX11_184 rfl (by decide) (sh_50 z _) rfl rfl (Nat.le_of_ble_eq_true rfl) (Nat.le_of_ble_eq_true rfl) rfl ?_
    refine m_no (k0 := (-(fBar (c 51) s)).toNat) (by omega) (by omega) ?_
    have hk9 := k (fBar (c 51) s) (-(fBar (c 51) s)).toNat c (fun _ _ _ _ _ _ => rfl) (by unfold flPlan; rw [if_pos b3]) (fun h => absurd h (fBar_n b3)) (by unfold gPlan; rw [if_pos b3])
    rw [mRe, if_neg (fBar_n b3)] at hk9
    exact r_ret dX11_plan_16 rfl hk9
  · refine r_istore2 7 dX11_plan_6 rfl rfl (by decide) ?_
    refine r_iloadN 8 dX11_plan_7 rfl rfl ?_
    refine r_ifeqF 11 dX11_plan_8 rfl 17 (by decide) (by omega) (by omega) ?_
    refine r_aloadN 12 dX11_plan_11 rfl rfl ?_
    refine r_iloadN 13 dX11_plan_12 rfl rfl ?_
    refine r_cv1 16 dX11_plan_13 rfl gX11_184 rfl (by decide) (sh_50 z _) rfl rfl (Nat.le_of_ble_eq_true rfl) (Nat.le_of_ble_eq_true rfl) rfl ?_
    refine m_no (k0 := 6) (by omega) (by omega) ?_
    exact r_ret dX11_plan_16 rfl (k (-6) 6 c2 (fun g i j n1 n2 n3 => f3 g i j n1 n2) (by unfold flPlan; rw [if_neg (fun h => h b3), if_neg (bne d3)]; exact g3) (fun h => absurd h (by decide)) (by unfold gPlan; rw [if_neg (fun h => h b3), if_neg (bne d3)]))
  · have hrn := (tItems_rng (T := eT L s.toNat) (e := (c 51 46 s.toNat).toNat) (n := c 50 0 2) 8 0 [] (Nat.zero_le _) (fun x hx => absurd hx List.not_mem_nil)).2.2
    have hrl : rPlan c L s = tItems (eT L s.toNat) (c 51 46 s.toNat).toNat (c 50 0 2) 8 0 [] := rfl
    rw [← hrl] at hrn
    have hr8 : (rPlan c L s).2.1.length ≤ 8 := by
      have : ([] : List tI).length = 0 := rfl
      omega
    obtain ⟨m, hm⟩ := Int.eq_ofNat_of_zero_le (show 0 ≤ c 50 0 6 by omega)
    refine r_istore2 7 dX11_plan_6 rfl rfl (by decide) ?_
    refine r_iloadN 8 dX11_plan_7 rfl rfl ?_
    refine r_ifeqT 17 0 dX11_plan_8 (by decide) (by decide) (by decide) ?_
    refine r_aloadN 18 dX11_plan_17 rfl rfl ?_
    refine r_geti 21 dX11_plan_18 rfl fX11_257 (by decide) (sh_50 z _) rfl ?_
    rw [f3 50 0 6 (by omega) (by omega), hm]
    refine r_bipush 23 dX11_plan_21 rfl (by decide) ?_
    refine r_icne 33 26 dX11_plan_23 rfl (by decide) (by omega) (by omega) (fun h23 => ?_) (fun h23 => ?_)
    · refine r_aloadN 34 dX11_plan_33 rfl rfl ?_
      refine r_getq 37 dX11_plan_34 rfl fX11_101 (by decide) (sh_50 z _) rfl ?_
      refine r_aloadN 38 dX11_plan_37 rfl rfl ?_
      refine r_geti 41 dX11_plan_38 rfl fX11_257 (by decide) (sh_50 z _) rfl ?_
      rw [f3 50 0 6 (by omega) (by omega), hm]
      refine r_aloadN 42 dX11_plan_41 rfl rfl ?_
      refine r_geti 45 dX11_plan_42 rfl fX11_238 (by decide) (sh_50 z _) rfl ?_
      rw [h3.1]
      refine r_iast (n := 8) 46 dX11_plan_45 m rfl rfl (by decide) (sh_51 z _) (by decide) (by omega) (by omega) ?_
      refine r_iconst 47 dX11_plan_46 rfl ?_
      refine r_istore3 48 dX11_plan_47 rfl rfl (by decide) ?_
      have hI2 : MI (cu c2 51 38 m (((rPlan c L s).2.1.length : Nat) : Int)) (rPlan c L s).2.1 := ⟨h3.1, fun j hj => h3.2 j hj⟩
      refine m_plan_loop (c0 := cu c2 51 38 m (((rPlan c L s).2.1.length : Nat) : Int)) (m := m) hI2 hr8 (by omega) (by rw [cu_ap, if_neg (by omega), f3 50 0 6 (by omega) (by omega), hm]) (fun c3 hF hX => ?_) (rPlan c L s).2.1.length 0 _ none (by omega) (fun _ _ _ _ => rfl) (fun j hj => absurd hj (Nat.not_lt_zero _))
      refine k (m : Int) 0 (cu c3 50 0 6 ((m : Int) + 1)) (fun g i j n1 n2 n3 => ?_) ?_ (fun _ => ⟨?_, ?_, fun j hj => ?_⟩) ?_
      · rw [hm, Int.toNat_natCast] at n3
        rw [cu_ap, if_neg (by omega), hF g i j (by omega), cu_ap, if_neg (by omega)]
        exact f3 g i j n1 n2
      · rw [cu_ap, if_neg (by omega), hF 50 0 8 (by omega), cu_ap, if_neg (by omega)]
        unfold flPlan; rw [if_neg (fun h => h b3), if_pos d3]; exact g3
      · rw [cu_ap, if_pos ⟨rfl, rfl, rfl⟩, hm]
      · rw [hm, Int.toNat_natCast, cu_ap, if_neg (by omega), hF 51 38 m (by omega), cu_ap, if_pos ⟨rfl, rfl, rfl⟩]
      · rw [hm, Int.toNat_natCast, cu_ap, if_neg (by omega), cu_ap, if_neg (by omega), cu_ap, if_neg (by omega), cu_ap, if_neg (by omega), cu_ap, if_neg (by omega)]
        exact hX j hj
      · unfold gPlan; rw [if_neg (fun h => h b3), if_pos d3, if_neg (by omega), hm]
    · refine r_aloadN 27 dX11_plan_26 rfl rfl ?_
      refine r_bipush 29 dX11_plan_27 rfl (by decide) ?_
      refine r_cv1 32 dX11_plan_29 rfl gX11_184 rfl (by decide) (sh_50 z _) rfl rfl (Nat.le_of_ble_eq_true rfl) (Nat.le_of_ble_eq_true rfl) rfl ?_
      refine m_no (k0 := 7) (by omega) (by omega) ?_
      exact r_ret dX11_plan_32 rfl (k (-7) 7 c2 (fun g i j n1 n2 n3 => f3 g i j n1 n2) (by unfold flPlan; rw [if_neg (fun h => h b3), if_pos d3]; exact g3) (fun h => absurd h (by decide)) (by unfold gPlan; rw [if_neg (fun h => h b3), if_pos d3, if_pos (by omega)]))
