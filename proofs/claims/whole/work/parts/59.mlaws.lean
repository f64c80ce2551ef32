/-! the model reads a text of laws -/
def tHd (T : Nat → Int) (e k q : Nat) (l : List (Nat × Int)) : Nat × List (Nat × Int) × Bool := if q < e then (if T q = 59 then tLaws T e k (q + 1) l else (q, l, false)) else (q, l, true)
theorem tLaws_hd {T : Nat → Int} {e k p : Nat} {l : List (Nat × Int)} (h : lOk T e p = true) : tLaws T e (k + 1) p l = tHd T e k (lQ T e p) (l ++ [(tW T e p, lV T e p)]) := by
  rw [tLaws, if_pos h]
  rfl
theorem tLaws_no {T : Nat → Int} {e k p : Nat} {l : List (Nat × Int)} (h : lOk T e p = false) : tLaws T e (k + 1) p l = (lF T e p, l, false) := by
  rw [tLaws, if_neg (bne h)]
theorem m_readsL_loop {z : xZ} {d : Nat} {Q : tQ} {L : tL} {s e : Nat} {c0 : tC} (k1 : ∀ c2, (tLaws (eT L s) e 61 0 []).2.2 = true → ML c0 c2 → MLw c2 (tLaws (eT L s) e 61 0 []).2.1 → Q (some (.int (iI 1))) c2 L) (k0 : ∀ c2, (tLaws (eT L s) e 61 0 []).2.2 = false → ML c0 c2 → c2 50 0 55 = (((tLaws (eT L s) e 61 0 []).1 : Nat) : Int) → Q (some (.int (iI 0))) c2 L) : ∀ (k q : Nat) (l : List (Nat × Int)) (c : tC), e ≤ q + k → q ≤ e → ML c0 c → MS c s e → c 50 0 51 = (q : Int) → MLw c l → l.length * 2 ≤ q → tLaws (eT L s) e 61 0 [] = tHd (eT L s) e k q l → En z (d + 5) MX11_reads Q 28 [some (.ref (xad z 50 0)), some (.int (iI 0))] [] c L := by
  intro k
  induction k with
  | zero =>
    intro q l c he hq hG hs ha hQ hl hR
    have hs2 := hs.2.2.1
    refine r_aloadN 29 dX11_reads_28 rfl rfl ?_
    refine r_geti 32 dX11_reads_29 rfl fX11_203 (by decide) (sh_50 z _) rfl ?_
    rw [ha]
    refine r_aloadN 33 dX11_reads_32 rfl rfl ?_
    refine r_geti 36 dX11_reads_33 rfl fX11_206 (by decide) (sh_50 z _) rfl ?_
    rw [hs.2.1]
    refine r_icge 93 39 dX11_reads_36 rfl (by decide) (by omega) (by omega) (fun h36 => ?_) (fun h36 => ?_)
    · refine r_iconst 94 dX11_reads_93 rfl ?_
      exact r_zret dX11_reads_94 rfl (by decide) (k1 c (by rw [hR, tHd, if_neg (by omega)]) hG (by rw [hR, tHd, if_neg (by omega)]; exact hQ))
    · exfalso; omega
  | succ k ih =>
    intro q l c he hq hG hs ha hQ hl hR
    have hs2 := hs.2.2.1
    refine r_aloadN 29 dX11_reads_28 rfl rfl ?_
    refine r_geti 32 dX11_reads_29 rfl fX11_203 (by decide) (sh_50 z _) rfl ?_
    rw [ha]
    refine r_aloadN 33 dX11_reads_32 rfl rfl ?_
    refine r_geti 36 dX11_reads_33 rfl fX11_206 (by decide) (sh_50 z _) rfl ?_
    rw [hs.2.1]
    refine r_icge 93 39 dX11_reads_36 rfl (by decide) (by omega) (by omega) (fun h36 => ?_) (fun h36 => ?_)
    · refine r_iconst 94 dX11_reads_93 rfl ?_
      exact r_zret dX11_reads_94 rfl (by decide) (k1 c (by rw [hR, tHd, if_neg (by omega)]) hG (by rw [hR, tHd, if_neg (by omega)]; exact hQ))
    · refine r_iloadN 40 dX11_reads_39 rfl rfl ?_
      refine r_ifeqT 52 0 dX11_reads_40 (by decide) (by decide) (by decide) ?_
      refine r_aloadN 53 dX11_reads_52 rfl rfl ?_
      refine r_bipush 55 dX11_reads_53 rfl (by decide) ?_
      refine r_cv1 58 dX11_reads_55 rfl gX11_232 rfl (by decide) (sh_50 z _) rfl rfl (Nat.le_of_ble_eq_true rfl) (Nat.le_of_ble_eq_true rfl) rfl ?_
      refine m_takes hs ha hq (by decide) (fun y55 c2 P55 => ?_) (fun y55 c2 P55 Z55 => ?_)
      · refine r_ifneT 70 0 dX11_reads_58 (by decide) (by decide) (by decide) ?_
        refine r_iloadN 71 dX11_reads_70 rfl rfl ?_
        refine r_ifeqT 84 0 dX11_reads_71 (by decide) (by decide) (by decide) ?_
        refine r_aloadN 85 dX11_reads_84 rfl rfl ?_
        refine r_cv0 88 dX11_reads_85 rfl gX11_244 rfl (by decide) (sh_50 z _) rfl rfl (Nat.le_of_ble_eq_true rfl) (Nat.le_of_ble_eq_true rfl) rfl ?_
        refine m_oneLaw (p := q + 1) (MS_fr hs P55.1) P55.2 (by omega) (MLw_fr hQ P55.1) (by omega) (fun c3 b85 f85 g85 h85 => ?_) (fun c3 b85 f85 g85 => ?_)
        · refine r_ifneT 28 0 dX11_reads_88 (by decide) (by decide) (by decide) ?_
          have hr := lOk_rng (T := eT L s) (show q + 1 ≤ e by omega) b85
          refine ih (lQ (eT L s) e (q + 1)) _ _ (by omega) hr.2.2.1 (ML_tr hG (ML_tr (MF_ML P55.1) f85)) (MS_frL (MS_fr hs P55.1) f85) g85 h85 (by rw [List.length_append]; show (l.length + 1) * 2 ≤ _; omega) (by rw [hR, tHd, if_pos y55.1, if_pos y55.2, tLaws_hd b85])
        · refine r_ifneF 91 dX11_reads_88 rfl 28 (by decide) (by decide) (by decide) ?_
          refine r_iconst 92 dX11_reads_91 rfl ?_
          have hR2 : tLaws (eT L s) e 61 0 [] = (lF (eT L s) e (q + 1), l, false) := by rw [hR, tHd, if_pos y55.1, if_pos y55.2, tLaws_no b85]
          exact r_zret dX11_reads_92 rfl (by decide) (k0 _ (by rw [hR2]) (ML_tr hG (ML_tr (MF_ML P55.1) f85)) (by rw [hR2]; exact g85))
      · refine r_ifneF 61 dX11_reads_58 rfl 70 (by decide) (by decide) (by decide) ?_
        refine r_aloadN 62 dX11_reads_61 rfl rfl ?_
        refine r_aloadN 63 dX11_reads_62 rfl rfl ?_
        refine r_geti 66 dX11_reads_63 rfl fX11_203 (by decide) (sh_50 z _) rfl ?_
        rw [Z55]
        refine r_cv1 69 dX11_reads_66 rfl gX11_219 rfl (by decide) (sh_50 z _) rfl rfl (Nat.le_of_ble_eq_true rfl) (Nat.le_of_ble_eq_true rfl) rfl ?_
        refine m_wrong ?_
        have hR2 : tLaws (eT L s) e 61 0 [] = (q, l, false) := by rw [hR, tHd, if_pos (by omega), if_neg (fun h => y55 ⟨by omega, h⟩)]
        exact r_zret dX11_reads_69 rfl (by decide) (k0 _ (by rw [hR2]) (ML_tr hG (MF_ML (MF_tr P55.1 (MF_cu (by omega))))) (by rw [hR2, cu_ap, if_pos ⟨rfl, rfl, rfl⟩]))
theorem m_readsL {z : xZ} {d : Nat} {Q : tQ} {c : tC} {L : tL} {s e : Nat} (hs : MS c s e) (ha : c 50 0 51 = 0) (k1 : ∀ c2, (tLaws (eT L s) e 61 0 []).2.2 = true → ML c c2 → MLw c2 (tLaws (eT L s) e 61 0 []).2.1 → Q (some (.int (iI 1))) c2 L) (k0 : ∀ c2, (tLaws (eT L s) e 61 0 []).2.2 = false → ML c c2 → c2 50 0 55 = (((tLaws (eT L s) e 61 0 []).1 : Nat) : Int) → Q (some (.int (iI 0))) c2 L) : En z (d + 5) MX11_reads Q 0 [some (.ref (xad z 50 0)), some (.int (iI 0))] [] c L := by
  have hs2 := hs.2.2.1
  refine r_aloadN 1 dX11_reads_0 rfl rfl ?_
  refine r_iconst 2 dX11_reads_1 rfl ?_
  refine r_puti 5 dX11_reads_2 rfl pX11_238 (by decide) (sh_50 z _) rfl ?_
  refine r_iloadN 6 dX11_reads_5 rfl rfl ?_
  refine r_ifeqT 19 0 dX11_reads_6 (by decide) (by decide) (by decide) ?_
  refine r_aloadN 20 dX11_reads_19 rfl rfl ?_
  refine r_cv0 23 dX11_reads_20 rfl gX11_244 rfl (by decide) (sh_50 z _) rfl rfl (Nat.le_of_ble_eq_true rfl) (Nat.le_of_ble_eq_true rfl) rfl ?_
  refine m_oneLaw (c := cu c 50 0 56 0) (p := 0) (l := []) (MS_frL hs (fun g i j n1 n2 => by rw [cu_ap, if_neg (by omega)])) ha (by omega) ⟨rfl, fun j hj => absurd hj (Nat.not_lt_zero _)⟩ (by decide) (fun c3 b85 f85 g85 h85 => ?_) (fun c3 b85 f85 g85 => ?_)
  · refine r_ifneT 28 0 dX11_reads_23 (by decide) (by decide) (by decide) ?_
    have hr := lOk_rng (T := eT L s) (Nat.zero_le e) b85
    have f9 : ML c (cu c 50 0 56 0) := fun g i j n1 n2 => by rw [cu_ap, if_neg (by omega)]
    exact m_readsL_loop k1 k0 60 (lQ (eT L s) e 0) _ c3 (by omega) hr.2.2.1 (ML_tr f9 f85) (MS_frL (MS_frL hs f9) f85) g85 h85 (by show 1 * 2 ≤ _; omega) (tLaws_hd b85)
  · refine r_ifneF 26 dX11_reads_23 rfl 28 (by decide) (by decide) (by decide) ?_
    refine r_iconst 27 dX11_reads_26 rfl ?_
    have f9 : ML c (cu c 50 0 56 0) := fun g i j n1 n2 => by rw [cu_ap, if_neg (by omega)]
    have hR2 : tLaws (eT L s) e 61 0 [] = (lF (eT L s) e 0, [], false) := tLaws_no b85
    exact r_zret dX11_reads_27 rfl (by decide) (k0 _ (by rw [hR2]) (ML_tr f9 f85) (by rw [hR2]; exact g85))
def MTf (c c2 : tC) : Prop := ∀ g i j, ¬ (g = 50 ∧ i = 0 ∧ (j = 8 ∨ (50 ≤ j ∧ j ≤ 56))) → ¬ (g = 51 ∧ 57 ≤ i ∧ i ≤ 63) → c2 g i j = c g i j
theorem m_textL {z : xZ} {d : Nat} {Q : tQ} {c : tC} {L : tL} {s : Int} (hg : MG c) (hS : SH c L) (hs : inR s) (kb : ¬ fBar (c 51) s = 0 → Q (some (.int (iI (fBar (c 51) s)))) c L) (kw : ∀ c2, fBar (c 51) s = 0 → (rLaws c L s).2.2 = false → MTf c c2 → c2 50 0 8 = (((rLaws c L s).1 : Nat) : Int) → Q (some (.int (iI (-6)))) c2 L) (k : ∀ c2, fBar (c 51) s = 0 → (rLaws c L s).2.2 = true → MTf c c2 → c2 50 0 8 = -1 → MLw c2 (rLaws c L s).2.1 → Q (some (.int (iI 0))) c2 L) : En z (d + 6) MX11_text Q 0 [some (.ref (xad z 50 0)), some (.int (iI s)), some (.int (iI 0)), none] [] c L := by
  have hs1 := hs.1
  have hs2 := hs.2
  have hb := fBar_rng (c 51) s
  refine r_aloadN 1 dX11_text_0 rfl rfl ?_
  refine r_iloadN 2 dX11_text_1 rfl rfl ?_
  refine r_cv1 5 dX11_text_2 rfl gX11_247 rfl (by decide) (sh_50 z _) rfl rfl (Nat.le_of_ble_eq_true rfl) (Nat.le_of_ble_eq_true rfl) rfl ?_
  refine m_wants hg hS (by assumption) (fun r2 e2 => ?_)
  refine r_istore3 6 dX11_text_5 rfl rfl (by decide) ?_
  refine r_iloadN 7 dX11_text_6 rfl rfl ?_
  refine r_ifeq 12 10 dX11_text_7 rfl (by decide) (by omega) (fun h7 => ?_) (fun h7 => ?_)
  · have hz9 := fBar_0 (A := c 51) (s := s) (by omega)
    have hf0 : fBar (c 51) s = 0 := by omega
    obtain ⟨sh, hsh0⟩ := Int.eq_ofNat_of_zero_le (show 0 ≤ s by omega)
    subst hsh0
    rw [Int.toNat_natCast] at hz9
    have hi9 := SH_i hS sh (by omega)
    unfold SI at hi9
    obtain ⟨e, he9⟩ := Int.eq_ofNat_of_zero_le (show 0 ≤ c 51 46 sh by omega)
    have hrl : rLaws c L (sh : Int) = tLaws (eT L sh) e 61 0 [] := by unfold rLaws; rw [Int.toNat_natCast, he9, Int.toNat_natCast]
    refine r_aloadN 13 dX11_text_12 rfl rfl ?_
    refine r_bipush 15 dX11_text_13 rfl (by decide) ?_
    refine r_iloadN 16 dX11_text_15 rfl rfl ?_
    refine r_imul 17 dX11_text_16 rfl ?_
    refine r_puti 20 dX11_text_17 rfl pX11_209 (by decide) (sh_50 z _) rfl ?_
    refine r_aloadN 21 dX11_text_20 rfl rfl ?_
    refine r_iconst 22 dX11_text_21 rfl ?_
    refine r_puti 25 dX11_text_22 rfl pX11_203 (by decide) (sh_50 z _) rfl ?_
    refine r_aloadN 26 dX11_text_25 rfl rfl ?_
    refine r_aloadN 27 dX11_text_26 rfl rfl ?_
    refine r_getq 30 dX11_text_27 rfl fX11_125 (by decide) (sh_50 z _) rfl ?_
    refine r_iloadN 31 dX11_text_30 rfl rfl ?_
    refine r_iald (n := 8) 32 dX11_text_31 (sh) rfl rfl (by decide) (sh_51 z _) (by decide) (by omega) (by omega) ?_
    rw [show cu (cu c 50 0 50 (60 * (sh : Int))) 50 0 51 0 51 46 sh = (e : Int) from he9]
    refine r_puti 35 dX11_text_32 rfl pX11_206 (by decide) (sh_50 z _) rfl ?_
    refine r_aloadN 36 dX11_text_35 rfl rfl ?_
    refine r_iconst 37 dX11_text_36 rfl ?_
    refine r_puti 40 dX11_text_37 rfl pX11_13 (by decide) (sh_50 z _) rfl ?_
    refine r_aloadN 41 dX11_text_40 rfl rfl ?_
    refine r_iloadN 42 dX11_text_41 rfl rfl ?_
    have f9 : MTf c (cu (cu (cu (cu c 50 0 50 (60 * (sh : Int))) 50 0 51 0) 50 0 52 (e : Int)) 50 0 8 (-1)) := fun g i j n1 n2 => by rw [cu_ap, if_neg (by omega), cu_ap, if_neg (by omega), cu_ap, if_neg (by omega), cu_ap, if_neg (by omega)]
    refine r_cv1 45 dX11_text_42 rfl gX11_250 rfl (by decide) (sh_50 z _) rfl rfl (Nat.le_of_ble_eq_true rfl) (Nat.le_of_ble_eq_true rfl) rfl ?_
    refine m_readsL (c := (cu (cu (cu (cu c 50 0 50 (60 * (sh : Int))) 50 0 51 0) 50 0 52 (e : Int)) 50 0 8 (-1))) (s := sh) (e := e) ⟨rfl, rfl, by omega, by omega⟩ rfl (fun c3 b42 f42 g42 => ?_) (fun c3 b42 f42 g42 => ?_)
    · refine r_ifneT 59 0 dX11_text_45 (by decide) (by decide) (by decide) ?_
      refine r_iconst 60 dX11_text_59 rfl ?_
      refine r_ret dX11_text_60 rfl (k _ hf0 (by rw [hrl]; exact b42) (fun g i j n1 n2 => ?_) ?_ (by rw [hrl]; exact g42))
      · rw [f42 g i j (by omega) (by omega)]
        exact f9 g i j n1 n2
      · rw [f42 50 0 8 (by omega) (by omega)]
        rfl
    · refine r_ifneF 48 dX11_text_45 rfl 59 (by decide) (by decide) (by decide) ?_
      refine r_aloadN 49 dX11_text_48 rfl rfl ?_
      refine r_aloadN 50 dX11_text_49 rfl rfl ?_
      refine r_geti 53 dX11_text_50 rfl fX11_212 (by decide) (sh_50 z _) rfl ?_
      rw [g42]
      refine r_puti 56 dX11_text_53 rfl pX11_13 (by decide) (sh_50 z _) rfl ?_
      refine r_bipush 58 dX11_text_56 rfl (by decide) ?_
      refine r_ret dX11_text_58 rfl (kw _ hf0 (by rw [hrl]; exact b42) (fun g i j n1 n2 => ?_) ?_)
      · rw [cu_ap, if_neg (by omega), f42 g i j (by omega) (by omega)]
        exact f9 g i j n1 n2
      · rw [cu_ap, if_pos ⟨rfl, rfl, rfl⟩, hrl]
  · refine r_iloadN 11 dX11_text_10 rfl rfl ?_
    rw [e2]
    exact r_ret dX11_text_11 rfl (kb (by omega))
theorem take_s {l : List (Nat × Int)} {i : Nat} (h : i < l.length) : l.take (i + 1) = l.take i ++ [l.getD i (0, 0)] := by
  rw [List.take_succ, List.getD_eq_getElem?_getD, List.getElem?_eq_getElem h]
  rfl
theorem getD_mem {l : List (Nat × Int)} {i : Nat} (h : i < l.length) : l.getD i (0, 0) ∈ l := by
  rw [List.getD_eq_getElem?_getD, List.getElem?_eq_getElem h]
  exact List.getElem_mem h
theorem m_laws_loop {z : xZ} {d : Nat} {Q : tQ} {L : tL} {s b : Int} {l : List (Nat × Int)} {c0 : tC} {f0 : Nat → Int} (hl : ∀ x ∈ l, x.1 < 6) (hln : l.length ≤ 60) (kk : ∀ c, (∀ g i j, ¬ (g = 51 ∧ i = 11 ∧ j < 6) → c g i j = c0 g i j) → MLw c l → (∀ j, j < 6 → c 51 11 j = fFo f0 l j) → Q (some (.int (iI ((l.length : Nat) : Int)))) c L) : ∀ (k i : Nat) (c : tC), i + k = l.length → (∀ g i j, ¬ (g = 51 ∧ i = 11 ∧ j < 6) → c g i j = c0 g i j) → MLw c l → (∀ j, j < 6 → c 51 11 j = fFo f0 (l.take i) j) → En z (d + 1) MX11_laws Q 19 [some (.ref (xad z 50 0)), some (.int (iI s)), some (.int (iI b)), some (.int (iI (i : Int)))] [] c L := by
  intro k
  induction k with
  | zero =>
    intro i c hi hF hQ hX
    refine r_iloadN 20 dX11_laws_19 rfl rfl ?_
    refine r_aloadN 21 dX11_laws_20 rfl rfl ?_
    refine r_geti 24 dX11_laws_21 rfl fX11_238 (by decide) (sh_50 z _) rfl ?_
    rw [hQ.1]
    refine r_icge 50 27 dX11_laws_24 rfl (by decide) (by omega) (by omega) (fun h24 => ?_) (fun h24 => ?_)
    · refine r_aloadN 51 dX11_laws_50 rfl rfl ?_
      refine r_geti 54 dX11_laws_51 rfl fX11_238 (by decide) (sh_50 z _) rfl ?_
      rw [hQ.1]
      refine r_ret dX11_laws_54 rfl (kk c hF hQ (fun j hj => ?_))
      rw [hX j hj, List.take_of_length_le (by omega)]
    · exfalso; omega
  | succ k ih =>
    intro i c hi hF hQ hX
    have hw := hl _ (getD_mem (show i < l.length by omega))
    have hq9 := hQ.2 i (by omega)
    refine r_iloadN 20 dX11_laws_19 rfl rfl ?_
    refine r_aloadN 21 dX11_laws_20 rfl rfl ?_
    refine r_geti 24 dX11_laws_21 rfl fX11_238 (by decide) (sh_50 z _) rfl ?_
    rw [hQ.1]
    refine r_icge 50 27 dX11_laws_24 rfl (by decide) (by omega) (by omega) (fun h24 => ?_) (fun h24 => ?_)
    · exfalso; omega
    · refine r_aloadN 28 dX11_laws_27 rfl rfl ?_
      refine r_getq 31 dX11_laws_28 rfl fX11_20 (by decide) (sh_50 z _) rfl ?_
      refine r_aloadN 32 dX11_laws_31 rfl rfl ?_
      refine r_getq 35 dX11_laws_32 rfl fX11_138 (by decide) (sh_50 z _) rfl ?_
      refine r_iloadN 36 dX11_laws_35 rfl rfl ?_
      refine r_iald (n := 60) 37 dX11_laws_36 (i) rfl rfl (by decide) (sh_51 z _) (by decide) (by omega) (by omega) ?_
      rw [hq9.1]
      refine r_aloadN 38 dX11_laws_37 rfl rfl ?_
      refine r_getq 41 dX11_laws_38 rfl fX11_141 (by decide) (sh_50 z _) rfl ?_
      refine r_iloadN 42 dX11_laws_41 rfl rfl ?_
      refine r_iald (n := 60) 43 dX11_laws_42 (i) rfl rfl (by decide) (sh_51 z _) (by decide) (by omega) (by omega) ?_
      rw [hq9.2]
      refine r_iast (n := 6) 44 dX11_laws_43 ((l.getD i (0, 0)).1) rfl rfl (by decide) (sh_51 z _) (by decide) (by omega) (by omega) ?_
      refine r_iinc3 47 dX11_laws_44 rfl rfl (by decide) ?_
      refine r_goto 19 dX11_laws_47 (by decide) ?_
      refine ih (i + 1) _ (by omega) (fun g a b n => ?_) ⟨?_, fun j hj => ?_⟩ (fun j hj => ?_)
      · rw [cu_ap, if_neg (by omega)]
        exact hF g a b n
      · rw [cu_ap, if_neg (by omega)]
        exact hQ.1
      · rw [cu_ap, if_neg (by omega), cu_ap, if_neg (by omega)]
        exact hQ.2 j hj
      · rw [take_s (by omega), fFo_app, cu_ap]
        by_cases q : j = (l.getD i (0, 0)).1
        · rw [if_pos ⟨rfl, rfl, q⟩, if_pos q]
        · rw [if_neg (fun y => q y.2.2), if_neg q]
          exact hX j hj
theorem m_laws {z : xZ} {d : Nat} {Q : tQ} {c : tC} {L : tL} {s : Int} (hg : MG c) (hS : SH c L) (hs : inR s) (k : ∀ r w c2, (∀ g i j, ¬ (g = 50 ∧ i = 0 ∧ (j = 8 ∨ (50 ≤ j ∧ j ≤ 56))) → ¬ (g = 51 ∧ 57 ≤ i ∧ i ≤ 63) → ¬ (g = 51 ∧ i = 11 ∧ j < 6) → c2 g i j = c g i j) → c2 50 0 8 = flLaws c L s (c 50 0 8) → (∀ j, j < 6 → c2 51 11 j = if w = 0 then fFo (c 51 11) (rLaws c L s).2.1 j else c 51 11 j) → (r, w) = gLaws c L s → Q (some (.int (iI r))) (mRe c2 w) L) : En z (d + 20) MX11_laws Q 0 [some (.ref (xad z 50 0)), some (.int (iI s)), none, none] [] c L := by
  have hb := fBar_rng (c 51) s
  refine r_aloadN 1 dX11_laws_0 rfl rfl ?_
  refine r_iloadN 2 dX11_laws_1 rfl rfl ?_
  refine r_iconst 3 dX11_laws_2 rfl ?_
  refine r_cv2 6 dX11_laws_3 rfl gX11_253 rfl (by decide) (sh_50 z _) rfl rfl (Nat.le_of_ble_eq_true rfl) (Nat.le_of_ble_eq_true rfl) rfl ?_
  refine m_textL hg hS hs (fun b3 => ?_) (fun c2 b3 d3 f3 g3 => ?_) (fun c2 b3 d3 f3 g3 h3 => ?_)
  · refine r_istore2 7 dX11_laws_6 rfl rfl (by decide) ?_
    refine r_iloadN 8 dX11_laws_7 rfl rfl ?_
    refine r_ifeqF 11 dX11_laws_8 rfl 17 (by decide) (by omega) (by omega) ?_
    refine r_aloadN 12 dX11_laws_11 rfl rfl ?_
    refine r_iloadN 13 dX11_laws_12 rfl rfl ?_
    refine r_cv1 16 dX11_laws_13 rfl gX11_184 rfl (by decide) (sh_50 z _) rfl rfl (Nat.le_of_ble_eq_true rfl) (Nat.le_of_ble_eq_true rfl) rfl ?_
    refine m_no (k0 := (-(fBar (c 51) s)).toNat) (by omega) (by omega) ?_
    have hk9 := k (fBar (c 51) s) (-(fBar (c 51) s)).toNat c (fun _ _ _ _ _ _ => rfl) (by unfold flLaws; rw [if_pos b3]) (fun j hj => by rw [if_neg (fBar_n b3)]) (by unfold gLaws; rw [if_pos b3])
    rw [mRe, if_neg (fBar_n b3)] at hk9
    exact r_ret dX11_laws_16 rfl hk9
  · refine r_istore2 7 dX11_laws_6 rfl rfl (by decide) ?_
    refine r_iloadN 8 dX11_laws_7 rfl rfl ?_
    refine r_ifeqF 11 dX11_laws_8 rfl 17 (by decide) (by omega) (by omega) ?_
    refine r_aloadN 12 dX11_laws_11 rfl rfl ?_
    refine r_iloadN 13 dX11_laws_12 rfl rfl ?_
    refine r_cv1 16 dX11_laws_13 rfl gX11_184 rfl (by decide) (sh_50 z _) rfl rfl (Nat.le_of_ble_eq_true rfl) (Nat.le_of_ble_eq_true rfl) rfl ?_
    refine m_no (k0 := 6) (by omega) (by omega) ?_
    exact r_ret dX11_laws_16 rfl (k (-6) 6 c2 (fun g i j n1 n2 n3 => f3 g i j n1 n2) (by unfold flLaws; rw [if_neg (fun h => h b3), if_neg (bne d3)]; exact g3) (fun j hj => by rw [if_neg (by decide)]; exact f3 51 11 j (by omega) (by omega)) (by unfold gLaws; rw [if_neg (fun h => h b3), if_neg (bne d3)]))
  · have hrn := tLaws_rng (T := eT L s.toNat) (e := (c 51 46 s.toNat).toNat) 61 0 [] (Nat.zero_le _) (fun x hx => absurd hx List.not_mem_nil) (Nat.zero_le _)
    have hz9 := fBar_0 b3
    obtain ⟨sh, hsh0⟩ := Int.eq_ofNat_of_zero_le (show 0 ≤ s by omega)
    have hi9 := SH_i hS sh (by omega)
    unfold SI at hi9
    rw [hsh0, Int.toNat_natCast] at hz9
    have he60 : (c 51 46 s.toNat).toNat ≤ 60 := by rw [hsh0, Int.toNat_natCast]; omega
    have hrl : rLaws c L s = tLaws (eT L s.toNat) (c 51 46 s.toNat).toNat 61 0 [] := rfl
    rw [← hrl] at hrn
    refine r_istore2 7 dX11_laws_6 rfl rfl (by decide) ?_
    refine r_iloadN 8 dX11_laws_7 rfl rfl ?_
    refine r_ifeqT 17 0 dX11_laws_8 (by decide) (by decide) (by decide) ?_
    refine r_iconst 18 dX11_laws_17 rfl ?_
    refine r_istore3 19 dX11_laws_18 rfl rfl (by decide) ?_
    refine m_laws_loop (c0 := c2) (f0 := c 51 11) (fun x hx => (hrn.2.1 x hx).1) (by omega) (fun c3 hF hQ hX => ?_) (rLaws c L s).2.1.length 0 c2 (by omega) (fun _ _ _ _ => rfl) h3 (fun j hj => f3 51 11 j (by omega) (by omega))
    exact k _ 0 c3 (fun g i j n1 n2 n3 => (hF g i j n3).trans (f3 g i j n1 n2)) (by rw [hF 50 0 8 (by omega)]; unfold flLaws; rw [if_neg (fun h => h b3), if_pos d3]; exact g3) (fun j hj => by rw [if_pos rfl]; exact hX j hj) (by unfold gLaws; rw [if_neg (fun h => h b3), if_pos d3])
