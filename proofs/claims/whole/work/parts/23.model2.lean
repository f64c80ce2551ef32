theorem m_isShelf {z : xZ} {d : Nat} {Q : tQ} {c : tC} {L : tL} {v : Int} (hv : inR v) (k1 : (0 ≤ v ∧ v < 8) → Q (some (.int (iI 1))) c L) (k0 : ¬ (0 ≤ v ∧ v < 8) → Q (some (.int (iI 0))) c L) : En z (d + 1) MX11_isShelf Q 0 [some (.ref (xad z 50 0)), some (.int (iI v))] [] c L := by
  have hv1 := hv.1
  have hv2 := hv.2
  refine r_iloadN 1 dX11_isShelf_0 rfl rfl ?_
  refine r_iflt 14 4 dX11_isShelf_1 rfl (by decide) (by omega) (fun h1 => ?_) (fun h1 => ?_)
  · refine r_iconst 15 dX11_isShelf_14 rfl ?_
    exact r_zret dX11_isShelf_15 rfl (by decide) (k0 (by omega))
  · refine r_iloadN 5 dX11_isShelf_4 rfl rfl ?_
    refine r_bipush 7 dX11_isShelf_5 rfl (by decide) ?_
    refine r_icge 14 10 dX11_isShelf_7 rfl (by decide) (by omega) (by omega) (fun h7 => ?_) (fun h7 => ?_)
    · refine r_iconst 15 dX11_isShelf_14 rfl ?_
      exact r_zret dX11_isShelf_15 rfl (by decide) (k0 (by omega))
    · refine r_iconst 11 dX11_isShelf_10 rfl ?_
      refine r_goto 15 dX11_isShelf_11 (by decide) ?_
      exact r_zret dX11_isShelf_15 rfl (by decide) (k1 (by omega))
theorem m_isSpot {z : xZ} {d : Nat} {Q : tQ} {c : tC} {L : tL} {v : Int} (hv : inR v) (k1 : (0 ≤ v ∧ v < 64) → Q (some (.int (iI 1))) c L) (k0 : ¬ (0 ≤ v ∧ v < 64) → Q (some (.int (iI 0))) c L) : En z (d + 1) MX11_isSpot Q 0 [some (.ref (xad z 50 0)), some (.int (iI v))] [] c L := by
  have hv1 := hv.1
  have hv2 := hv.2
  refine r_iloadN 1 dX11_isSpot_0 rfl rfl ?_
  refine r_iflt 14 4 dX11_isSpot_1 rfl (by decide) (by omega) (fun h1 => ?_) (fun h1 => ?_)
  · refine r_iconst 15 dX11_isSpot_14 rfl ?_
    exact r_zret dX11_isSpot_15 rfl (by decide) (k0 (by omega))
  · refine r_iloadN 5 dX11_isSpot_4 rfl rfl ?_
    refine r_bipush 7 dX11_isSpot_5 rfl (by decide) ?_
    refine r_icge 14 10 dX11_isSpot_7 rfl (by decide) (by omega) (by omega) (fun h7 => ?_) (fun h7 => ?_)
    · refine r_iconst 15 dX11_isSpot_14 rfl ?_
      exact r_zret dX11_isSpot_15 rfl (by decide) (k0 (by omega))
    · refine r_iconst 11 dX11_isSpot_10 rfl ?_
      refine r_goto 15 dX11_isSpot_11 (by decide) ?_
      exact r_zret dX11_isSpot_15 rfl (by decide) (k1 (by omega))
theorem m_isHour {z : xZ} {d : Nat} {Q : tQ} {c : tC} {L : tL} {v : Int} (hv : inR v) (k1 : (0 ≤ v ∧ v < 240) → Q (some (.int (iI 1))) c L) (k0 : ¬ (0 ≤ v ∧ v < 240) → Q (some (.int (iI 0))) c L) : En z (d + 1) MX11_isHour Q 0 [some (.ref (xad z 50 0)), some (.int (iI v))] [] c L := by
  have hv1 := hv.1
  have hv2 := hv.2
  refine r_iloadN 1 dX11_isHour_0 rfl rfl ?_
  refine r_iflt 15 4 dX11_isHour_1 rfl (by decide) (by omega) (fun h1 => ?_) (fun h1 => ?_)
  · refine r_iconst 16 dX11_isHour_15 rfl ?_
    exact r_zret dX11_isHour_16 rfl (by decide) (k0 (by omega))
  · refine r_iloadN 5 dX11_isHour_4 rfl rfl ?_
    refine r_sipush 8 dX11_isHour_5 rfl (by decide) ?_
    refine r_icge 15 11 dX11_isHour_8 rfl (by decide) (by omega) (by omega) (fun h8 => ?_) (fun h8 => ?_)
    · refine r_iconst 16 dX11_isHour_15 rfl ?_
      exact r_zret dX11_isHour_16 rfl (by decide) (k0 (by omega))
    · refine r_iconst 12 dX11_isHour_11 rfl ?_
      refine r_goto 16 dX11_isHour_12 (by decide) ?_
      exact r_zret dX11_isHour_16 rfl (by decide) (k1 (by omega))
theorem m_isTone {z : xZ} {d : Nat} {Q : tQ} {c : tC} {L : tL} {v : Int} (hv : inR v) (k1 : (20 ≤ v ∧ v < 100) → Q (some (.int (iI 1))) c L) (k0 : ¬ (20 ≤ v ∧ v < 100) → Q (some (.int (iI 0))) c L) : En z (d + 1) MX11_isTone Q 0 [some (.ref (xad z 50 0)), some (.int (iI v))] [] c L := by
  have hv1 := hv.1
  have hv2 := hv.2
  refine r_iloadN 1 dX11_isTone_0 rfl rfl ?_
  refine r_bipush 3 dX11_isTone_1 rfl (by decide) ?_
  refine r_iclt 16 6 dX11_isTone_3 rfl (by decide) (by omega) (by omega) (fun h3 => ?_) (fun h3 => ?_)
  · refine r_iconst 17 dX11_isTone_16 rfl ?_
    exact r_zret dX11_isTone_17 rfl (by decide) (k0 (by omega))
  · refine r_iloadN 7 dX11_isTone_6 rfl rfl ?_
    refine r_bipush 9 dX11_isTone_7 rfl (by decide) ?_
    refine r_icge 16 12 dX11_isTone_9 rfl (by decide) (by omega) (by omega) (fun h9 => ?_) (fun h9 => ?_)
    · refine r_iconst 17 dX11_isTone_16 rfl ?_
      exact r_zret dX11_isTone_17 rfl (by decide) (k0 (by omega))
    · refine r_iconst 13 dX11_isTone_12 rfl ?_
      refine r_goto 17 dX11_isTone_13 (by decide) ?_
      exact r_zret dX11_isTone_17 rfl (by decide) (k1 (by omega))
theorem m_isPerson {z : xZ} {d : Nat} {Q : tQ} {c : tC} {L : tL} {v : Int} (hR : RX c) (hv : inR v) (k1 : (0 ≤ v ∧ v < c 50 0 1) → Q (some (.int (iI 1))) c L) (k0 : ¬ (0 ≤ v ∧ v < c 50 0 1) → Q (some (.int (iI 0))) c L) : En z (d + 1) MX11_isPerson Q 0 [some (.ref (xad z 50 0)), some (.int (iI v))] [] c L := by
  have hv1 := hv.1
  have hv2 := hv.2
  have hg := R0_rng hR
  refine r_iloadN 1 dX11_isPerson_0 rfl rfl ?_
  refine r_iflt 16 4 dX11_isPerson_1 rfl (by decide) (by omega) (fun h1 => ?_) (fun h1 => ?_)
  · refine r_iconst 17 dX11_isPerson_16 rfl ?_
    exact r_zret dX11_isPerson_17 rfl (by decide) (k0 (by omega))
  · refine r_iloadN 5 dX11_isPerson_4 rfl rfl ?_
    refine r_aloadN 6 dX11_isPerson_5 rfl rfl ?_
    refine r_geti 9 dX11_isPerson_6 rfl fX11_171 (by decide) (sh_50 z _) rfl ?_
    refine r_icge 16 12 dX11_isPerson_9 rfl (by decide) (by omega) (by omega) (fun h9 => ?_) (fun h9 => ?_)
    · refine r_iconst 17 dX11_isPerson_16 rfl ?_
      exact r_zret dX11_isPerson_17 rfl (by decide) (k0 (by omega))
    · refine r_iconst 13 dX11_isPerson_12 rfl ?_
      refine r_goto 17 dX11_isPerson_13 (by decide) ?_
      exact r_zret dX11_isPerson_17 rfl (by decide) (k1 (by omega))
theorem m_isSource {z : xZ} {d : Nat} {Q : tQ} {c : tC} {L : tL} {v : Int} (hR : RX c) (hv : inR v) (k1 : (0 ≤ v ∧ v < c 50 0 2) → Q (some (.int (iI 1))) c L) (k0 : ¬ (0 ≤ v ∧ v < c 50 0 2) → Q (some (.int (iI 0))) c L) : En z (d + 1) MX11_isSource Q 0 [some (.ref (xad z 50 0)), some (.int (iI v))] [] c L := by
  have hv1 := hv.1
  have hv2 := hv.2
  have hg := R0_rng hR
  refine r_iloadN 1 dX11_isSource_0 rfl rfl ?_
  refine r_iflt 16 4 dX11_isSource_1 rfl (by decide) (by omega) (fun h1 => ?_) (fun h1 => ?_)
  · refine r_iconst 17 dX11_isSource_16 rfl ?_
    exact r_zret dX11_isSource_17 rfl (by decide) (k0 (by omega))
  · refine r_iloadN 5 dX11_isSource_4 rfl rfl ?_
    refine r_aloadN 6 dX11_isSource_5 rfl rfl ?_
    refine r_geti 9 dX11_isSource_6 rfl fX11_174 (by decide) (sh_50 z _) rfl ?_
    refine r_icge 16 12 dX11_isSource_9 rfl (by decide) (by omega) (by omega) (fun h9 => ?_) (fun h9 => ?_)
    · refine r_iconst 17 dX11_isSource_16 rfl ?_
      exact r_zret dX11_isSource_17 rfl (by decide) (k0 (by omega))
    · refine r_iconst 13 dX11_isSource_12 rfl ?_
      refine r_goto 17 dX11_isSource_13 (by decide) ?_
      exact r_zret dX11_isSource_17 rfl (by decide) (k1 (by omega))
theorem m_isHours {z : xZ} {d : Nat} {Q : tQ} {c : tC} {L : tL} {a b : Int} (ha : inR a) (hb : inR b) (k1 : (0 ≤ a ∧ a ≤ b ∧ b ≤ 239) → Q (some (.int (iI 1))) c L) (k0 : ¬ (0 ≤ a ∧ a ≤ b ∧ b ≤ 239) → Q (some (.int (iI 0))) c L) : En z (d + 2) MX11_isHours Q 0 [some (.ref (xad z 50 0)), some (.int (iI a)), some (.int (iI b))] [] c L := by
  have ha1 := ha.1
  have ha2 := ha.2
  have hb1 := hb.1
  have hb2 := hb.2
  refine r_aloadN 1 dX11_isHours_0 rfl rfl ?_
  refine r_iloadN 2 dX11_isHours_1 rfl rfl ?_
  refine r_cv1 5 dX11_isHours_2 rfl gX11_177 rfl (by decide) (sh_50 z _) rfl rfl (Nat.le_of_ble_eq_true rfl) (Nat.le_of_ble_eq_true rfl) rfl ?_
  refine m_isHour (by assumption) (fun y2 => ?_) (fun y2 => ?_)
  · refine r_ifeqF 8 dX11_isHours_5 rfl 25 (by decide) (by decide) (by decide) ?_
    refine r_aloadN 9 dX11_isHours_8 rfl rfl ?_
    refine r_iloadN 10 dX11_isHours_9 rfl rfl ?_
    refine r_cv1 13 dX11_isHours_10 rfl gX11_177 rfl (by decide) (sh_50 z _) rfl rfl (Nat.le_of_ble_eq_true rfl) (Nat.le_of_ble_eq_true rfl) rfl ?_
    refine m_isHour (by assumption) (fun y10 => ?_) (fun y10 => ?_)
    · refine r_ifeqF 16 dX11_isHours_13 rfl 25 (by decide) (by decide) (by decide) ?_
      refine r_iloadN 17 dX11_isHours_16 rfl rfl ?_
      refine r_iloadN 18 dX11_isHours_17 rfl rfl ?_
      refine r_icgt 25 21 dX11_isHours_18 rfl (by decide) (by omega) (by omega) (fun h18 => ?_) (fun h18 => ?_)
      · refine r_iconst 26 dX11_isHours_25 rfl ?_
        exact r_zret dX11_isHours_26 rfl (by decide) (k0 (by omega))
      · refine r_iconst 22 dX11_isHours_21 rfl ?_
        refine r_goto 26 dX11_isHours_22 (by decide) ?_
        exact r_zret dX11_isHours_26 rfl (by decide) (k1 (by omega))
    · refine r_ifeqT 25 0 dX11_isHours_13 (by decide) (by decide) (by decide) ?_
      refine r_iconst 26 dX11_isHours_25 rfl ?_
      exact r_zret dX11_isHours_26 rfl (by decide) (k0 (by omega))
  · refine r_ifeqT 25 0 dX11_isHours_5 (by decide) (by decide) (by decide) ?_
    refine r_iconst 26 dX11_isHours_25 rfl ?_
    exact r_zret dX11_isHours_26 rfl (by decide) (k0 (by omega))
def mRef (c : tC) (k : Nat) : tC := cu c 51 10 k (c 51 10 k + 1)
theorem m_no {z : xZ} {d : Nat} {Q : tQ} {c : tC} {L : tL} {w : Int} {k0 : Nat} (hw : w = -(k0 : Int)) (hk : 1 ≤ k0 ∧ k0 ≤ 7) (k : Q (some (.int (iI w))) (mRef c k0) L) : En z (d + 1) MX11_no Q 0 [some (.ref (xad z 50 0)), some (.int (iI w))] [] c L := by
  refine r_aloadN 1 dX11_no_0 rfl rfl ?_
  refine r_getq 4 dX11_no_1 rfl fX11_16 (by decide) (sh_50 z _) rfl ?_
  refine r_iloadN 5 dX11_no_4 rfl rfl ?_
  refine r_ineg 6 dX11_no_5 rfl ?_
  rw [show -w = (k0 : Int) by omega]
  refine r_dup2 7 dX11_no_6 rfl ?_
  refine r_iald (n := 8) 8 dX11_no_7 (k0) rfl rfl (by decide) (sh_51 z _) (by decide) (by omega) (by omega) ?_
  refine r_iconst 9 dX11_no_8 rfl ?_
  refine r_iadd 10 dX11_no_9 rfl ?_
  refine r_iast (n := 8) 11 dX11_no_10 (k0) rfl rfl (by decide) (sh_51 z _) (by decide) (by omega) (by omega) ?_
  refine r_iloadN 12 dX11_no_11 rfl rfl ?_
  exact r_ret dX11_no_12 rfl k
theorem m_sndi_loop {z : xZ} {d : Nat} {Q : tQ} {c : tC} {L : tL} {n s : Nat} {a b m : Int} (hR : RX c) (hn : c 50 0 2 = (n : Int)) (hs : s < n) (ha : 0 ≤ a ∧ a ≤ b ∧ b ≤ 239) (kk : ∀ e v6, e = (if fSome (c 50 0) (c 51) s a (b + 1 - a).toNat = true then 1 else 0) → En z (d + 5) MX11_sounding Q 47 [some (.ref (xad z 50 0)), some (.int (iI a)), some (.int (iI b)), some (.int (iI m)), some (.int (iI (s : Int))), some (.int (iI e)), v6] [] c L) : ∀ (k i : Nat) (e x : Int), a + i + k = b + 1 → x = a + i → e = (if fSome (c 50 0) (c 51) s a i = true then 1 else 0) → En z (d + 5) MX11_sounding Q 20 [some (.ref (xad z 50 0)), some (.int (iI a)), some (.int (iI b)), some (.int (iI m)), some (.int (iI (s : Int))), some (.int (iI e)), some (.int (iI x))] [] c L := by
  have hg := R0_rng hR
  have hc := R0_scal hR
  intro k
  induction k with
  | zero =>
    intro i e x hi hx he
    have heb : e = 0 ∨ e = 1 := by rw [he]; split <;> omega
    refine r_iload 22 dX11_sounding_20 rfl rfl ?_
    refine r_iloadN 23 dX11_sounding_22 rfl rfl ?_
    refine r_icgt 47 26 dX11_sounding_23 rfl (by decide) (by omega) (by omega) (fun h23 => ?_) (fun h23 => ?_)
    · exact kk _ _ (by rw [he, show i = (b + 1 - a).toNat by omega])
    · refine r_iload 28 dX11_sounding_26 rfl rfl ?_
      refine r_ifne 47 31 dX11_sounding_28 rfl (by decide) (by omega) (fun h28 => ?_) (fun h28 => ?_)
      · exact kk _ _ (by rw [he, show i = (b + 1 - a).toNat by omega])
      · exfalso; omega
  | succ k ih =>
    intro i e x hi hx he
    have heb : e = 0 ∨ e = 1 := by rw [he]; split <;> omega
    refine r_iload 22 dX11_sounding_20 rfl rfl ?_
    refine r_iloadN 23 dX11_sounding_22 rfl rfl ?_
    refine r_icgt 47 26 dX11_sounding_23 rfl (by decide) (by omega) (by omega) (fun h23 => ?_) (fun h23 => ?_)
    · first
        | (exfalso; omega)
        | (refine kk _ _ ?_
           cases hs : fSome (c 50 0) (c 51) s a i with
           | false => rw [hs, if_neg (by decide)] at he; exfalso; omega
           | true => rw [he, hs, fSome_mono hs _ (show i ≤ (b + 1 - a).toNat by omega)])
    · refine r_iload 28 dX11_sounding_26 rfl rfl ?_
      refine r_ifne 47 31 dX11_sounding_28 rfl (by decide) (by omega) (fun h28 => ?_) (fun h28 => ?_)
      · first
          | (exfalso; omega)
          | (refine kk _ _ ?_
             cases hs : fSome (c 50 0) (c 51) s a i with
             | false => rw [hs, if_neg (by decide)] at he; exfalso; omega
             | true => rw [he, hs, fSome_mono hs _ (show i ≤ (b + 1 - a).toNat by omega)])
      · refine r_aloadN 32 dX11_sounding_31 rfl rfl ?_
        refine r_iload 34 dX11_sounding_32 rfl rfl ?_
        refine r_iload 36 dX11_sounding_34 rfl rfl ?_
        refine r_cv2 39 dX11_sounding_36 rfl gX11_292 rfl (by decide) (sh_50 z _) rfl rfl (Nat.le_of_ble_eq_true rfl) (Nat.le_of_ble_eq_true rfl) rfl ?_
        refine m_isSounding hR hn (by omega) (h := x) (by omega) (fun y36 => ?_) (fun y36 => ?_)
        · refine r_istore5 41 dX11_sounding_39 rfl rfl (by decide) ?_
          refine r_iinc6 44 dX11_sounding_41 rfl rfl (by decide) ?_
          refine r_goto 20 dX11_sounding_44 (by decide) ?_
          refine ih (i + 1) _ _ (by omega) (by omega) ?_
          have hs : fSome (c 50 0) (c 51) s a i = false := by
            cases hs : fSome (c 50 0) (c 51) s a i with
            | false => rfl
            | true => rw [hs, if_pos rfl] at he; exfalso; omega
          rw [fSome, hs, Bool.false_or, ← hx]
          first
            | (rw [if_pos y36]; done)
            | (rw [if_neg (by rw [y36]; decide)]; done)
        · refine r_istore5 41 dX11_sounding_39 rfl rfl (by decide) ?_
          refine r_iinc6 44 dX11_sounding_41 rfl rfl (by decide) ?_
          refine r_goto 20 dX11_sounding_44 (by decide) ?_
          refine ih (i + 1) _ _ (by omega) (by omega) ?_
          have hs : fSome (c 50 0) (c 51) s a i = false := by
            cases hs : fSome (c 50 0) (c 51) s a i with
            | false => rfl
            | true => rw [hs, if_pos rfl] at he; exfalso; omega
          rw [fSome, hs, Bool.false_or, ← hx]
          first
            | (rw [if_pos y36]; done)
            | (rw [if_neg (by rw [y36]; decide)]; done)
theorem m_snd_loop {z : xZ} {d : Nat} {Q : tQ} {c : tC} {L : tL} {n : Nat} {a b : Int} (hR : RX c) (hn : c 50 0 2 = (n : Int)) (ha : 0 ≤ a ∧ a ≤ b ∧ b ≤ 239) (kk : ∀ r, r = ((mkN (fun s => fSome (c 50 0) (c 51) s a (b + 1 - a).toNat) n : Nat) : Int) → Q (some (.int (iI r))) c L) : ∀ (k i : Nat) (m : Int) (v5 v6 : Option Value), i + k = n → m = ((mkN (fun s => fSome (c 50 0) (c 51) s a (b + 1 - a).toNat) i : Nat) : Int) → En z (d + 5) MX11_sounding Q 5 [some (.ref (xad z 50 0)), some (.int (iI a)), some (.int (iI b)), some (.int (iI m)), some (.int (iI (i : Int))), v5, v6] [] c L := by
  have hg := R0_rng hR
  have hc := R0_scal hR
  intro k
  induction k with
  | zero =>
    intro i m v5 v6 hi hm
    refine r_iload 7 dX11_sounding_5 rfl rfl ?_
    refine r_aloadN 8 dX11_sounding_7 rfl rfl ?_
    refine r_geti 11 dX11_sounding_8 rfl fX11_174 (by decide) (sh_50 z _) rfl ?_
    refine r_icge 65 14 dX11_sounding_11 rfl (by decide) (by omega) (by omega) (fun h11 => ?_) (fun h11 => ?_)
    · refine r_iloadN 66 dX11_sounding_65 rfl rfl ?_
      refine r_ret dX11_sounding_66 rfl (kk _ ?_)
      rw [hm, show i = n by omega]
    · exfalso; omega
  | succ k ih =>
    intro i m v5 v6 hi hm
    refine r_iload 7 dX11_sounding_5 rfl rfl ?_
    refine r_aloadN 8 dX11_sounding_7 rfl rfl ?_
    refine r_geti 11 dX11_sounding_8 rfl fX11_174 (by decide) (sh_50 z _) rfl ?_
    refine r_icge 65 14 dX11_sounding_11 rfl (by decide) (by omega) (by omega) (fun h11 => ?_) (fun h11 => ?_)
    · exfalso; omega
    · refine r_iconst 15 dX11_sounding_14 rfl ?_
      refine r_istore5 17 dX11_sounding_15 rfl rfl (by decide) ?_
      refine r_iloadN 18 dX11_sounding_17 rfl rfl ?_
      refine r_istore6 20 dX11_sounding_18 rfl rfl (by decide) ?_
      refine m_sndi_loop hR hn (s := i) (by omega) ha (fun e v6 he => ?_) (b + 1 - a).toNat 0 _ _ (by omega) (by simp) rfl
      refine r_iload 49 dX11_sounding_47 rfl rfl ?_
      refine r_ifeq 59 52 dX11_sounding_49 rfl (by decide) (by rw [he]; split <;> omega) (fun h49 => ?_) (fun h49 => ?_)
      · refine r_iinc4 62 dX11_sounding_59 rfl rfl (by decide) ?_
        refine r_goto 5 dX11_sounding_62 (by decide) ?_
        refine ih (i + 1) _ _ _ (by omega) ?_
        first
          | exact ior_step (by omega) hm (by
              cases hs : fSome (c 50 0) (c 51) i a (b + 1 - a).toNat with
              | true => rfl
              | false => rw [hs, if_neg (by decide)] at he; exfalso; omega)
          | exact mkN_skip hm (by
              cases hs : fSome (c 50 0) (c 51) i a (b + 1 - a).toNat with
              | false => rfl
              | true => rw [hs, if_pos rfl] at he; exfalso; omega)
      · refine r_iloadN 53 dX11_sounding_52 rfl rfl ?_
        refine r_iconst 54 dX11_sounding_53 rfl ?_
        refine r_iload 56 dX11_sounding_54 rfl rfl ?_
        refine r_ishl 57 dX11_sounding_56 rfl ?_
        rw [ishl_one i (by omega)]
        refine r_ior 58 dX11_sounding_57 rfl ?_
        refine r_istore3 59 dX11_sounding_58 rfl rfl (by decide) ?_
        refine r_iinc4 62 dX11_sounding_59 rfl rfl (by decide) ?_
        refine r_goto 5 dX11_sounding_62 (by decide) ?_
        refine ih (i + 1) _ _ _ (by omega) ?_
        first
          | exact ior_step (by omega) hm (by
              cases hs : fSome (c 50 0) (c 51) i a (b + 1 - a).toNat with
              | true => rfl
              | false => rw [hs, if_neg (by decide)] at he; exfalso; omega)
          | exact mkN_skip hm (by
              cases hs : fSome (c 50 0) (c 51) i a (b + 1 - a).toNat with
              | false => rfl
              | true => rw [hs, if_pos rfl] at he; exfalso; omega)
theorem m_sounding {z : xZ} {d : Nat} {Q : tQ} {c : tC} {L : tL} {n : Nat} {a b : Int} (hR : RX c) (hn : c 50 0 2 = (n : Int)) (ha : 0 ≤ a ∧ a ≤ b ∧ b ≤ 239) (k : ∀ r, r = ((mkN (fun s => fSome (c 50 0) (c 51) s a (b + 1 - a).toNat) n : Nat) : Int) → Q (some (.int (iI r))) c L) : En z (d + 5) MX11_sounding Q 0 [some (.ref (xad z 50 0)), some (.int (iI a)), some (.int (iI b)), none, none, none, none] [] c L := by
  refine r_iconst 1 dX11_sounding_0 rfl ?_
  refine r_istore3 2 dX11_sounding_1 rfl rfl (by decide) ?_
  refine r_iconst 3 dX11_sounding_2 rfl ?_
  refine r_istore4 5 dX11_sounding_3 rfl rfl (by decide) ?_
  exact m_snd_loop hR hn ha k n 0 _ none none (by omega) rfl
theorem m_heardOf_loop {z : xZ} {d : Nat} {Q : tQ} {c : tC} {L : tL} {n p sp : Nat} {G : Nat → Bool} (hR : RX c) (hn : c 50 0 2 = (n : Int)) (hsp : sp < 64) (hp : (p : Int) < c 50 0 1) (kk : ∀ r, r = ((mkN (fun s => fHear (c 51) p s (sp : Int) && G s) n : Nat) : Int) → Q (some (.int (iI r))) c L) : ∀ (k i : Nat) (m : Int), i + k = n → m = ((mkN (fun s => fHear (c 51) p s (sp : Int) && G s) i : Nat) : Int) → En z (d + 4) MX11_heardOf Q 6 [some (.ref (xad z 50 0)), some (.int (iI (p : Int))), some (.int (iI (sp : Int))), some (.int (iI ((mkN G n : Nat) : Int))), some (.int (iI m)), some (.int (iI (i : Int)))] [] c L := by
  have hg := R0_rng hR
  have hc := R0_scal hR
  have hGl := mkN_lt31 G (show n ≤ 14 by omega)
  intro k
  induction k with
  | zero =>
    intro i m hi hm
    refine r_iload 8 dX11_heardOf_6 rfl rfl ?_
    refine r_aloadN 9 dX11_heardOf_8 rfl rfl ?_
    refine r_geti 12 dX11_heardOf_9 rfl fX11_174 (by decide) (sh_50 z _) rfl ?_
    refine r_icge 51 15 dX11_heardOf_12 rfl (by decide) (by omega) (by omega) (fun h12 => ?_) (fun h12 => ?_)
    · refine r_iload 53 dX11_heardOf_51 rfl rfl ?_
      refine r_ret dX11_heardOf_53 rfl (kk _ ?_)
      rw [hm, show i = n by omega]
    · exfalso; omega
  | succ k ih =>
    intro i m hi hm
    refine r_iload 8 dX11_heardOf_6 rfl rfl ?_
    refine r_aloadN 9 dX11_heardOf_8 rfl rfl ?_
    refine r_geti 12 dX11_heardOf_9 rfl fX11_174 (by decide) (sh_50 z _) rfl ?_
    refine r_icge 51 15 dX11_heardOf_12 rfl (by decide) (by omega) (by omega) (fun h12 => ?_) (fun h12 => ?_)
    · exfalso; omega
    · refine r_iloadN 16 dX11_heardOf_15 rfl rfl ?_
      refine r_iload 18 dX11_heardOf_16 rfl rfl ?_
      refine r_ishr 19 dX11_heardOf_18 rfl ?_
      refine r_iconst 20 dX11_heardOf_19 rfl ?_
      refine r_iand 21 dX11_heardOf_20 rfl ?_
      rw [ibit hGl (by omega), mk_bit (by omega)]
      refine r_iconst 22 dX11_heardOf_21 rfl ?_
      refine r_icne 45 25 dX11_heardOf_22 rfl (by decide) (by split <;> omega) (by omega) (fun h22 => ?_) (fun h22 => ?_)
      · refine r_iinc5 48 dX11_heardOf_45 rfl rfl (by decide) ?_
        refine r_goto 6 dX11_heardOf_48 (by decide) ?_
        refine ih (i + 1) _ (by omega) ?_
        cases hGi : G i with
        | true =>
          rw [hGi, if_pos rfl] at h22
          first
            | exact ior_step (by omega) hm (by show (fHear (c 51) p i (sp : Int) && G i) = true; rw [hGi, y30]; rfl)
            | exact mkN_skip hm (by show (fHear (c 51) p i (sp : Int) && G i) = false; rw [y30]; rfl)
            | (exfalso; omega)
        | false =>
          rw [hGi, if_neg (by decide)] at h22
          first
            | (exfalso; omega)
            | exact mkN_skip hm (by show (fHear (c 51) p i (sp : Int) && G i) = false; rw [hGi, Bool.and_false])
      · refine r_aloadN 26 dX11_heardOf_25 rfl rfl ?_
        refine r_iloadN 27 dX11_heardOf_26 rfl rfl ?_
        refine r_iload 29 dX11_heardOf_27 rfl rfl ?_
        refine r_iloadN 30 dX11_heardOf_29 rfl rfl ?_
        refine r_cv3 33 dX11_heardOf_30 rfl gX11_288 rfl (by decide) (sh_50 z _) rfl rfl (Nat.le_of_ble_eq_true rfl) (Nat.le_of_ble_eq_true rfl) rfl ?_
        refine m_couldHear hR hn (by omega) (by omega) hp (fun y30 => ?_) (fun y30 => ?_)
        · refine r_ifeqF 36 dX11_heardOf_33 rfl 45 (by decide) (by decide) (by decide) ?_
          refine r_iload 38 dX11_heardOf_36 rfl rfl ?_
          refine r_iconst 39 dX11_heardOf_38 rfl ?_
          refine r_iload 41 dX11_heardOf_39 rfl rfl ?_
          refine r_ishl 42 dX11_heardOf_41 rfl ?_
          rw [ishl_one i (by omega)]
          refine r_ior 43 dX11_heardOf_42 rfl ?_
          refine r_istore4 45 dX11_heardOf_43 rfl rfl (by decide) ?_
          refine r_iinc5 48 dX11_heardOf_45 rfl rfl (by decide) ?_
          refine r_goto 6 dX11_heardOf_48 (by decide) ?_
          refine ih (i + 1) _ (by omega) ?_
          cases hGi : G i with
          | true =>
            rw [hGi, if_pos rfl] at h22
            first
              | exact ior_step (by omega) hm (by show (fHear (c 51) p i (sp : Int) && G i) = true; rw [hGi, y30]; rfl)
              | exact mkN_skip hm (by show (fHear (c 51) p i (sp : Int) && G i) = false; rw [y30]; rfl)
              | (exfalso; omega)
          | false =>
            rw [hGi, if_neg (by decide)] at h22
            first
              | (exfalso; omega)
              | exact mkN_skip hm (by show (fHear (c 51) p i (sp : Int) && G i) = false; rw [hGi, Bool.and_false])
        · refine r_ifeqT 45 0 dX11_heardOf_33 (by decide) (by decide) (by decide) ?_
          refine r_iinc5 48 dX11_heardOf_45 rfl rfl (by decide) ?_
          refine r_goto 6 dX11_heardOf_48 (by decide) ?_
          refine ih (i + 1) _ (by omega) ?_
          cases hGi : G i with
          | true =>
            rw [hGi, if_pos rfl] at h22
            first
              | exact ior_step (by omega) hm (by show (fHear (c 51) p i (sp : Int) && G i) = true; rw [hGi, y30]; rfl)
              | exact mkN_skip hm (by show (fHear (c 51) p i (sp : Int) && G i) = false; rw [y30]; rfl)
              | (exfalso; omega)
          | false =>
            rw [hGi, if_neg (by decide)] at h22
            first
              | (exfalso; omega)
              | exact mkN_skip hm (by show (fHear (c 51) p i (sp : Int) && G i) = false; rw [hGi, Bool.and_false])
theorem m_heardOf {z : xZ} {d : Nat} {Q : tQ} {c : tC} {L : tL} {n p sp : Nat} {m : Int} {G : Nat → Bool} (hR : RX c) (hn : c 50 0 2 = (n : Int)) (hsp : sp < 64) (hp : (p : Int) < c 50 0 1) (hm : m = ((mkN G n : Nat) : Int)) (k : ∀ r, r = ((mkN (fun s => fHear (c 51) p s (sp : Int) && G s) n : Nat) : Int) → Q (some (.int (iI r))) c L) : En z (d + 4) MX11_heardOf Q 0 [some (.ref (xad z 50 0)), some (.int (iI (p : Int))), some (.int (iI (sp : Int))), some (.int (iI m)), none, none] [] c L := by
  subst hm
  refine r_iconst 1 dX11_heardOf_0 rfl ?_
  refine r_istore4 3 dX11_heardOf_1 rfl rfl (by decide) ?_
  refine r_iconst 4 dX11_heardOf_3 rfl ?_
  refine r_istore5 6 dX11_heardOf_4 rfl rfl (by decide) ?_
  exact m_heardOf_loop hR hn hsp hp k n 0 _ (by omega) rfl
theorem m_met_loop {z : xZ} {d : Nat} {Q : tQ} {c : tC} {L : tL} {n sp : Nat} {lo : Int} {G : Nat → Bool} (hR : RX c) (hn : c 50 0 2 = (n : Int)) (hsp : sp < 64) (hlo : 1 ≤ lo ∧ lo ≤ 99) (kk : ∀ r : Nat, r = cntN (fMet (c 51) G (sp : Int) lo) n → Q (some (.int (iI (r : Int)))) c L) : ∀ (k i : Nat) (e : Int), i + k = n → e = ((cntN (fMet (c 51) G (sp : Int) lo) i : Nat) : Int) → En z (d + 3) MX11_metered Q 6 [some (.ref (xad z 50 0)), some (.int (iI (sp : Int))), some (.int (iI lo)), some (.int (iI ((mkN G n : Nat) : Int))), some (.int (iI e)), some (.int (iI (i : Int)))] [] c L := by
  have hg := R0_rng hR
  have hc := R0_scal hR
  have hGl := mkN_lt31 G (show n ≤ 14 by omega)
  intro k
  induction k with
  | zero =>
    intro i e hi he
    refine r_iload 8 dX11_metered_6 rfl rfl ?_
    refine r_aloadN 9 dX11_metered_8 rfl rfl ?_
    refine r_geti 12 dX11_metered_9 rfl fX11_174 (by decide) (sh_50 z _) rfl ?_
    refine r_icge 54 15 dX11_metered_12 rfl (by decide) (by omega) (by omega) (fun h12 => ?_) (fun h12 => ?_)
    · refine r_iload 56 dX11_metered_54 rfl rfl ?_
      rw [he]
      refine r_ret dX11_metered_56 rfl (kk _ ?_)
      rw [show i = n by omega]
    · exfalso; omega
  | succ k ih =>
    intro i e hi he
    have hlv := fLvl_bd hR hn (show i < n by omega) hsp
    refine r_iload 8 dX11_metered_6 rfl rfl ?_
    refine r_aloadN 9 dX11_metered_8 rfl rfl ?_
    refine r_geti 12 dX11_metered_9 rfl fX11_174 (by decide) (sh_50 z _) rfl ?_
    refine r_icge 54 15 dX11_metered_12 rfl (by decide) (by omega) (by omega) (fun h12 => ?_) (fun h12 => ?_)
    · exfalso; omega
    · refine r_iloadN 16 dX11_metered_15 rfl rfl ?_
      refine r_iload 18 dX11_metered_16 rfl rfl ?_
      refine r_ishr 19 dX11_metered_18 rfl ?_
      refine r_iconst 20 dX11_metered_19 rfl ?_
      refine r_iand 21 dX11_metered_20 rfl ?_
      rw [ibit hGl (by omega), mk_bit (by omega)]
      refine r_iconst 22 dX11_metered_21 rfl ?_
      refine r_icne 48 25 dX11_metered_22 rfl (by decide) (by split <;> omega) (by omega) (fun h22 => ?_) (fun h22 => ?_)
      · refine r_iinc5 51 dX11_metered_48 rfl rfl (by decide) ?_
        refine r_goto 6 dX11_metered_51 (by decide) ?_
        refine ih (i + 1) _ (by omega) ?_
        rw [cntN]
        cases hGi : G i with
        | true =>
          rw [hGi, if_pos rfl] at h22
          first
            | (exfalso; omega)
            | (rw [if_pos (by unfold fMet; rw [hGi, y28, decide_eq_true (by omega)]; rfl)]; omega)
            | (rw [if_neg (by unfold fMet; rw [hGi, y28]; exact Bool.false_ne_true)]; omega)
            | (rw [if_neg (by unfold fMet; rw [decide_eq_false (by omega), Bool.and_false]; decide)]; omega)
        | false =>
          rw [hGi, if_neg (by decide)] at h22
          first
            | (exfalso; omega)
            | (rw [if_neg (by unfold fMet; rw [hGi]; exact Bool.false_ne_true)]; omega)
      · refine r_aloadN 26 dX11_metered_25 rfl rfl ?_
        refine r_iload 28 dX11_metered_26 rfl rfl ?_
        refine r_cv1 31 dX11_metered_28 rfl gX11_279 rfl (by decide) (sh_50 z _) rfl rfl (Nat.le_of_ble_eq_true rfl) (Nat.le_of_ble_eq_true rfl) rfl ?_
        refine m_isTalk hR hn (by omega) (fun y28 => ?_) (fun y28 => ?_)
        · refine r_ifneT 48 0 dX11_metered_31 (by decide) (by decide) (by decide) ?_
          refine r_iinc5 51 dX11_metered_48 rfl rfl (by decide) ?_
          refine r_goto 6 dX11_metered_51 (by decide) ?_
          refine ih (i + 1) _ (by omega) ?_
          rw [cntN]
          cases hGi : G i with
          | true =>
            rw [hGi, if_pos rfl] at h22
            first
              | (exfalso; omega)
              | (rw [if_pos (by unfold fMet; rw [hGi, y28, decide_eq_true (by omega)]; rfl)]; omega)
              | (rw [if_neg (by unfold fMet; rw [hGi, y28]; exact Bool.false_ne_true)]; omega)
              | (rw [if_neg (by unfold fMet; rw [decide_eq_false (by omega), Bool.and_false]; decide)]; omega)
          | false =>
            rw [hGi, if_neg (by decide)] at h22
            first
              | (exfalso; omega)
              | (rw [if_neg (by unfold fMet; rw [hGi]; exact Bool.false_ne_true)]; omega)
        · refine r_ifneF 34 dX11_metered_31 rfl 48 (by decide) (by decide) (by decide) ?_
          refine r_aloadN 35 dX11_metered_34 rfl rfl ?_
          refine r_iload 37 dX11_metered_35 rfl rfl ?_
          refine r_iloadN 38 dX11_metered_37 rfl rfl ?_
          refine r_cv2 41 dX11_metered_38 rfl gX11_282 rfl (by decide) (sh_50 z _) rfl rfl (Nat.le_of_ble_eq_true rfl) (Nat.le_of_ble_eq_true rfl) rfl ?_
          refine m_level hR hn (by omega) hsp (fun r38 e38 => ?_)
          refine r_iloadN 42 dX11_metered_41 rfl rfl ?_
          refine r_iclt 48 45 dX11_metered_42 rfl (by decide) (by omega) (by omega) (fun h42 => ?_) (fun h42 => ?_)
          · refine r_iinc5 51 dX11_metered_48 rfl rfl (by decide) ?_
            refine r_goto 6 dX11_metered_51 (by decide) ?_
            refine ih (i + 1) _ (by omega) ?_
            rw [cntN]
            cases hGi : G i with
            | true =>
              rw [hGi, if_pos rfl] at h22
              first
                | (exfalso; omega)
                | (rw [if_pos (by unfold fMet; rw [hGi, y28, decide_eq_true (by omega)]; rfl)]; omega)
                | (rw [if_neg (by unfold fMet; rw [hGi, y28]; exact Bool.false_ne_true)]; omega)
                | (rw [if_neg (by unfold fMet; rw [decide_eq_false (by omega), Bool.and_false]; decide)]; omega)
            | false =>
              rw [hGi, if_neg (by decide)] at h22
              first
                | (exfalso; omega)
                | (rw [if_neg (by unfold fMet; rw [hGi]; exact Bool.false_ne_true)]; omega)
          · refine r_iinc4 48 dX11_metered_45 rfl rfl (by decide) ?_
            refine r_iinc5 51 dX11_metered_48 rfl rfl (by decide) ?_
            refine r_goto 6 dX11_metered_51 (by decide) ?_
            refine ih (i + 1) _ (by omega) ?_
            rw [cntN]
            cases hGi : G i with
            | true =>
              rw [hGi, if_pos rfl] at h22
              first
                | (exfalso; omega)
                | (rw [if_pos (by unfold fMet; rw [hGi, y28, decide_eq_true (by omega)]; rfl)]; omega)
                | (rw [if_neg (by unfold fMet; rw [hGi, y28]; exact Bool.false_ne_true)]; omega)
                | (rw [if_neg (by unfold fMet; rw [decide_eq_false (by omega), Bool.and_false]; decide)]; omega)
            | false =>
              rw [hGi, if_neg (by decide)] at h22
              first
                | (exfalso; omega)
                | (rw [if_neg (by unfold fMet; rw [hGi]; exact Bool.false_ne_true)]; omega)
theorem m_metered {z : xZ} {d : Nat} {Q : tQ} {c : tC} {L : tL} {n sp : Nat} {lo m : Int} {G : Nat → Bool} (hR : RX c) (hn : c 50 0 2 = (n : Int)) (hsp : sp < 64) (hlo : 1 ≤ lo ∧ lo ≤ 99) (hm : m = ((mkN G n : Nat) : Int)) (k : ∀ r : Nat, r = cntN (fMet (c 51) G (sp : Int) lo) n → Q (some (.int (iI (r : Int)))) c L) : En z (d + 3) MX11_metered Q 0 [some (.ref (xad z 50 0)), some (.int (iI (sp : Int))), some (.int (iI lo)), some (.int (iI m)), none, none] [] c L := by
  subst hm
  refine r_iconst 1 dX11_metered_0 rfl ?_
  refine r_istore4 3 dX11_metered_1 rfl rfl (by decide) ?_
  refine r_iconst 4 dX11_metered_3 rfl ?_
  refine r_istore5 6 dX11_metered_4 rfl rfl (by decide) ?_
  exact m_met_loop hR hn hsp hlo k n 0 _ (by omega) rfl
