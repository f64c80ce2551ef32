theorem fWor_rng {c : tC} (hR : RX c) (p s : Nat) : ∀ (k l : Nat) (w : Int), 1 ≤ w → w * 9 ^ l ≤ 1853020188851841 → 1 ≤ fWor c p s k l w ∧ fWor c p s k l w ≤ 1853020188851841 := by
  intro k
  induction k with
  | zero =>
    intro l w h1 h2
    have h3 : (1 : Int) ≤ 9 ^ l := Int.le_of_lt_add_one (by have : (0 : Int) < 9 ^ l := Int.pow_pos (by decide); omega)
    have h4 := Int.mul_le_mul_of_nonneg_left h3 (show 0 ≤ w by omega)
    show 1 ≤ w ∧ w ≤ _
    omega
  | succ k ih =>
    intro l w h1 h2
    have h3 : (1 : Int) ≤ 9 ^ l := Int.le_of_lt_add_one (by have : (0 : Int) < 9 ^ l := Int.pow_pos (by decide); omega)
    have h4 := Int.mul_le_mul_of_nonneg_left h3 (show 0 ≤ w by omega)
    rw [fWor]
    by_cases e : l = 0
    · rw [if_pos e]; omega
    · rw [if_neg e]
      split
      · have hf := fac_rng hR p k s
        obtain ⟨m, rfl⟩ : ∃ m, l = m + 1 := ⟨l - 1, by omega⟩
        have h5 := Int.mul_le_mul_of_nonneg_left hf.1 (show 0 ≤ w by omega)
        have h6 := Int.mul_le_mul_of_nonneg_left hf.2 (show 0 ≤ w by omega)
        have h7 : (0 : Int) ≤ 9 ^ m := Int.le_of_lt (Int.pow_pos (by decide))
        have h8 := Int.mul_le_mul_of_nonneg_right h6 h7
        refine ih (m + 1 - 1) _ (by omega) ?_
        rw [show m + 1 - 1 = m by omega]
        rw [Int.pow_succ, Int.mul_comm (9 ^ m) 9, ← Int.mul_assoc] at h2
        exact Int.le_trans h8 h2
      · exact ih l w h1 h2
def fMost (w : Nat → Int) : Nat → Int
  | 0 => 0
  | n + 1 => if fMost w n < w n then w n else fMost w n
def fIs (w : Nat → Int) : Nat → Int
  | 0 => -1
  | n + 1 => if fMost w n < w n then (n : Int) else if w n = fMost w n then -1 else fIs w n
def fAllw (w : Nat → Int) : Nat → Int
  | 0 => 0
  | n + 1 => fAllw w n + w n
theorem fSure_rng {w : Nat → Int} {n : Nat} (hw : ∀ s, s < n → 1 ≤ w s ∧ w s ≤ 1853020188851841) : ∀ i, i ≤ n → (0 ≤ fMost w i ∧ fMost w i ≤ 1853020188851841) ∧ (0 ≤ fAllw w i ∧ fAllw w i ≤ i * 1853020188851841) ∧ -1 ≤ fIs w i ∧ fIs w i < i := by
  intro i
  induction i with
  | zero => intro _; exact ⟨⟨Int.le_refl _, by show (0 : Int) ≤ _; decide⟩, ⟨Int.le_refl _, by show (0 : Int) ≤ ((0 : Nat) : Int) * _; decide⟩, Int.le_refl _, by show (-1 : Int) < ((0 : Nat) : Int); decide⟩
  | succ i ih =>
    intro hi
    have h1 := ih (by omega)
    have h2 := hw i (by omega)
    rw [fMost, fAllw, fIs]
    refine ⟨?_, ?_, ?_, ?_⟩
    · split <;> omega
    · omega
    · split
      · omega
      · split <;> omega
    · split
      · omega
      · split <;> omega
def fSure (w : Nat → Int) (n : Nat) (t : Int) : Int := if t * fAllw w n ≤ 100 * fMost w n then fIs w n else -1
theorem x_sure_loop {z : xZ} {d : Nat} {Q : tQ} {c : tC} {L : tL} {n : Nat} {t : Int} {w : Nat → Int} (hR : RX c) (hn : c 50 0 2 = (n : Int)) (ht : 1 ≤ t ∧ t ≤ 100) (hL : ∀ s, s < n → L 6 0 s = lI (w s)) (hw : ∀ s, s < n → 1 ≤ w s ∧ w s ≤ 1853020188851841) (kk : ∀ r, r = fSure w n t → Q (some (.int (iI r))) c L) : ∀ (k i : Nat) (su g sm : Int), i + k = n → su = fIs w i → g = fMost w i → sm = fAllw w i → En z (d + 1) MX6_surest Q 10 [some (.ref (xad z 5 0)), some (.int (iI t)), some (.int (iI su)), some (.long (lI g)), none, some (.long (lI sm)), none, some (.int (iI (i : Int)))] [] c L := by
  have hg := R0_rng hR
  have hc := R0_scal hR
  intro k
  induction k with
  | zero =>
    intro i su g sm hi hsu hg2 hsm
    have hb := fSure_rng hw i (by omega)
    have hn1 := Int.mul_le_mul ht.2 hb.2.1.2 hb.2.1.1 (by decide : (0 : Int) ≤ 100)
    have hn2 := Int.mul_nonneg (show 0 ≤ t by omega) hb.2.1.1
    rw [← hsm] at hn1 hn2
    refine r_iload 12 dX6_surest_10 rfl rfl ?_
    refine r_aloadN 13 dX6_surest_12 rfl rfl ?_
    refine r_getq 16 dX6_surest_13 rfl fX6_12 (by decide) (sh_5 z _) rfl ?_
    refine r_geti 19 dX6_surest_16 rfl fX6_42 (by decide) (sh_8 z _) rfl ?_
    refine r_icge 80 22 dX6_surest_19 rfl (by decide) (by omega) (by omega) (fun h19 => ?_) (fun h19 => ?_)
    · refine r_ldc2 (n := 100) 83 dX6_surest_80 rfl (kX6_95 z) ?_
      refine r_lloadN 84 dX6_surest_83 rfl rfl ?_
      refine r_lmul 85 dX6_surest_84 rfl ?_
      refine r_iloadN 86 dX6_surest_85 rfl rfl ?_
      refine r_i2l 87 dX6_surest_86 rfl (by omega) ?_
      refine r_lload 89 dX6_surest_87 rfl rfl ?_
      refine r_lmul 90 dX6_surest_89 rfl ?_
      refine r_lcmp 91 dX6_surest_90 rfl (inLo (by omega)) (inLo (by omega)) ?_
      refine r_iflt 98 94 dX6_surest_91 rfl (by decide) (cmpI_in' _ _) (fun h91 => ?_) (fun h91 => ?_)
      · refine r_iconst 99 dX6_surest_98 rfl ?_
        refine r_ret dX6_surest_99 rfl (kk _ ?_)
        have hcm := cmpI_c (100 * g) (t * sm)
        rw [← show i = n by omega]
        unfold fSure
        rw [← hg2, ← hsm, ← hsu]
        first
          | (rw [if_pos (by omega)]; done)
          | (rw [if_neg (by omega)]; done)
      · refine r_iloadN 95 dX6_surest_94 rfl rfl ?_
        refine r_goto 99 dX6_surest_95 (by decide) ?_
        refine r_ret dX6_surest_99 rfl (kk _ ?_)
        have hcm := cmpI_c (100 * g) (t * sm)
        rw [← show i = n by omega]
        unfold fSure
        rw [← hg2, ← hsm, ← hsu]
        first
          | (rw [if_pos (by omega)]; done)
          | (rw [if_neg (by omega)]; done)
    · exfalso; omega
  | succ k ih =>
    intro i su g sm hi hsu hg2 hsm
    have hb := fSure_rng hw i (by omega)
    have hwi := hw i (by omega)
    refine r_iload 12 dX6_surest_10 rfl rfl ?_
    refine r_aloadN 13 dX6_surest_12 rfl rfl ?_
    refine r_getq 16 dX6_surest_13 rfl fX6_12 (by decide) (sh_5 z _) rfl ?_
    refine r_geti 19 dX6_surest_16 rfl fX6_42 (by decide) (sh_8 z _) rfl ?_
    refine r_icge 80 22 dX6_surest_19 rfl (by decide) (by omega) (by omega) (fun h19 => ?_) (fun h19 => ?_)
    · exfalso; omega
    · refine r_lload 24 dX6_surest_22 rfl rfl ?_
      refine r_aloadN 25 dX6_surest_24 rfl rfl ?_
      refine r_getq 28 dX6_surest_25 rfl fX6_18 (by decide) (sh_5 z _) rfl ?_
      refine r_iload 30 dX6_surest_28 rfl rfl ?_
      refine r_lald 31 dX6_surest_30 (i) rfl rfl (by decide) (sh_6 z _) (by decide) (by omega) (by omega) ?_
      rw [hL i (by omega)]
      refine r_ladd 32 dX6_surest_31 rfl ?_
      refine r_lstore5 34 dX6_surest_32 rfl rfl (by decide) ?_
      refine r_aloadN 35 dX6_surest_34 rfl rfl ?_
      refine r_getq 38 dX6_surest_35 rfl fX6_18 (by decide) (sh_5 z _) rfl ?_
      refine r_iload 40 dX6_surest_38 rfl rfl ?_
      refine r_lald 41 dX6_surest_40 (i) rfl rfl (by decide) (sh_6 z _) (by decide) (by omega) (by omega) ?_
      rw [hL i (by omega)]
      refine r_lloadN 42 dX6_surest_41 rfl rfl ?_
      refine r_lcmp 43 dX6_surest_42 rfl (inLo (by omega)) (inLo (by omega)) ?_
      refine r_ifle 60 46 dX6_surest_43 rfl (by decide) (cmpI_in' _ _) (fun h43 => ?_) (fun h43 => ?_)
      · refine r_aloadN 61 dX6_surest_60 rfl rfl ?_
        refine r_getq 64 dX6_surest_61 rfl fX6_18 (by decide) (sh_5 z _) rfl ?_
        refine r_iload 66 dX6_surest_64 rfl rfl ?_
        refine r_lald 67 dX6_surest_66 (i) rfl rfl (by decide) (sh_6 z _) (by decide) (by omega) (by omega) ?_
        rw [hL i (by omega)]
        refine r_lloadN 68 dX6_surest_67 rfl rfl ?_
        refine r_lcmp 69 dX6_surest_68 rfl (inLo (by omega)) (inLo (by omega)) ?_
        refine r_ifne 74 72 dX6_surest_69 rfl (by decide) (cmpI_in' _ _) (fun h69 => ?_) (fun h69 => ?_)
        · refine r_iinc7 77 dX6_surest_74 rfl rfl (by decide) ?_
          refine r_goto 10 dX6_surest_77 (by decide) ?_
          refine ih (i + 1) _ _ _ (by omega) ?_ ?_ ?_
          · rw [fIs, ← hg2]
            have hcm := cmpI_c (w i) g
            first
              | (rw [if_pos (by omega)]; done)
              | (rw [if_neg (by omega), if_pos (by omega)]; done)
              | (rw [if_neg (by omega), if_neg (by omega)]; exact hsu)
          · rw [fMost, ← hg2]
            have hcm := cmpI_c (w i) g
            first
              | (rw [if_pos (by omega)]; done)
              | (rw [if_neg (by omega)]; done)
          · rw [fAllw, ← hsm]
        · refine r_iconst 73 dX6_surest_72 rfl ?_
          refine r_istore2 74 dX6_surest_73 rfl rfl (by decide) ?_
          refine r_iinc7 77 dX6_surest_74 rfl rfl (by decide) ?_
          refine r_goto 10 dX6_surest_77 (by decide) ?_
          refine ih (i + 1) _ _ _ (by omega) ?_ ?_ ?_
          · rw [fIs, ← hg2]
            have hcm := cmpI_c (w i) g
            first
              | (rw [if_pos (by omega)]; done)
              | (rw [if_neg (by omega), if_pos (by omega)]; done)
              | (rw [if_neg (by omega), if_neg (by omega)]; exact hsu)
          · rw [fMost, ← hg2]
            have hcm := cmpI_c (w i) g
            first
              | (rw [if_pos (by omega)]; done)
              | (rw [if_neg (by omega)]; done)
          · rw [fAllw, ← hsm]
      · refine r_iload 48 dX6_surest_46 rfl rfl ?_
        refine r_istore2 49 dX6_surest_48 rfl rfl (by decide) ?_
        refine r_aloadN 50 dX6_surest_49 rfl rfl ?_
        refine r_getq 53 dX6_surest_50 rfl fX6_18 (by decide) (sh_5 z _) rfl ?_
        refine r_iload 55 dX6_surest_53 rfl rfl ?_
        refine r_lald 56 dX6_surest_55 (i) rfl rfl (by decide) (sh_6 z _) (by decide) (by omega) (by omega) ?_
        rw [hL i (by omega)]
        refine r_lstore3 57 dX6_surest_56 rfl rfl (by decide) ?_
        refine r_goto 74 dX6_surest_57 (by decide) ?_
        refine r_iinc7 77 dX6_surest_74 rfl rfl (by decide) ?_
        refine r_goto 10 dX6_surest_77 (by decide) ?_
        refine ih (i + 1) _ _ _ (by omega) ?_ ?_ ?_
        · rw [fIs, ← hg2]
          have hcm := cmpI_c (w i) g
          first
            | (rw [if_pos (by omega)]; done)
            | (rw [if_neg (by omega), if_pos (by omega)]; done)
            | (rw [if_neg (by omega), if_neg (by omega)]; exact hsu)
        · rw [fMost, ← hg2]
          have hcm := cmpI_c (w i) g
          first
            | (rw [if_pos (by omega)]; done)
            | (rw [if_neg (by omega)]; done)
        · rw [fAllw, ← hsm]
theorem x_surest {z : xZ} {d : Nat} {Q : tQ} {c : tC} {L : tL} {n : Nat} {t : Int} {w : Nat → Int} (hR : RX c) (hn : c 50 0 2 = (n : Int)) (ht : 1 ≤ t ∧ t ≤ 100) (hL : ∀ s, s < n → L 6 0 s = lI (w s)) (hw : ∀ s, s < n → 1 ≤ w s ∧ w s ≤ 1853020188851841) (k : ∀ r, r = fSure w n t → Q (some (.int (iI r))) c L) : En z (d + 1) MX6_surest Q 0 [some (.ref (xad z 5 0)), some (.int (iI t)), none, none, none, none, none, none] [] c L := by
  refine r_iconst 1 dX6_surest_0 rfl ?_
  refine r_istore2 2 dX6_surest_1 rfl rfl (by decide) ?_
  refine r_lconst 3 dX6_surest_2 rfl ?_
  refine r_lstore3 4 dX6_surest_3 rfl rfl (by decide) ?_
  refine r_lconst 5 dX6_surest_4 rfl ?_
  refine r_lstore5 7 dX6_surest_5 rfl rfl (by decide) ?_
  refine r_iconst 8 dX6_surest_7 rfl ?_
  refine r_istore7 10 dX6_surest_8 rfl rfl (by decide) ?_
  exact x_sure_loop hR hn ht hL hw k n 0 _ _ _ (by omega) rfl rfl rfl
theorem x_heardOf {z : xZ} {d : Nat} {Q : tQ} {c : tC} {L : tL} {n p : Nat} {m : Int} {G : Nat → Bool} (hR : RX c) (hn : c 50 0 2 = (n : Int)) (hp : (p : Int) < c 50 0 1) (hm : m = ((mkN G n : Nat) : Int)) (k : ∀ r, r = ((mkN (fun s => fHear (c 51) p s (c 51 14 p) && G s) n : Nat) : Int) → Q (some (.int (iI r))) c L) : En z (d + 5) MX6_heardOf Q 0 [some (.ref (xad z 5 0)), some (.int (iI (p : Int))), some (.int (iI m))] [] c L := by
  have hg := R0_rng hR
  have hc := R0_scal hR
  have hpp := R0_per hR p hp
  obtain ⟨sp, hsp⟩ := Int.eq_ofNat_of_zero_le (show 0 ≤ c 51 14 p by omega)
  refine r_aloadN 1 dX6_heardOf_0 rfl rfl ?_
  refine r_getq 4 dX6_heardOf_1 rfl fX6_12 (by decide) (sh_5 z _) rfl ?_
  refine r_iloadN 5 dX6_heardOf_4 rfl rfl ?_
  refine r_aloadN 6 dX6_heardOf_5 rfl rfl ?_
  refine r_getq 9 dX6_heardOf_6 rfl fX6_12 (by decide) (sh_5 z _) rfl ?_
  refine r_getq 12 dX6_heardOf_9 rfl fX6_106 (by decide) (sh_8 z _) rfl ?_
  refine r_iloadN 13 dX6_heardOf_12 rfl rfl ?_
  refine r_aald 14 dX6_heardOf_13 (p) rfl rfl (by decide) (sh_9a z) rfl (by decide) (by omega) (by omega) ?_
  refine r_geti 17 dX6_heardOf_14 rfl fX6_110 (ct_12 (by omega)) (sh_12 z _) rfl ?_
  rw [show c 12 p 0 = (sp : Int) by omega]
  refine r_cv2 20 dX6_heardOf_17 rfl gX6_79 rfl (by decide) (sh_8 z _) rfl rfl (Nat.le_of_ble_eq_true rfl) (Nat.le_of_ble_eq_true rfl) rfl ?_
  refine x_audibleTo hR hn hp (sp := sp) (by omega) (fun r17 e17 => ?_)
  refine r_iloadN 21 dX6_heardOf_20 rfl rfl ?_
  refine r_iand 22 dX6_heardOf_21 rfl ?_
  refine r_ret dX6_heardOf_22 rfl (k _ ?_)
  rw [iand_mk (by omega) e17 hm, hsp]
theorem mk_in (f : Nat → Bool) {n : Nat} (h : n ≤ 14) : -2147483648 ≤ ((mkN f n : Nat) : Int) ∧ ((mkN f n : Nat) : Int) < 2147483648 := by
  have := mkN_lt31 f h
  constructor <;> omega
def fRid (A : sA) (G : Nat → Bool) (X : Nat) (n p : Nat) : Bool := !fAny (fun s => (fHear A p s (A 14 p) && G s) && !X.testBit s) n
theorem x_rid_loop {z : xZ} {d : Nat} {Q : tQ} {c : tC} {L : tL} {n X : Nat} {a b m : Int} {G : Nat → Bool} (hR : RX c) (hn : c 50 0 2 = (n : Int)) (hX : X < 2 ^ 31) (hm : m = ((mkN G n : Nat) : Int)) (kk : ∀ r, r = ((cntN (fRid (c 51) G X n) (c 50 0 1).toNat : Nat) : Int) → Q (some (.int (iI r))) c L) : ∀ (k i : Nat) (e : Int), (i : Int) + k = c 50 0 1 → e = ((cntN (fRid (c 51) G X n) i : Nat) : Int) → En z (d + 6) MX6_countRid Q 17 [some (.ref (xad z 5 0)), some (.int (iI (X : Int))), some (.int (iI a)), some (.int (iI b)), some (.int (iI m)), some (.int (iI e)), some (.int (iI (i : Int)))] [] c L := by
  have hg := R0_rng hR
  have hc := R0_scal hR
  intro k
  induction k with
  | zero =>
    intro i e hi he
    refine r_iload 19 dX6_countRid_17 rfl rfl ?_
    refine r_aloadN 20 dX6_countRid_19 rfl rfl ?_
    refine r_getq 23 dX6_countRid_20 rfl fX6_12 (by decide) (sh_5 z _) rfl ?_
    refine r_geti 26 dX6_countRid_23 rfl fX6_100 (by decide) (sh_8 z _) rfl ?_
    refine r_icge 53 29 dX6_countRid_26 rfl (by decide) (by omega) (by omega) (fun h26 => ?_) (fun h26 => ?_)
    · refine r_iload 55 dX6_countRid_53 rfl rfl ?_
      refine r_ret dX6_countRid_55 rfl (kk _ ?_)
      rw [he, show i = (c 50 0 1).toNat by omega]
    · exfalso; omega
  | succ k ih =>
    intro i e hi he
    refine r_iload 19 dX6_countRid_17 rfl rfl ?_
    refine r_aloadN 20 dX6_countRid_19 rfl rfl ?_
    refine r_getq 23 dX6_countRid_20 rfl fX6_12 (by decide) (sh_5 z _) rfl ?_
    refine r_geti 26 dX6_countRid_23 rfl fX6_100 (by decide) (sh_8 z _) rfl ?_
    refine r_icge 53 29 dX6_countRid_26 rfl (by decide) (by omega) (by omega) (fun h26 => ?_) (fun h26 => ?_)
    · exfalso; omega
    · refine r_aloadN 30 dX6_countRid_29 rfl rfl ?_
      refine r_iload 32 dX6_countRid_30 rfl rfl ?_
      refine r_iload 34 dX6_countRid_32 rfl rfl ?_
      refine r_cv2 37 dX6_countRid_34 rfl gX6_103 rfl (by decide) (sh_5 z _) rfl rfl (Nat.le_of_ble_eq_true rfl) (Nat.le_of_ble_eq_true rfl) rfl ?_
      refine x_heardOf hR hn (by omega) hm (fun r34 e34 => ?_)
      refine r_iloadN 38 dX6_countRid_37 rfl rfl ?_
      refine r_iconst 39 dX6_countRid_38 rfl ?_
      refine r_ixor 40 dX6_countRid_39 rfl ?_
      refine r_iand 41 dX6_countRid_40 rfl ?_
      rw [inot_mk (by omega) e34 hX rfl]
      refine r_ifne 47 44 dX6_countRid_41 rfl (by decide) (mk_in _ (by omega)) (fun h41 => ?_) (fun h41 => ?_)
      · refine r_iinc6 50 dX6_countRid_47 rfl rfl (by decide) ?_
        refine r_goto 17 dX6_countRid_50 (by decide) ?_
        refine ih (i + 1) _ (by omega) ?_
        have hd := mk_any (f := fun s => (fHear (c 51) i s (c 51 14 i) && G s) && !X.testBit s) (n := n)
        rw [cntN]
        first
          | (have q : ((mkN (fun s => (fHear (c 51) i s (c 51 14 i) && G s) && !X.testBit s) n : Nat) : Int) = 0 := h41; rw [decide_eq_true (by omega)] at hd; rw [if_pos (show fRid (c 51) G X n i = true from hd.symm)]; omega)
          | (have q : ¬ ((mkN (fun s => (fHear (c 51) i s (c 51 14 i) && G s) && !X.testBit s) n : Nat) : Int) = 0 := h41; rw [decide_eq_false (by omega)] at hd; rw [if_neg (by show ¬ (!fAny (fun s => (fHear (c 51) i s (c 51 14 i) && G s) && !X.testBit s) n) = true; rw [← hd]; decide)]; omega)
      · refine r_iinc5 47 dX6_countRid_44 rfl rfl (by decide) ?_
        refine r_iinc6 50 dX6_countRid_47 rfl rfl (by decide) ?_
        refine r_goto 17 dX6_countRid_50 (by decide) ?_
        refine ih (i + 1) _ (by omega) ?_
        have hd := mk_any (f := fun s => (fHear (c 51) i s (c 51 14 i) && G s) && !X.testBit s) (n := n)
        rw [cntN]
        first
          | (have q : ((mkN (fun s => (fHear (c 51) i s (c 51 14 i) && G s) && !X.testBit s) n : Nat) : Int) = 0 := h41; rw [decide_eq_true (by omega)] at hd; rw [if_pos (show fRid (c 51) G X n i = true from hd.symm)]; omega)
          | (have q : ¬ ((mkN (fun s => (fHear (c 51) i s (c 51 14 i) && G s) && !X.testBit s) n : Nat) : Int) = 0 := h41; rw [decide_eq_false (by omega)] at hd; rw [if_neg (by show ¬ (!fAny (fun s => (fHear (c 51) i s (c 51 14 i) && G s) && !X.testBit s) n) = true; rw [← hd]; decide)]; omega)
theorem x_countRid {z : xZ} {d : Nat} {Q : tQ} {c : tC} {L : tL} {n X : Nat} {a b : Int} (hR : RX c) (hn : c 50 0 2 = (n : Int)) (hX : X < 2 ^ 31) (ha : 0 ≤ a ∧ a ≤ b ∧ b ≤ 239) (k : ∀ r, r = ((cntN (fRid (c 51) (fun s => fSome (c 50 0) (c 51) s a (b + 1 - a).toNat) X n) (c 50 0 1).toNat : Nat) : Int) → Q (some (.int (iI r))) c L) : En z (d + 6) MX6_countRid Q 0 [some (.ref (xad z 5 0)), some (.int (iI (X : Int))), some (.int (iI a)), some (.int (iI b)), none, none, none] [] c L := by
  have hg := R0_rng hR
  have hc := R0_scal hR
  refine r_aloadN 1 dX6_countRid_0 rfl rfl ?_
  refine r_getq 4 dX6_countRid_1 rfl fX6_12 (by decide) (sh_5 z _) rfl ?_
  refine r_iloadN 5 dX6_countRid_4 rfl rfl ?_
  refine r_iloadN 6 dX6_countRid_5 rfl rfl ?_
  refine r_cv2 9 dX6_countRid_6 rfl gX6_97 rfl (by decide) (sh_8 z _) rfl rfl (Nat.le_of_ble_eq_true rfl) (Nat.le_of_ble_eq_true rfl) rfl ?_
  refine x_soundingWithin hR hn ha (fun r6 e6 => ?_)
  refine r_istore4 11 dX6_countRid_9 rfl rfl (by decide) ?_
  refine r_iconst 12 dX6_countRid_11 rfl ?_
  refine r_istore5 14 dX6_countRid_12 rfl rfl (by decide) ?_
  refine r_iconst 15 dX6_countRid_14 rfl ?_
  refine r_istore6 17 dX6_countRid_15 rfl rfl (by decide) ?_
  exact x_rid_loop hR hn hX e6 k (c 50 0 1).toNat 0 _ (by omega) rfl
def fMet (A : sA) (G : Nat → Bool) (sp lo : Int) (s : Nat) : Bool := G s && !fTalk A s && decide (lo ≤ fLvl A s sp)
theorem x_met_loop {z : xZ} {d : Nat} {Q : tQ} {c : tC} {L : tL} {n sp : Nat} {lo : Int} {G : Nat → Bool} (hR : RX c) (hn : c 50 0 2 = (n : Int)) (hsp : sp < 64) (hlo : 1 ≤ lo ∧ lo ≤ 99) (kk : ∀ r : Nat, r = cntN (fMet (c 51) G (sp : Int) lo) n → Q (some (.int (iI (r : Int)))) c L) : ∀ (k i : Nat) (e : Int), i + k = n → e = ((cntN (fMet (c 51) G (sp : Int) lo) i : Nat) : Int) → En z (d + 5) MX6_countMetered Q 6 [some (.ref (xad z 5 0)), some (.int (iI (sp : Int))), some (.int (iI lo)), some (.int (iI ((mkN G n : Nat) : Int))), some (.int (iI e)), some (.int (iI (i : Int)))] [] c L := by
  have hg := R0_rng hR
  have hc := R0_scal hR
  have hGl := mkN_lt31 G (show n ≤ 14 by omega)
  intro k
  induction k with
  | zero =>
    intro i e hi he
    refine r_iload 8 dX6_countMetered_6 rfl rfl ?_
    refine r_aloadN 9 dX6_countMetered_8 rfl rfl ?_
    refine r_getq 12 dX6_countMetered_9 rfl fX6_12 (by decide) (sh_5 z _) rfl ?_
    refine r_geti 15 dX6_countMetered_12 rfl fX6_42 (by decide) (sh_8 z _) rfl ?_
    refine r_icge 66 18 dX6_countMetered_15 rfl (by decide) (by omega) (by omega) (fun h15 => ?_) (fun h15 => ?_)
    · refine r_iload 68 dX6_countMetered_66 rfl rfl ?_
      rw [he]
      refine r_ret dX6_countMetered_68 rfl (kk _ ?_)
      rw [show i = n by omega]
    · exfalso; omega
  | succ k ih =>
    intro i e hi he
    have hlv := fLvl_bd hR hn (show i < n by omega) hsp
    refine r_iload 8 dX6_countMetered_6 rfl rfl ?_
    refine r_aloadN 9 dX6_countMetered_8 rfl rfl ?_
    refine r_getq 12 dX6_countMetered_9 rfl fX6_12 (by decide) (sh_5 z _) rfl ?_
    refine r_geti 15 dX6_countMetered_12 rfl fX6_42 (by decide) (sh_8 z _) rfl ?_
    refine r_icge 66 18 dX6_countMetered_15 rfl (by decide) (by omega) (by omega) (fun h15 => ?_) (fun h15 => ?_)
    · exfalso; omega
    · refine r_iloadN 19 dX6_countMetered_18 rfl rfl ?_
      refine r_iload 21 dX6_countMetered_19 rfl rfl ?_
      refine r_cs2 24 dX6_countMetered_21 rfl gX6_91 (Nat.le_of_ble_eq_true rfl) (Nat.le_of_ble_eq_true rfl) rfl ?_
      refine x_hasBit hGl (by omega) (fun y21 => ?_) (fun y21 => ?_)
      · refine r_ifeqF 27 dX6_countMetered_24 rfl 60 (by decide) (by decide) (by decide) ?_
        refine r_aloadN 28 dX6_countMetered_27 rfl rfl ?_
        refine r_getq 31 dX6_countMetered_28 rfl fX6_12 (by decide) (sh_5 z _) rfl ?_
        refine r_getq 34 dX6_countMetered_31 rfl fX6_129 (by decide) (sh_8 z _) rfl ?_
        refine r_iload 36 dX6_countMetered_34 rfl rfl ?_
        refine r_aald 37 dX6_countMetered_36 (i) rfl rfl (by decide) (sh_10a z) rfl (by decide) (by omega) (by omega) ?_
        refine r_cv0 40 dX6_countMetered_37 rfl gX6_138 rfl (ct_13 (by omega)) (sh_13 z _) rfl rfl (Nat.le_of_ble_eq_true rfl) (Nat.le_of_ble_eq_true rfl) rfl ?_
        refine x_isAirborne hR (s := i) (by omega) (fun y37 => ?_) (fun y37 => ?_)
        · refine r_ifeqF 43 dX6_countMetered_40 rfl 60 (by decide) (by decide) (by decide) ?_
          refine r_aloadN 44 dX6_countMetered_43 rfl rfl ?_
          refine r_getq 47 dX6_countMetered_44 rfl fX6_12 (by decide) (sh_5 z _) rfl ?_
          refine r_iload 49 dX6_countMetered_47 rfl rfl ?_
          refine r_iloadN 50 dX6_countMetered_49 rfl rfl ?_
          refine r_cv2 53 dX6_countMetered_50 rfl gX6_142 rfl (by decide) (sh_8 z _) rfl rfl (Nat.le_of_ble_eq_true rfl) (Nat.le_of_ble_eq_true rfl) rfl ?_
          refine x_levelAt hR hn (s := i) (sp := sp) (by omega) (by omega) (fun r50 e50 => ?_)
          refine r_iloadN 54 dX6_countMetered_53 rfl rfl ?_
          refine r_iclt 60 57 dX6_countMetered_54 rfl (by decide) (by omega) (by omega) (fun h54 => ?_) (fun h54 => ?_)
          · refine r_iinc5 63 dX6_countMetered_60 rfl rfl (by decide) ?_
            refine r_goto 6 dX6_countMetered_63 (by decide) ?_
            refine ih (i + 1) _ (by omega) ?_
            rw [cntN]
            rw [mk_bit (by omega)] at y21
            first
              | (rw [if_pos (by unfold fMet; rw [y21, y37, decide_eq_true (by omega)]; rfl)]; omega)
              | (rw [if_neg (by unfold fMet; rw [y21]; exact Bool.false_ne_true)]; omega)
              | (rw [if_neg (by unfold fMet; rw [y21, y37]; exact Bool.false_ne_true)]; omega)
              | (rw [if_neg (by unfold fMet; rw [decide_eq_false (by omega), Bool.and_false]; decide)]; omega)
          · refine r_iinc4 60 dX6_countMetered_57 rfl rfl (by decide) ?_
            refine r_iinc5 63 dX6_countMetered_60 rfl rfl (by decide) ?_
            refine r_goto 6 dX6_countMetered_63 (by decide) ?_
            refine ih (i + 1) _ (by omega) ?_
            rw [cntN]
            rw [mk_bit (by omega)] at y21
            first
              | (rw [if_pos (by unfold fMet; rw [y21, y37, decide_eq_true (by omega)]; rfl)]; omega)
              | (rw [if_neg (by unfold fMet; rw [y21]; exact Bool.false_ne_true)]; omega)
              | (rw [if_neg (by unfold fMet; rw [y21, y37]; exact Bool.false_ne_true)]; omega)
              | (rw [if_neg (by unfold fMet; rw [decide_eq_false (by omega), Bool.and_false]; decide)]; omega)
        · refine r_ifeqT 60 0 dX6_countMetered_40 (by decide) (by decide) (by decide) ?_
          refine r_iinc5 63 dX6_countMetered_60 rfl rfl (by decide) ?_
          refine r_goto 6 dX6_countMetered_63 (by decide) ?_
          refine ih (i + 1) _ (by omega) ?_
          rw [cntN]
          rw [mk_bit (by omega)] at y21
          first
            | (rw [if_pos (by unfold fMet; rw [y21, y37, decide_eq_true (by omega)]; rfl)]; omega)
            | (rw [if_neg (by unfold fMet; rw [y21]; exact Bool.false_ne_true)]; omega)
            | (rw [if_neg (by unfold fMet; rw [y21, y37]; exact Bool.false_ne_true)]; omega)
            | (rw [if_neg (by unfold fMet; rw [decide_eq_false (by omega), Bool.and_false]; decide)]; omega)
      · refine r_ifeqT 60 0 dX6_countMetered_24 (by decide) (by decide) (by decide) ?_
        refine r_iinc5 63 dX6_countMetered_60 rfl rfl (by decide) ?_
        refine r_goto 6 dX6_countMetered_63 (by decide) ?_
        refine ih (i + 1) _ (by omega) ?_
        rw [cntN]
        rw [mk_bit (by omega)] at y21
        first
          | (rw [if_pos (by unfold fMet; rw [y21, y37, decide_eq_true (by omega)]; rfl)]; omega)
          | (rw [if_neg (by unfold fMet; rw [y21]; exact Bool.false_ne_true)]; omega)
          | (rw [if_neg (by unfold fMet; rw [y21, y37]; exact Bool.false_ne_true)]; omega)
          | (rw [if_neg (by unfold fMet; rw [decide_eq_false (by omega), Bool.and_false]; decide)]; omega)
theorem x_countMetered {z : xZ} {d : Nat} {Q : tQ} {c : tC} {L : tL} {n sp : Nat} {lo m : Int} {G : Nat → Bool} (hR : RX c) (hn : c 50 0 2 = (n : Int)) (hsp : sp < 64) (hlo : 1 ≤ lo ∧ lo ≤ 99) (hm : m = ((mkN G n : Nat) : Int)) (k : ∀ r : Nat, r = cntN (fMet (c 51) G (sp : Int) lo) n → Q (some (.int (iI (r : Int)))) c L) : En z (d + 5) MX6_countMetered Q 0 [some (.ref (xad z 5 0)), some (.int (iI (sp : Int))), some (.int (iI lo)), some (.int (iI m)), none, none] [] c L := by
  subst hm
  refine r_iconst 1 dX6_countMetered_0 rfl ?_
  refine r_istore4 3 dX6_countMetered_1 rfl rfl (by decide) ?_
  refine r_iconst 4 dX6_countMetered_3 rfl ?_
  refine r_istore5 6 dX6_countMetered_4 rfl rfl (by decide) ?_
  exact x_met_loop hR hn hsp hlo k n 0 _ (by omega) rfl
def fFnd (v : Nat → Nat) : Nat → Nat × Nat
  | 0 => (0, 0)
  | k + 1 => if (fFnd v k).2 < v k then (k, v k) else fFnd v k
theorem fFnd_bd {v : Nat → Nat} {b : Nat} (hv : ∀ k, v k ≤ b) : ∀ k, (fFnd v k).1 ≤ k ∧ (fFnd v k).2 ≤ b := by
  intro k
  induction k with
  | zero => exact ⟨Nat.le_refl _, Nat.zero_le _⟩
  | succ k ih =>
    have := hv k
    rw [fFnd]
    split
    · exact ⟨by show k ≤ k + 1; omega, this⟩
    · exact ⟨by omega, ih.2⟩
theorem x_sm_loop {z : xZ} {d : Nat} {Q : tQ} {c : tC} {L : tL} {n : Nat} {a b lo : Int} {G : Nat → Bool} (hR : RX c) (hn : c 50 0 2 = (n : Int)) (hlo : 1 ≤ lo ∧ lo ≤ 99) (kk : ∀ r, r = (((fFnd (fun sp => cntN (fMet (c 51) G (sp : Int) lo) n) 64).1 : Nat) : Int) → Q (some (.int (iI r))) c L) : ∀ (k i : Nat) (f m : Int) (v8 : Option Value), i + k = 64 → f = (((fFnd (fun sp => cntN (fMet (c 51) G (sp : Int) lo) n) i).1 : Nat) : Int) → m = (((fFnd (fun sp => cntN (fMet (c 51) G (sp : Int) lo) n) i).2 : Nat) : Int) → En z (d + 6) MX6_spotForMeter Q 20 [some (.ref (xad z 5 0)), some (.int (iI lo)), some (.int (iI a)), some (.int (iI b)), some (.int (iI ((mkN G n : Nat) : Int))), some (.int (iI f)), some (.int (iI m)), some (.int (iI (i : Int))), v8] [] c L := by
  have hg := R0_rng hR
  have hc := R0_scal hR
  intro k
  induction k with
  | zero =>
    intro i f m v8 hi hf hm
    refine r_iload 22 dX6_spotForMeter_20 rfl rfl ?_
    refine r_bipush 24 dX6_spotForMeter_22 rfl (by decide) ?_
    refine r_icge 59 27 dX6_spotForMeter_24 rfl (by decide) (by omega) (by omega) (fun h24 => ?_) (fun h24 => ?_)
    · refine r_iload 61 dX6_spotForMeter_59 rfl rfl ?_
      refine r_ret dX6_spotForMeter_61 rfl (kk _ ?_)
      rw [hf, show i = 64 by omega]
    · exfalso; omega
  | succ k ih =>
    intro i f m v8 hi hf hm
    have hb := fFnd_bd (v := (fun sp => cntN (fMet (c 51) G (sp : Int) lo) n)) (b := 14) (fun k => Nat.le_trans (cntN_le _ n) (by omega)) i
    refine r_iload 22 dX6_spotForMeter_20 rfl rfl ?_
    refine r_bipush 24 dX6_spotForMeter_22 rfl (by decide) ?_
    refine r_icge 59 27 dX6_spotForMeter_24 rfl (by decide) (by omega) (by omega) (fun h24 => ?_) (fun h24 => ?_)
    · exfalso; omega
    · refine r_aloadN 28 dX6_spotForMeter_27 rfl rfl ?_
      refine r_iload 30 dX6_spotForMeter_28 rfl rfl ?_
      refine r_iloadN 31 dX6_spotForMeter_30 rfl rfl ?_
      refine r_iload 33 dX6_spotForMeter_31 rfl rfl ?_
      refine r_cv3 36 dX6_spotForMeter_33 rfl gX6_145 rfl (by decide) (sh_5 z _) rfl rfl (Nat.le_of_ble_eq_true rfl) (Nat.le_of_ble_eq_true rfl) rfl ?_
      refine x_countMetered hR hn (sp := i) (by omega) hlo rfl (fun r33 e33 => ?_)
      refine r_istore8 38 dX6_spotForMeter_36 rfl rfl (by decide) ?_
      have hb2 : r33 ≤ 14 := by rw [e33]; exact Nat.le_trans (cntN_le _ n) (by omega)
      refine r_iload 40 dX6_spotForMeter_38 rfl rfl ?_
      refine r_iload 42 dX6_spotForMeter_40 rfl rfl ?_
      refine r_icle 53 45 dX6_spotForMeter_42 rfl (by decide) (by omega) (by omega) (fun h42 => ?_) (fun h42 => ?_)
      · refine r_iinc7 56 dX6_spotForMeter_53 rfl rfl (by decide) ?_
        refine r_goto 20 dX6_spotForMeter_56 (by decide) ?_
        refine ih (i + 1) _ _ _ (by omega) ?_ ?_
        · rw [fFnd, ← e33]
          first
            | (rw [if_pos (by omega)]; done)
            | (rw [if_neg (by omega)]; exact hf)
        · rw [fFnd, ← e33]
          first
            | (rw [if_pos (by omega)]; done)
            | (rw [if_neg (by omega)]; exact hm)
      · refine r_iload 47 dX6_spotForMeter_45 rfl rfl ?_
        refine r_istore5 49 dX6_spotForMeter_47 rfl rfl (by decide) ?_
        refine r_iload 51 dX6_spotForMeter_49 rfl rfl ?_
        refine r_istore6 53 dX6_spotForMeter_51 rfl rfl (by decide) ?_
        refine r_iinc7 56 dX6_spotForMeter_53 rfl rfl (by decide) ?_
        refine r_goto 20 dX6_spotForMeter_56 (by decide) ?_
        refine ih (i + 1) _ _ _ (by omega) ?_ ?_
        · rw [fFnd, ← e33]
          first
            | (rw [if_pos (by omega)]; done)
            | (rw [if_neg (by omega)]; exact hf)
        · rw [fFnd, ← e33]
          first
            | (rw [if_pos (by omega)]; done)
            | (rw [if_neg (by omega)]; exact hm)
theorem x_spotForMeter {z : xZ} {d : Nat} {Q : tQ} {c : tC} {L : tL} {n : Nat} {a b lo : Int} (hR : RX c) (hn : c 50 0 2 = (n : Int)) (hlo : 1 ≤ lo ∧ lo ≤ 99) (ha : 0 ≤ a ∧ a ≤ b ∧ b ≤ 239) (k : ∀ r, r = (((fFnd (fun sp => cntN (fMet (c 51) (fun s => fSome (c 50 0) (c 51) s a (b + 1 - a).toNat) (sp : Int) lo) n) 64).1 : Nat) : Int) → Q (some (.int (iI r))) c L) : En z (d + 6) MX6_spotForMeter Q 0 [some (.ref (xad z 5 0)), some (.int (iI lo)), some (.int (iI a)), some (.int (iI b)), none, none, none, none, none] [] c L := by
  have hg := R0_rng hR
  have hc := R0_scal hR
  refine r_aloadN 1 dX6_spotForMeter_0 rfl rfl ?_
  refine r_getq 4 dX6_spotForMeter_1 rfl fX6_12 (by decide) (sh_5 z _) rfl ?_
  refine r_iloadN 5 dX6_spotForMeter_4 rfl rfl ?_
  refine r_iloadN 6 dX6_spotForMeter_5 rfl rfl ?_
  refine r_cv2 9 dX6_spotForMeter_6 rfl gX6_97 rfl (by decide) (sh_8 z _) rfl rfl (Nat.le_of_ble_eq_true rfl) (Nat.le_of_ble_eq_true rfl) rfl ?_
  refine x_soundingWithin hR hn ha (fun r6 e6 => ?_)
  subst e6
  refine r_istore4 11 dX6_spotForMeter_9 rfl rfl (by decide) ?_
  refine r_iconst 12 dX6_spotForMeter_11 rfl ?_
  refine r_istore5 14 dX6_spotForMeter_12 rfl rfl (by decide) ?_
  refine r_iconst 15 dX6_spotForMeter_14 rfl ?_
  refine r_istore6 17 dX6_spotForMeter_15 rfl rfl (by decide) ?_
  refine r_iconst 18 dX6_spotForMeter_17 rfl ?_
  refine r_istore7 20 dX6_spotForMeter_18 rfl rfl (by decide) ?_
  exact x_sm_loop hR hn hlo k 64 0 _ _ none (by omega) rfl rfl
def fBedN (A : sA) (G : Nat → Bool) (p n sp : Nat) : Nat := cntN (fun s => fHear A p s (sp : Int) && G s) n
def fBedK (A : sA) (G : Nat → Bool) (p n ho sp : Nat) : Int := 100 * (fBedN A G p n sp : Int) + fFar (sp : Int) (ho : Int)
theorem fFar_bd {a b : Nat} (ha : a < 64) (hb : b < 64) : 0 ≤ fFar (a : Int) (b : Int) ∧ fFar (a : Int) (b : Int) ≤ 14 := by unfold fFar; omega
theorem fFar_zero {a b : Nat} (ha : a < 64) (hb : b < 64) (h : fFar (a : Int) (b : Int) = 0) : a = b := by unfold fFar at h; omega
theorem fFar_self (a : Nat) : fFar (a : Int) (a : Int) = 0 := by unfold fFar; omega
theorem x_bitCountN {z : xZ} {d : Nat} {Q : tQ} {c : tC} {L : tL} {n : Nat} {f : Nat → Bool} {v : Int} (hn : n ≤ 14) (hv : v = ((mkN f n : Nat) : Int)) (k : ∀ r : Nat, r = cntN f n → Q (some (.int (iI (r : Int)))) c L) : En z (d + 1) MJ6_bitCount_0f7a4 Q 0 [some (.int (iI v))] [] c L := x_bitCount hn hv (fun r e => by rw [e]; exact k _ rfl)
theorem x_bed_loop {z : xZ} {d : Nat} {Q : tQ} {c : tC} {L : tL} {n p ho : Nat} {a b : Int} {G : Nat → Bool} (hR : RX c) (hn : c 50 0 2 = (n : Int)) (hp : (p : Int) < c 50 0 1) (hho : ho < 64) (kk : ∀ r : Nat, r < 64 → (∀ s, s < 64 → fBedK (c 51) G p n ho r ≤ fBedK (c 51) G p n ho s ∧ (fBedK (c 51) G p n ho s = fBedK (c 51) G p n ho r → r ≤ s)) → Q (some (.int (iI (r : Int)))) c L) : ∀ (k i : Nat) (f : Nat) (fi w : Int) (v9 v10 : Option Value), i + k = 64 → f < 64 → fi = (f : Int) → w = ((fBedN (c 51) G p n f : Nat) : Int) → fBedK (c 51) G p n ho f ≤ fBedK (c 51) G p n ho ho → (∀ s, s < i → fBedK (c 51) G p n ho f ≤ fBedK (c 51) G p n ho s ∧ (fBedK (c 51) G p n ho s = fBedK (c 51) G p n ho f → f ≤ s)) → (f = ho ∨ f < i) → En z (d + 6) MX6_spotForBed Q 44 [some (.ref (xad z 5 0)), some (.int (iI (p : Int))), some (.int (iI a)), some (.int (iI b)), some (.int (iI ((mkN G n : Nat) : Int))), some (.int (iI (ho : Int))), some (.int (iI fi)), some (.int (iI w)), some (.int (iI (i : Int))), v9, v10] [] c L := by
  have hg := R0_rng hR
  have hc := R0_scal hR
  intro k
  induction k with
  | zero =>
    intro i f fi w v9 v10 hi hf hfi hw hK hA hfo
    refine r_iload 46 dX6_spotForBed_44 rfl rfl ?_
    refine r_bipush 48 dX6_spotForBed_46 rfl (by decide) ?_
    refine r_icge 126 51 dX6_spotForBed_48 rfl (by decide) (by omega) (by omega) (fun h48 => ?_) (fun h48 => ?_)
    · refine r_iload 128 dX6_spotForBed_126 rfl rfl ?_
      refine r_ret dX6_spotForBed_128 rfl ?_
      rw [hfi]
      exact kk f hf (fun s hs => hA s (by omega))
    · exfalso; omega
  | succ k ih =>
    intro i f fi w v9 v10 hi hf hfi hw hK hA hfo
    refine r_iload 46 dX6_spotForBed_44 rfl rfl ?_
    refine r_bipush 48 dX6_spotForBed_46 rfl (by decide) ?_
    refine r_icge 126 51 dX6_spotForBed_48 rfl (by decide) (by omega) (by omega) (fun h48 => ?_) (fun h48 => ?_)
    · exfalso; omega
    · refine r_aloadN 52 dX6_spotForBed_51 rfl rfl ?_
      refine r_getq 55 dX6_spotForBed_52 rfl fX6_12 (by decide) (sh_5 z _) rfl ?_
      refine r_iloadN 56 dX6_spotForBed_55 rfl rfl ?_
      refine r_iload 58 dX6_spotForBed_56 rfl rfl ?_
      refine r_cv2 61 dX6_spotForBed_58 rfl gX6_79 rfl (by decide) (sh_8 z _) rfl rfl (Nat.le_of_ble_eq_true rfl) (Nat.le_of_ble_eq_true rfl) rfl ?_
      refine x_audibleTo hR hn hp (sp := i) (by omega) (fun r58 e58 => ?_)
      refine r_iload 63 dX6_spotForBed_61 rfl rfl ?_
      refine r_iand 64 dX6_spotForBed_63 rfl ?_
      refine r_cs1 67 dX6_spotForBed_64 rfl gX6_149 (Nat.le_of_ble_eq_true rfl) (Nat.le_of_ble_eq_true rfl) rfl ?_
      refine x_bitCountN (n := n) (by omega) (iand_mk (by omega) e58 rfl) (fun r64 e64 => ?_)
      refine r_istore9 69 dX6_spotForBed_67 rfl rfl (by decide) ?_
      refine r_iload 71 dX6_spotForBed_69 rfl rfl ?_
      refine r_iload 73 dX6_spotForBed_71 rfl rfl ?_
      refine r_cs2 76 dX6_spotForBed_73 rfl gX6_154 (Nat.le_of_ble_eq_true rfl) (Nat.le_of_ble_eq_true rfl) rfl ?_
      refine x_farApart (by omega) (by omega) (fun r73 e73 => ?_)
      rw [hfi]
      refine r_iload 78 dX6_spotForBed_76 rfl rfl ?_
      refine r_iload 80 dX6_spotForBed_78 rfl rfl ?_
      refine r_cs2 83 dX6_spotForBed_80 rfl gX6_154 (Nat.le_of_ble_eq_true rfl) (Nat.le_of_ble_eq_true rfl) rfl ?_
      refine x_farApart (by omega) (by omega) (fun r80 e80 => ?_)
      refine r_icge 90 86 dX6_spotForBed_83 rfl (by decide) (by have := fFar_bd (show i < 64 by omega) hho; omega) (by have := fFar_bd hf hho; omega) (fun h83 => ?_) (fun h83 => ?_)
      · refine r_iconst 91 dX6_spotForBed_90 rfl ?_
        refine r_istore10 93 dX6_spotForBed_91 rfl rfl (by decide) ?_
        have hb1 := fFar_bd (show i < 64 by omega) hho
        have hb2 := fFar_bd hf hho
        have hb3 : r64 ≤ 14 := by rw [e64]; exact Nat.le_trans (cntN_le _ n) (by omega)
        have hb4 : fBedN (c 51) G p n f ≤ 14 := Nat.le_trans (cntN_le _ n) (by omega)
        refine r_iload 95 dX6_spotForBed_93 rfl rfl ?_
        refine r_iload 97 dX6_spotForBed_95 rfl rfl ?_
        refine r_iclt 112 100 dX6_spotForBed_97 rfl (by decide) (by omega) (by omega) (fun h97 => ?_) (fun h97 => ?_)
        · refine r_iload 114 dX6_spotForBed_112 rfl rfl ?_
          refine r_istore6 116 dX6_spotForBed_114 rfl rfl (by decide) ?_
          refine r_iload 118 dX6_spotForBed_116 rfl rfl ?_
          refine r_istore7 120 dX6_spotForBed_118 rfl rfl (by decide) ?_
          refine r_iinc8 123 dX6_spotForBed_120 rfl rfl (by decide) ?_
          refine r_goto 44 dX6_spotForBed_123 (by decide) ?_
          have hk1 : fBedK (c 51) G p n ho i = 100 * (r64 : Int) + r73 := by unfold fBedK; rw [e73, e64]; rfl
          have hk2 : fBedK (c 51) G p n ho f = 100 * w + r80 := by unfold fBedK; rw [e80, hw]
          first
            | (refine ih (i + 1) f _ w _ _ (by omega) hf rfl hw hK ?_ (by omega)
               intro s hs
               by_cases e : s = i
               · subst e
                 refine ⟨by omega, fun q => ?_⟩
                 rcases hfo with e2 | e2
                 · exfalso
                   have hz : r80 = 0 := by rw [e80, e2]; exact fFar_self ho
                   have hz2 : s = ho := fFar_zero (by omega) hho (by omega)
                   omega
                 · omega
               · exact hA s (by omega))
            | (refine ih (i + 1) i _ _ _ _ (by omega) (by omega) rfl (by rw [e64]; rfl) (by omega) ?_ (by omega)
               intro s hs
               by_cases e : s = i
               · subst e; exact ⟨Int.le_refl _, fun _ => Nat.le_refl _⟩
               · have h1 := hA s (by omega)
                 exact ⟨by omega, fun q => by omega⟩)
            | (refine ih (i + 1) f _ w _ _ (by omega) hf rfl hw hK ?_ (by omega)
               intro s hs
               by_cases e : s = i
               · subst e
                 refine ⟨by omega, fun q => ?_⟩
                 by_cases e3 : f ≤ s
                 · exact e3
                 · exfalso
                   rcases hfo with e2 | e2
                   · have hz : r80 = 0 := by rw [e80, e2]; exact fFar_self ho
                     have hz2 : s = ho := fFar_zero (by omega) hho (by omega)
                     omega
                   · omega
               · exact hA s (by omega))
        · refine r_iload 102 dX6_spotForBed_100 rfl rfl ?_
          refine r_iload 104 dX6_spotForBed_102 rfl rfl ?_
          refine r_icne 120 107 dX6_spotForBed_104 rfl (by decide) (by omega) (by omega) (fun h104 => ?_) (fun h104 => ?_)
          · refine r_iinc8 123 dX6_spotForBed_120 rfl rfl (by decide) ?_
            refine r_goto 44 dX6_spotForBed_123 (by decide) ?_
            have hk1 : fBedK (c 51) G p n ho i = 100 * (r64 : Int) + r73 := by unfold fBedK; rw [e73, e64]; rfl
            have hk2 : fBedK (c 51) G p n ho f = 100 * w + r80 := by unfold fBedK; rw [e80, hw]
            first
              | (refine ih (i + 1) f _ w _ _ (by omega) hf rfl hw hK ?_ (by omega)
                 intro s hs
                 by_cases e : s = i
                 · subst e
                   refine ⟨by omega, fun q => ?_⟩
                   rcases hfo with e2 | e2
                   · exfalso
                     have hz : r80 = 0 := by rw [e80, e2]; exact fFar_self ho
                     have hz2 : s = ho := fFar_zero (by omega) hho (by omega)
                     omega
                   · omega
                 · exact hA s (by omega))
              | (refine ih (i + 1) i _ _ _ _ (by omega) (by omega) rfl (by rw [e64]; rfl) (by omega) ?_ (by omega)
                 intro s hs
                 by_cases e : s = i
                 · subst e; exact ⟨Int.le_refl _, fun _ => Nat.le_refl _⟩
                 · have h1 := hA s (by omega)
                   exact ⟨by omega, fun q => by omega⟩)
              | (refine ih (i + 1) f _ w _ _ (by omega) hf rfl hw hK ?_ (by omega)
                 intro s hs
                 by_cases e : s = i
                 · subst e
                   refine ⟨by omega, fun q => ?_⟩
                   by_cases e3 : f ≤ s
                   · exact e3
                   · exfalso
                     rcases hfo with e2 | e2
                     · have hz : r80 = 0 := by rw [e80, e2]; exact fFar_self ho
                       have hz2 : s = ho := fFar_zero (by omega) hho (by omega)
                       omega
                     · omega
                 · exact hA s (by omega))
          · refine r_iload 109 dX6_spotForBed_107 rfl rfl ?_
            refine r_ifeqT 120 0 dX6_spotForBed_109 (by decide) (by decide) (by decide) ?_
            refine r_iinc8 123 dX6_spotForBed_120 rfl rfl (by decide) ?_
            refine r_goto 44 dX6_spotForBed_123 (by decide) ?_
            have hk1 : fBedK (c 51) G p n ho i = 100 * (r64 : Int) + r73 := by unfold fBedK; rw [e73, e64]; rfl
            have hk2 : fBedK (c 51) G p n ho f = 100 * w + r80 := by unfold fBedK; rw [e80, hw]
            first
              | (refine ih (i + 1) f _ w _ _ (by omega) hf rfl hw hK ?_ (by omega)
                 intro s hs
                 by_cases e : s = i
                 · subst e
                   refine ⟨by omega, fun q => ?_⟩
                   rcases hfo with e2 | e2
                   · exfalso
                     have hz : r80 = 0 := by rw [e80, e2]; exact fFar_self ho
                     have hz2 : s = ho := fFar_zero (by omega) hho (by omega)
                     omega
                   · omega
                 · exact hA s (by omega))
              | (refine ih (i + 1) i _ _ _ _ (by omega) (by omega) rfl (by rw [e64]; rfl) (by omega) ?_ (by omega)
                 intro s hs
                 by_cases e : s = i
                 · subst e; exact ⟨Int.le_refl _, fun _ => Nat.le_refl _⟩
                 · have h1 := hA s (by omega)
                   exact ⟨by omega, fun q => by omega⟩)
              | (refine ih (i + 1) f _ w _ _ (by omega) hf rfl hw hK ?_ (by omega)
                 intro s hs
                 by_cases e : s = i
                 · subst e
                   refine ⟨by omega, fun q => ?_⟩
                   by_cases e3 : f ≤ s
                   · exact e3
                   · exfalso
                     rcases hfo with e2 | e2
                     · have hz : r80 = 0 := by rw [e80, e2]; exact fFar_self ho
                       have hz2 : s = ho := fFar_zero (by omega) hho (by omega)
                       omega
                     · omega
                 · exact hA s (by omega))
      · refine r_iconst 87 dX6_spotForBed_86 rfl ?_
        refine r_goto 91 dX6_spotForBed_87 (by decide) ?_
        refine r_istore10 93 dX6_spotForBed_91 rfl rfl (by decide) ?_
        have hb1 := fFar_bd (show i < 64 by omega) hho
        have hb2 := fFar_bd hf hho
        have hb3 : r64 ≤ 14 := by rw [e64]; exact Nat.le_trans (cntN_le _ n) (by omega)
        have hb4 : fBedN (c 51) G p n f ≤ 14 := Nat.le_trans (cntN_le _ n) (by omega)
        refine r_iload 95 dX6_spotForBed_93 rfl rfl ?_
        refine r_iload 97 dX6_spotForBed_95 rfl rfl ?_
        refine r_iclt 112 100 dX6_spotForBed_97 rfl (by decide) (by omega) (by omega) (fun h97 => ?_) (fun h97 => ?_)
        · refine r_iload 114 dX6_spotForBed_112 rfl rfl ?_
          refine r_istore6 116 dX6_spotForBed_114 rfl rfl (by decide) ?_
          refine r_iload 118 dX6_spotForBed_116 rfl rfl ?_
          refine r_istore7 120 dX6_spotForBed_118 rfl rfl (by decide) ?_
          refine r_iinc8 123 dX6_spotForBed_120 rfl rfl (by decide) ?_
          refine r_goto 44 dX6_spotForBed_123 (by decide) ?_
          have hk1 : fBedK (c 51) G p n ho i = 100 * (r64 : Int) + r73 := by unfold fBedK; rw [e73, e64]; rfl
          have hk2 : fBedK (c 51) G p n ho f = 100 * w + r80 := by unfold fBedK; rw [e80, hw]
          first
            | (refine ih (i + 1) f _ w _ _ (by omega) hf rfl hw hK ?_ (by omega)
               intro s hs
               by_cases e : s = i
               · subst e
                 refine ⟨by omega, fun q => ?_⟩
                 rcases hfo with e2 | e2
                 · exfalso
                   have hz : r80 = 0 := by rw [e80, e2]; exact fFar_self ho
                   have hz2 : s = ho := fFar_zero (by omega) hho (by omega)
                   omega
                 · omega
               · exact hA s (by omega))
            | (refine ih (i + 1) i _ _ _ _ (by omega) (by omega) rfl (by rw [e64]; rfl) (by omega) ?_ (by omega)
               intro s hs
               by_cases e : s = i
               · subst e; exact ⟨Int.le_refl _, fun _ => Nat.le_refl _⟩
               · have h1 := hA s (by omega)
                 exact ⟨by omega, fun q => by omega⟩)
            | (refine ih (i + 1) f _ w _ _ (by omega) hf rfl hw hK ?_ (by omega)
               intro s hs
               by_cases e : s = i
               · subst e
                 refine ⟨by omega, fun q => ?_⟩
                 by_cases e3 : f ≤ s
                 · exact e3
                 · exfalso
                   rcases hfo with e2 | e2
                   · have hz : r80 = 0 := by rw [e80, e2]; exact fFar_self ho
                     have hz2 : s = ho := fFar_zero (by omega) hho (by omega)
                     omega
                   · omega
               · exact hA s (by omega))
        · refine r_iload 102 dX6_spotForBed_100 rfl rfl ?_
          refine r_iload 104 dX6_spotForBed_102 rfl rfl ?_
          refine r_icne 120 107 dX6_spotForBed_104 rfl (by decide) (by omega) (by omega) (fun h104 => ?_) (fun h104 => ?_)
          · refine r_iinc8 123 dX6_spotForBed_120 rfl rfl (by decide) ?_
            refine r_goto 44 dX6_spotForBed_123 (by decide) ?_
            have hk1 : fBedK (c 51) G p n ho i = 100 * (r64 : Int) + r73 := by unfold fBedK; rw [e73, e64]; rfl
            have hk2 : fBedK (c 51) G p n ho f = 100 * w + r80 := by unfold fBedK; rw [e80, hw]
            first
              | (refine ih (i + 1) f _ w _ _ (by omega) hf rfl hw hK ?_ (by omega)
                 intro s hs
                 by_cases e : s = i
                 · subst e
                   refine ⟨by omega, fun q => ?_⟩
                   rcases hfo with e2 | e2
                   · exfalso
                     have hz : r80 = 0 := by rw [e80, e2]; exact fFar_self ho
                     have hz2 : s = ho := fFar_zero (by omega) hho (by omega)
                     omega
                   · omega
                 · exact hA s (by omega))
              | (refine ih (i + 1) i _ _ _ _ (by omega) (by omega) rfl (by rw [e64]; rfl) (by omega) ?_ (by omega)
                 intro s hs
                 by_cases e : s = i
                 · subst e; exact ⟨Int.le_refl _, fun _ => Nat.le_refl _⟩
                 · have h1 := hA s (by omega)
                   exact ⟨by omega, fun q => by omega⟩)
              | (refine ih (i + 1) f _ w _ _ (by omega) hf rfl hw hK ?_ (by omega)
                 intro s hs
                 by_cases e : s = i
                 · subst e
                   refine ⟨by omega, fun q => ?_⟩
                   by_cases e3 : f ≤ s
                   · exact e3
                   · exfalso
                     rcases hfo with e2 | e2
                     · have hz : r80 = 0 := by rw [e80, e2]; exact fFar_self ho
                       have hz2 : s = ho := fFar_zero (by omega) hho (by omega)
                       omega
                     · omega
                 · exact hA s (by omega))
          · refine r_iload 109 dX6_spotForBed_107 rfl rfl ?_
            refine r_ifeqF 112 dX6_spotForBed_109 rfl 120 (by decide) (by decide) (by decide) ?_
            refine r_iload 114 dX6_spotForBed_112 rfl rfl ?_
            refine r_istore6 116 dX6_spotForBed_114 rfl rfl (by decide) ?_
            refine r_iload 118 dX6_spotForBed_116 rfl rfl ?_
            refine r_istore7 120 dX6_spotForBed_118 rfl rfl (by decide) ?_
            refine r_iinc8 123 dX6_spotForBed_120 rfl rfl (by decide) ?_
            refine r_goto 44 dX6_spotForBed_123 (by decide) ?_
            have hk1 : fBedK (c 51) G p n ho i = 100 * (r64 : Int) + r73 := by unfold fBedK; rw [e73, e64]; rfl
            have hk2 : fBedK (c 51) G p n ho f = 100 * w + r80 := by unfold fBedK; rw [e80, hw]
            first
              | (refine ih (i + 1) f _ w _ _ (by omega) hf rfl hw hK ?_ (by omega)
                 intro s hs
                 by_cases e : s = i
                 · subst e
                   refine ⟨by omega, fun q => ?_⟩
                   rcases hfo with e2 | e2
                   · exfalso
                     have hz : r80 = 0 := by rw [e80, e2]; exact fFar_self ho
                     have hz2 : s = ho := fFar_zero (by omega) hho (by omega)
                     omega
                   · omega
                 · exact hA s (by omega))
              | (refine ih (i + 1) i _ _ _ _ (by omega) (by omega) rfl (by rw [e64]; rfl) (by omega) ?_ (by omega)
                 intro s hs
                 by_cases e : s = i
                 · subst e; exact ⟨Int.le_refl _, fun _ => Nat.le_refl _⟩
                 · have h1 := hA s (by omega)
                   exact ⟨by omega, fun q => by omega⟩)
              | (refine ih (i + 1) f _ w _ _ (by omega) hf rfl hw hK ?_ (by omega)
                 intro s hs
                 by_cases e : s = i
                 · subst e
                   refine ⟨by omega, fun q => ?_⟩
                   by_cases e3 : f ≤ s
                   · exact e3
                   · exfalso
                     rcases hfo with e2 | e2
                     · have hz : r80 = 0 := by rw [e80, e2]; exact fFar_self ho
                       have hz2 : s = ho := fFar_zero (by omega) hho (by omega)
                       omega
                     · omega
                 · exact hA s (by omega))
theorem x_spotForBed {z : xZ} {d : Nat} {Q : tQ} {c : tC} {L : tL} {n p ho : Nat} {a b : Int} (hR : RX c) (hn : c 50 0 2 = (n : Int)) (hp : (p : Int) < c 50 0 1) (hho : c 51 14 p = (ho : Int)) (ha : 0 ≤ a ∧ a ≤ b ∧ b ≤ 239) (k : ∀ r : Nat, r < 64 → (∀ s, s < 64 → fBedK (c 51) (fun s => fSome (c 50 0) (c 51) s a (b + 1 - a).toNat) p n ho r ≤ fBedK (c 51) (fun s => fSome (c 50 0) (c 51) s a (b + 1 - a).toNat) p n ho s ∧ (fBedK (c 51) (fun s => fSome (c 50 0) (c 51) s a (b + 1 - a).toNat) p n ho s = fBedK (c 51) (fun s => fSome (c 50 0) (c 51) s a (b + 1 - a).toNat) p n ho r → r ≤ s)) → Q (some (.int (iI (r : Int)))) c L) : En z (d + 6) MX6_spotForBed Q 0 [some (.ref (xad z 5 0)), some (.int (iI (p : Int))), some (.int (iI a)), some (.int (iI b)), none, none, none, none, none, none, none] [] c L := by
  have hg := R0_rng hR
  have hc := R0_scal hR
  have hpp := R0_per hR p hp
  refine r_aloadN 1 dX6_spotForBed_0 rfl rfl ?_
  refine r_getq 4 dX6_spotForBed_1 rfl fX6_12 (by decide) (sh_5 z _) rfl ?_
  refine r_iloadN 5 dX6_spotForBed_4 rfl rfl ?_
  refine r_iloadN 6 dX6_spotForBed_5 rfl rfl ?_
  refine r_cv2 9 dX6_spotForBed_6 rfl gX6_97 rfl (by decide) (sh_8 z _) rfl rfl (Nat.le_of_ble_eq_true rfl) (Nat.le_of_ble_eq_true rfl) rfl ?_
  refine x_soundingWithin hR hn ha (fun r6 e6 => ?_)
  subst e6
  refine r_istore4 11 dX6_spotForBed_9 rfl rfl (by decide) ?_
  refine r_aloadN 12 dX6_spotForBed_11 rfl rfl ?_
  refine r_getq 15 dX6_spotForBed_12 rfl fX6_12 (by decide) (sh_5 z _) rfl ?_
  refine r_getq 18 dX6_spotForBed_15 rfl fX6_106 (by decide) (sh_8 z _) rfl ?_
  refine r_iloadN 19 dX6_spotForBed_18 rfl rfl ?_
  refine r_aald 20 dX6_spotForBed_19 (p) rfl rfl (by decide) (sh_9a z) rfl (by decide) (by omega) (by omega) ?_
  refine r_geti 23 dX6_spotForBed_20 rfl fX6_110 (ct_12 (by omega)) (sh_12 z _) rfl ?_
  rw [show c 12 p 0 = (ho : Int) by omega]
  refine r_istore5 25 dX6_spotForBed_23 rfl rfl (by decide) ?_
  refine r_iload 27 dX6_spotForBed_25 rfl rfl ?_
  refine r_istore6 29 dX6_spotForBed_27 rfl rfl (by decide) ?_
  refine r_aloadN 30 dX6_spotForBed_29 rfl rfl ?_
  refine r_iloadN 31 dX6_spotForBed_30 rfl rfl ?_
  refine r_iload 33 dX6_spotForBed_31 rfl rfl ?_
  refine r_cv2 36 dX6_spotForBed_33 rfl gX6_103 rfl (by decide) (sh_5 z _) rfl rfl (Nat.le_of_ble_eq_true rfl) (Nat.le_of_ble_eq_true rfl) rfl ?_
  refine x_heardOf hR hn hp rfl (fun r33 e33 => ?_)
  refine r_cs1 39 dX6_spotForBed_36 rfl gX6_149 (Nat.le_of_ble_eq_true rfl) (Nat.le_of_ble_eq_true rfl) rfl ?_
  refine x_bitCountN (n := n) (by omega) e33 (fun r36 e36 => ?_)
  refine r_istore7 41 dX6_spotForBed_39 rfl rfl (by decide) ?_
  refine r_iconst 42 dX6_spotForBed_41 rfl ?_
  refine r_istore8 44 dX6_spotForBed_42 rfl rfl (by decide) ?_
  exact x_bed_loop hR hn hp (by omega) k 64 0 ho _ _ none none (by omega) (by omega) rfl (by rw [e36, hho]; rfl) (Int.le_refl _) (fun s hs => by omega) (Or.inl rfl)
