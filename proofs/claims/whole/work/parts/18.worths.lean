/-! the seeker: worths -/
theorem cmpI_c (a b : Int) : (cmpI a b = -1 ∧ a < b) ∨ (cmpI a b = 0 ∧ a = b) ∨ (cmpI a b = 1 ∧ b < a) := by
  unfold cmpI
  split
  · omega
  · split <;> omega
theorem cmpI_in (a b : Int) : inR (cmpI a b) := by have := cmpI_c a b; constructor <;> omega
theorem cmpI_in' (a b : Int) : -2147483648 ≤ cmpI a b ∧ cmpI a b < 2147483648 := by have := cmpI_c a b; constructor <;> omega
def fMask (v : Int) (G : Nat → Bool) (n : Nat) : Prop := ∀ i, i < n → iand (ishr v i) 1 = if G i = true then 1 else 0
theorem fMask_mk {f : Nat → Bool} {n : Nat} {v : Int} (hn : n ≤ 14) (h : v = ((mkN f n : Nat) : Int)) : fMask v f n := by
  intro i hi
  rw [h, ibit (mkN_lt31 f hn) (by omega), mk_bit hi]
theorem i31i : ∀ i : Nat, i < 31 → (iI (i : Int) &&& 31) = Int32.ofNat i := by decide +kernel
theorem bitG {a : Int} {i : Nat} (hi : i < 31) : iand (ishr a i) 1 = if (iI a).toBitVec.getLsbD i = true then 1 else 0 := by
  have e : (iI (ishr a i) &&& iI 1).toBitVec = if (iI a).toBitVec.getLsbD i = true then 1#32 else 0#32 := by
    rw [Int32.toBitVec_and]
    have e2 : (iI (ishr a i)).toBitVec = (iI a).toBitVec.sshiftRight i := by
      rw [ishr, show iI ((iI a >>> (iI (i : Int) &&& 31)).toInt) = iI a >>> (iI (i : Int) &&& 31) from Int32.ofInt_toInt _]
      show (iI a).toBitVec.sshiftRight (((iI (i : Int) &&& 31)).toBitVec.smod 32).toNat = _
      rw [iI_cast, i31 i hi]
    rw [e2, show (iI 1).toBitVec = 1#32 from rfl]
    apply BitVec.eq_of_getLsbD_eq
    intro j hj
    rw [BitVec.getLsbD_and, BitVec.getLsbD_sshiftRight, BitVec.getLsbD_one]
    by_cases h0 : j = 0
    · subst h0
      cases hb : (iI a).toBitVec.getLsbD i <;> simp [hb] <;> omega
    · cases hb : (iI a).toBitVec.getLsbD i <;> simp [h0]
  unfold iand
  show (iI (ishr a i) &&& iI 1).toBitVec.toInt = _
  rw [e]
  split <;> rfl
theorem fMask_not {f : Nat → Bool} {n : Nat} {v : Int} (hn : n ≤ 14) (h : v = ((mkN f n : Nat) : Int)) : fMask (ixor v (-1)) (fun i => !f i) n := by
  intro i hi
  rw [bitG (by omega)]
  have e : (iI (ixor v (-1))).toBitVec = (iI v).toBitVec ^^^ (iI (-1)).toBitVec := by
    rw [ixor, show iI ((iI v ^^^ iI (-1)).toInt) = iI v ^^^ iI (-1) from Int32.ofInt_toInt _, Int32.toBitVec_xor]
  have e1 : (iI (-1)).toBitVec.getLsbD i = true := by
    rw [show (iI (-1)).toBitVec = BitVec.allOnes 32 from rfl, BitVec.getLsbD_allOnes]
    exact decide_eq_true (by omega)
  have e2 : (iI v).toBitVec.getLsbD i = f i := by
    rw [h, iI_cast, oN_bv, BitVec.getLsbD_ofNat, mk_bit hi, decide_eq_true (by omega), Bool.true_and]
  rw [e, BitVec.getLsbD_xor, e1, e2, Bool.xor_true]
theorem x_hasBitG {z : xZ} {d : Nat} {Q : tQ} {c : tC} {L : tL} {v : Int} {i : Nat} {b : Bool} (hm : iand (ishr v i) 1 = if b = true then 1 else 0) (k1 : b = true → Q (some (.int (iI 1))) c L) (k0 : b = false → Q (some (.int (iI 0))) c L) : En z (d + 1) MX10_hasBit Q 0 [some (.int (iI v)), some (.int (iI (i : Int)))] [] c L := by
  refine r_iloadN 1 dX10_hasBit_0 rfl rfl ?_
  refine r_iloadN 2 dX10_hasBit_1 rfl rfl ?_
  refine r_ishr 3 dX10_hasBit_2 rfl ?_
  refine r_iconst 4 dX10_hasBit_3 rfl ?_
  refine r_iand 5 dX10_hasBit_4 rfl ?_
  rw [hm]
  refine r_ifeq 12 8 dX10_hasBit_5 rfl (by decide) (by split <;> omega) (fun h5 => ?_) (fun h5 => ?_)
  · refine r_iconst 13 dX10_hasBit_12 rfl ?_
    refine r_zret dX10_hasBit_13 rfl (by decide) (k0 ?_)
    cases hb : b <;> simp_all
  · refine r_iconst 9 dX10_hasBit_8 rfl ?_
    refine r_goto 13 dX10_hasBit_9 (by decide) ?_
    refine r_zret dX10_hasBit_13 rfl (by decide) (k1 ?_)
    cases hb : b <;> simp_all
theorem dia {c : tC} (hR : RX c) {k : Nat} (hk : (k : Int) < c 50 0 9) : (c 18 0 k = -1 ∧ (20 ≤ c 20 0 k ∧ c 20 0 k ≤ 99) ∧ 0 ≤ c 17 0 k ∧ c 17 0 k < c 50 0 1) ∨ ((0 ≤ c 18 0 k ∧ c 18 0 k ≤ 239) ∧ (0 ≤ c 19 0 k ∧ c 19 0 k ≤ 63) ∧ (c 20 0 k = 0 ∨ c 20 0 k = 1) ∧ 0 ≤ c 17 0 k ∧ c 17 0 k < c 50 0 1) := by
  rcases R0_came hR k (by omega) hk with ⟨i, hi, e⟩ | ⟨i, hi, e⟩
  · have h := R0_press hR i hi
    rw [e, Int.toNat_natCast] at h
    right
    omega
  · have h := R0_match hR i hi
    rw [e, Int.toNat_natCast] at h
    left
    omega
def fAg (c : tC) (p k s : Nat) : Bool := if c 18 0 k = -1 then fNear (c 51) (c 20 0 k) s else (fHear (c 51) p s (c 19 0 k) && fSnd (c 50 0) (c 51) s (c 18 0 k)) == decide (c 20 0 k = 1)
def fFac (c : tC) (p k s : Nat) : Int := if fAg c p k s = true then c 51 11 2 else c 51 11 3
def fWor (c : tC) (p s : Nat) : Nat → Nat → Int → Int
  | 0, _, w => w
  | k + 1, l, w => if l = 0 then w else if c 17 0 k = (p : Int) then fWor c p s k (l - 1) (w * fFac c p k s) else fWor c p s k l w
theorem fWor_zero {c : tC} {p s : Nat} {k : Nat} {w : Int} : fWor c p s k 0 w = w := by
  cases k with
  | zero => rfl
  | succ k => rw [fWor, if_pos rfl]
theorem x_isMatch {z : xZ} {d : Nat} {Q : tQ} {c : tC} {L : tL} {i : Nat} (hi : i < 80) (h18 : inR (c 18 0 i)) (k1 : c 18 0 i = -1 → Q (some (.int (iI 1))) c L) (k0 : c 18 0 i ≠ -1 → Q (some (.int (iI 0))) c L) : En z (d + 1) MX1_isMatch Q 0 [some (.ref (xad z 16 0)), some (.int (iI (i : Int)))] [] c L := by
  refine r_aloadN 1 dX1_isMatch_0 rfl rfl ?_
  refine r_getq 4 dX1_isMatch_1 rfl fX1_25 (by decide) (sh_16 z _) rfl ?_
  refine r_iloadN 5 dX1_isMatch_4 rfl rfl ?_
  refine r_iald 6 dX1_isMatch_5 (i) rfl rfl (by decide) (sh_18 z _) (by decide) (by omega) (by omega) ?_
  refine r_iconst 7 dX1_isMatch_6 rfl ?_
  refine r_icne 14 10 dX1_isMatch_7 rfl (by decide) (by omega) (by omega) (fun h7 => ?_) (fun h7 => ?_)
  · refine r_iconst 15 dX1_isMatch_14 rfl ?_
    exact r_zret dX1_isMatch_15 rfl (by decide) (k0 (by omega))
  · refine r_iconst 11 dX1_isMatch_10 rfl ?_
    refine r_goto 15 dX1_isMatch_11 (by decide) ?_
    exact r_zret dX1_isMatch_15 rfl (by decide) (k1 (by omega))
theorem x_agreeing {z : xZ} {d : Nat} {Q : tQ} {c : tC} {L : tL} {n p i : Nat} (hR : RX c) (hn : c 50 0 2 = (n : Int)) (hp : (p : Int) < c 50 0 1) (hi : (i : Int) < c 50 0 9) (k : ∀ r, fMask r (fun s => fAg c p i s) n → Q (some (.int (iI r))) c L) : En z (d + 5) MX6_agreeing Q 0 [some (.ref (xad z 5 0)), some (.int (iI (p : Int))), some (.int (iI (i : Int))), none, none] [] c L := by
  have hg := R0_rng hR
  have hc := R0_scal hR
  have hd := dia hR hi
  refine r_aloadN 1 dX6_agreeing_0 rfl rfl ?_
  refine r_getq 4 dX6_agreeing_1 rfl fX6_12 (by decide) (sh_5 z _) rfl ?_
  refine r_getq 7 dX6_agreeing_4 rfl fX6_45 (by decide) (sh_8 z _) rfl ?_
  refine r_astore3 8 dX6_agreeing_7 rfl rfl (by decide) ?_
  refine r_aloadN 9 dX6_agreeing_8 rfl rfl ?_
  refine r_iloadN 10 dX6_agreeing_9 rfl rfl ?_
  refine r_cv1 13 dX6_agreeing_10 rfl gX6_65 rfl (by decide) (sh_16 z _) rfl rfl (Nat.le_of_ble_eq_true rfl) (Nat.le_of_ble_eq_true rfl) rfl ?_
  refine x_isMatch (i := i) (by omega) (by constructor <;> omega) (fun y10 => ?_) (fun y10 => ?_)
  · refine r_ifeqF 16 dX6_agreeing_13 rfl 30 (by decide) (by decide) (by decide) ?_
    refine r_aloadN 17 dX6_agreeing_16 rfl rfl ?_
    refine r_getq 20 dX6_agreeing_17 rfl fX6_12 (by decide) (sh_5 z _) rfl ?_
    refine r_aloadN 21 dX6_agreeing_20 rfl rfl ?_
    refine r_getq 24 dX6_agreeing_21 rfl fX6_69 (by decide) (sh_16 z _) rfl ?_
    refine r_iloadN 25 dX6_agreeing_24 rfl rfl ?_
    refine r_iald 26 dX6_agreeing_25 (i) rfl rfl (by decide) (sh_20 z _) (by decide) (by omega) (by omega) ?_
    refine r_cv1 29 dX6_agreeing_26 rfl gX6_72 rfl (by decide) (sh_8 z _) rfl rfl (Nat.le_of_ble_eq_true rfl) (Nat.le_of_ble_eq_true rfl) rfl ?_
    refine x_nearTo hR hn (by omega) (fun r26 e26 => ?_)
    refine r_ret dX6_agreeing_29 rfl (k _ ?_)
    rw [show (fun s => fAg c p i s) = fNear (c 51) (c 20 0 i) from funext fun s => by unfold fAg; rw [if_pos y10]]
    exact fMask_mk (by omega) e26
  · refine r_ifeqT 30 0 dX6_agreeing_13 (by decide) (by decide) (by decide) ?_
    refine r_aloadN 31 dX6_agreeing_30 rfl rfl ?_
    refine r_getq 34 dX6_agreeing_31 rfl fX6_12 (by decide) (sh_5 z _) rfl ?_
    refine r_iloadN 35 dX6_agreeing_34 rfl rfl ?_
    refine r_aloadN 36 dX6_agreeing_35 rfl rfl ?_
    refine r_getq 39 dX6_agreeing_36 rfl fX6_76 (by decide) (sh_16 z _) rfl ?_
    refine r_iloadN 40 dX6_agreeing_39 rfl rfl ?_
    refine r_iald 41 dX6_agreeing_40 (i) rfl rfl (by decide) (sh_19 z _) (by decide) (by omega) (by omega) ?_
    obtain ⟨sp, hsp⟩ := Int.eq_ofNat_of_zero_le (show 0 ≤ c 19 0 i by omega)
    rw [hsp]
    refine r_cv2 44 dX6_agreeing_41 rfl gX6_79 rfl (by decide) (sh_8 z _) rfl rfl (Nat.le_of_ble_eq_true rfl) (Nat.le_of_ble_eq_true rfl) rfl ?_
    refine x_audibleTo hR hn hp (sp := sp) (by omega) (fun r41 e41 => ?_)
    refine r_aloadN 45 dX6_agreeing_44 rfl rfl ?_
    refine r_getq 48 dX6_agreeing_45 rfl fX6_12 (by decide) (sh_5 z _) rfl ?_
    refine r_aloadN 49 dX6_agreeing_48 rfl rfl ?_
    refine r_getq 52 dX6_agreeing_49 rfl fX6_82 (by decide) (sh_16 z _) rfl ?_
    refine r_iloadN 53 dX6_agreeing_52 rfl rfl ?_
    refine r_iald 54 dX6_agreeing_53 (i) rfl rfl (by decide) (sh_18 z _) (by decide) (by omega) (by omega) ?_
    refine r_cv1 57 dX6_agreeing_54 rfl gX6_85 rfl (by decide) (sh_8 z _) rfl rfl (Nat.le_of_ble_eq_true rfl) (Nat.le_of_ble_eq_true rfl) rfl ?_
    refine x_soundingAt hR hn (by omega) (fun r54 e54 => ?_)
    refine r_iand 58 dX6_agreeing_57 rfl ?_
    rw [iand_mk (by omega) e41 e54]
    refine r_istore4 60 dX6_agreeing_58 rfl rfl (by decide) ?_
    refine r_aloadN 61 dX6_agreeing_60 rfl rfl ?_
    refine r_getq 64 dX6_agreeing_61 rfl fX6_69 (by decide) (sh_16 z _) rfl ?_
    refine r_iloadN 65 dX6_agreeing_64 rfl rfl ?_
    refine r_iald 66 dX6_agreeing_65 (i) rfl rfl (by decide) (sh_20 z _) (by decide) (by omega) (by omega) ?_
    refine r_iconst 67 dX6_agreeing_66 rfl ?_
    refine r_icne 75 70 dX6_agreeing_67 rfl (by decide) (by omega) (by omega) (fun h67 => ?_) (fun h67 => ?_)
    · refine r_iload 77 dX6_agreeing_75 rfl rfl ?_
      refine r_iconst 78 dX6_agreeing_77 rfl ?_
      refine r_ixor 79 dX6_agreeing_78 rfl ?_
      refine r_ret dX6_agreeing_79 rfl (k _ ?_)
      first
        | (rw [show (fun s => fAg c p i s) = (fun s => fHear (c 51) p s (sp : Int) && fSnd (c 50 0) (c 51) s (c 18 0 i)) from funext fun s => by unfold fAg; rw [if_neg y10, decide_eq_true (show c 20 0 i = 1 by omega), hsp]; cases (fHear (c 51) p s (sp : Int) && fSnd (c 50 0) (c 51) s (c 18 0 i)) <;> rfl]
           exact fMask_mk (by omega) rfl)
        | (rw [show (fun s => fAg c p i s) = (fun s => !(fHear (c 51) p s (sp : Int) && fSnd (c 50 0) (c 51) s (c 18 0 i))) from funext fun s => by unfold fAg; rw [if_neg y10, decide_eq_false (show ¬ c 20 0 i = 1 by omega), hsp]; cases (fHear (c 51) p s (sp : Int) && fSnd (c 50 0) (c 51) s (c 18 0 i)) <;> rfl]
           exact fMask_not (by omega) rfl)
    · refine r_iload 72 dX6_agreeing_70 rfl rfl ?_
      refine r_goto 79 dX6_agreeing_72 (by decide) ?_
      refine r_ret dX6_agreeing_79 rfl (k _ ?_)
      first
        | (rw [show (fun s => fAg c p i s) = (fun s => fHear (c 51) p s (sp : Int) && fSnd (c 50 0) (c 51) s (c 18 0 i)) from funext fun s => by unfold fAg; rw [if_neg y10, decide_eq_true (show c 20 0 i = 1 by omega), hsp]; cases (fHear (c 51) p s (sp : Int) && fSnd (c 50 0) (c 51) s (c 18 0 i)) <;> rfl]
           exact fMask_mk (by omega) rfl)
        | (rw [show (fun s => fAg c p i s) = (fun s => !(fHear (c 51) p s (sp : Int) && fSnd (c 50 0) (c 51) s (c 18 0 i))) from funext fun s => by unfold fAg; rw [if_neg y10, decide_eq_false (show ¬ c 20 0 i = 1 by omega), hsp]; cases (fHear (c 51) p s (sp : Int) && fSnd (c 50 0) (c 51) s (c 18 0 i)) <;> rfl]
           exact fMask_not (by omega) rfl)
theorem x_mul_loop {z : xZ} {d : Nat} {Q : tQ} {c : tC} {n : Nat} {v : Int} {G : Nat → Bool} {w : Nat → Int} {L0 : tL} (hR : RX c) (hn : c 50 0 2 = (n : Int)) (hv : fMask v G n) (kk : ∀ L2 : tL, (∀ s, s < n → L2 6 0 s = lI (w s * (if G s = true then c 51 11 2 else c 51 11 3))) → (∀ g i j, g ≠ 6 → L2 g i j = L0 g i j) → Q none c L2) : ∀ (k i : Nat) (L : tL), i + k = n → (∀ s, s < n → L 6 0 s = lI (if s < i then w s * (if G s = true then c 51 11 2 else c 51 11 3) else w s)) → (∀ g i j, g ≠ 6 → L g i j = L0 g i j) → En z (d + 2) MX6_multiply Q 2 [some (.ref (xad z 5 0)), some (.int (iI v)), some (.int (iI (i : Int)))] [] c L := by
  have hg := R0_rng hR
  have hc := R0_scal hR
  have hlw := R0_law hR
  intro k
  induction k with
  | zero =>
    intro i L hi hL hF
    refine r_iloadN 3 dX6_multiply_2 rfl rfl ?_
    refine r_aloadN 4 dX6_multiply_3 rfl rfl ?_
    refine r_getq 7 dX6_multiply_4 rfl fX6_12 (by decide) (sh_5 z _) rfl ?_
    refine r_geti 10 dX6_multiply_7 rfl fX6_42 (by decide) (sh_8 z _) rfl ?_
    refine r_icge 50 13 dX6_multiply_10 rfl (by decide) (by omega) (by omega) (fun h10 => ?_) (fun h10 => ?_)
    · refine r_vret dX6_multiply_50 rfl (kk _ ?_ hF)
      intro s hs
      rw [hL s hs, if_pos (show s < i by omega)]
    · exfalso; omega
  | succ k ih =>
    intro i L hi hL hF
    refine r_iloadN 3 dX6_multiply_2 rfl rfl ?_
    refine r_aloadN 4 dX6_multiply_3 rfl rfl ?_
    refine r_getq 7 dX6_multiply_4 rfl fX6_12 (by decide) (sh_5 z _) rfl ?_
    refine r_geti 10 dX6_multiply_7 rfl fX6_42 (by decide) (sh_8 z _) rfl ?_
    refine r_icge 50 13 dX6_multiply_10 rfl (by decide) (by omega) (by omega) (fun h10 => ?_) (fun h10 => ?_)
    · exfalso; omega
    · refine r_aloadN 14 dX6_multiply_13 rfl rfl ?_
      refine r_getq 17 dX6_multiply_14 rfl fX6_18 (by decide) (sh_5 z _) rfl ?_
      refine r_iloadN 18 dX6_multiply_17 rfl rfl ?_
      refine r_dup2 19 dX6_multiply_18 rfl ?_
      refine r_lald 20 dX6_multiply_19 (i) rfl rfl (by decide) (sh_6 z _) (by decide) (by omega) (by omega) ?_
      rw [hL i (by omega), if_neg (by omega)]
      refine r_aloadN 21 dX6_multiply_20 rfl rfl ?_
      refine r_getq 24 dX6_multiply_21 rfl fX6_12 (by decide) (sh_5 z _) rfl ?_
      refine r_getq 27 dX6_multiply_24 rfl fX6_88 (by decide) (sh_8 z _) rfl ?_
      refine r_iloadN 28 dX6_multiply_27 rfl rfl ?_
      refine r_iloadN 29 dX6_multiply_28 rfl rfl ?_
      refine r_cs2 32 dX6_multiply_29 rfl gX6_91 (Nat.le_of_ble_eq_true rfl) (Nat.le_of_ble_eq_true rfl) rfl ?_
      refine x_hasBitG (hv i (by omega)) (fun y29 => ?_) (fun y29 => ?_)
      · refine r_ifeqF 35 dX6_multiply_32 rfl 39 (by decide) (by decide) (by decide) ?_
        refine r_iconst 36 dX6_multiply_35 rfl ?_
        refine r_goto 40 dX6_multiply_36 (by decide) ?_
        refine r_iald 41 dX6_multiply_40 (2) rfl rfl (by decide) (sh_27 z _) (by decide) (by omega) (by omega) ?_
        refine r_i2l 42 dX6_multiply_41 rfl (by omega) ?_
        refine r_lmul 43 dX6_multiply_42 rfl ?_
        refine r_last 44 dX6_multiply_43 (i) rfl rfl (by decide) (sh_6 z _) (by decide) (by omega) (by omega) ?_
        refine r_iinc2 47 dX6_multiply_44 rfl rfl (by decide) ?_
        refine r_goto 2 dX6_multiply_47 (by decide) ?_
        refine ih (i + 1) _ (by omega) ?_ ?_
        · intro s hs
          by_cases e : s = i
          · subst e
            rw [Lu, if_pos ⟨rfl, rfl, rfl⟩, if_pos (show s < s + 1 from Nat.lt_succ_self _)]
            first
              | (rw [if_pos y29, show c 51 11 2 = c 27 0 2 by omega]; done)
              | (rw [if_neg (by rw [y29]; decide), show c 51 11 3 = c 27 0 3 by omega]; done)
          · rw [Lu, if_neg (fun q => e q.2.2), hL s hs]
            by_cases e2 : s < i
            · rw [if_pos e2, if_pos (show s < i + 1 by omega)]
            · rw [if_neg e2, if_neg (show ¬ s < i + 1 by omega)]
        · intro g i2 j hg
          rw [Lu, if_neg (fun q => hg q.1)]
          exact hF g i2 j hg
      · refine r_ifeqT 39 0 dX6_multiply_32 (by decide) (by decide) (by decide) ?_
        refine r_iconst 40 dX6_multiply_39 rfl ?_
        refine r_iald 41 dX6_multiply_40 (3) rfl rfl (by decide) (sh_27 z _) (by decide) (by omega) (by omega) ?_
        refine r_i2l 42 dX6_multiply_41 rfl (by omega) ?_
        refine r_lmul 43 dX6_multiply_42 rfl ?_
        refine r_last 44 dX6_multiply_43 (i) rfl rfl (by decide) (sh_6 z _) (by decide) (by omega) (by omega) ?_
        refine r_iinc2 47 dX6_multiply_44 rfl rfl (by decide) ?_
        refine r_goto 2 dX6_multiply_47 (by decide) ?_
        refine ih (i + 1) _ (by omega) ?_ ?_
        · intro s hs
          by_cases e : s = i
          · subst e
            rw [Lu, if_pos ⟨rfl, rfl, rfl⟩, if_pos (show s < s + 1 from Nat.lt_succ_self _)]
            first
              | (rw [if_pos y29, show c 51 11 2 = c 27 0 2 by omega]; done)
              | (rw [if_neg (by rw [y29]; decide), show c 51 11 3 = c 27 0 3 by omega]; done)
          · rw [Lu, if_neg (fun q => e q.2.2), hL s hs]
            by_cases e2 : s < i
            · rw [if_pos e2, if_pos (show s < i + 1 by omega)]
            · rw [if_neg e2, if_neg (show ¬ s < i + 1 by omega)]
        · intro g i2 j hg
          rw [Lu, if_neg (fun q => hg q.1)]
          exact hF g i2 j hg
theorem x_multiply {z : xZ} {d : Nat} {Q : tQ} {c : tC} {L : tL} {n : Nat} {v : Int} {G : Nat → Bool} {w : Nat → Int} (hR : RX c) (hn : c 50 0 2 = (n : Int)) (hv : fMask v G n) (hL : ∀ s, s < n → L 6 0 s = lI (w s)) (k : ∀ L2 : tL, (∀ s, s < n → L2 6 0 s = lI (w s * (if G s = true then c 51 11 2 else c 51 11 3))) → (∀ g i j, g ≠ 6 → L2 g i j = L g i j) → Q none c L2) : En z (d + 2) MX6_multiply Q 0 [some (.ref (xad z 5 0)), some (.int (iI v)), none] [] c L := by
  refine r_iconst 1 dX6_multiply_0 rfl ?_
  refine r_istore2 2 dX6_multiply_1 rfl rfl (by decide) ?_
  exact x_mul_loop hR hn hv k n 0 L (by omega) (fun s hs => by rw [hL s hs, if_neg (Nat.not_lt_zero s)]) (fun _ _ _ _ => rfl)
theorem fac_rng {c : tC} (hR : RX c) (p k s : Nat) : 1 ≤ fFac c p k s ∧ fFac c p k s ≤ 9 := by
  have h := R0_law hR
  unfold fFac
  split <;> omega
theorem x_weigh_loop {z : xZ} {d : Nat} {Q : tQ} {c : tC} {n p : Nat} {L0 : tL} (hR : RX c) (hn : c 50 0 2 = (n : Int)) (hp : (p : Int) < c 50 0 1) (kk : ∀ L2 : tL, (∀ s, s < n → L2 6 0 s = lI (fWor c p s (c 50 0 9).toNat 16 1)) → (∀ g i j, g ≠ 6 → L2 g i j = L0 g i j) → Q none c L2) : ∀ (k i : Nat) (l : Nat) (lv x : Int) (w : Nat → Int) (L : tL), i = k → lv = (l : Int) → (k : Int) ≤ c 50 0 9 → x = (k : Int) - 1 → l ≤ 16 → (∀ s, s < n → L 6 0 s = lI (w s)) → (∀ s, s < n → fWor c p s k l (w s) = fWor c p s (c 50 0 9).toNat 16 1) → (∀ g i j, g ≠ 6 → L g i j = L0 g i j) → En z (d + 6) MX6_weigh Q 42 [some (.ref (xad z 5 0)), some (.int (iI (p : Int))), some (.int (iI lv)), some (.int (iI x))] [] c L := by
  have hg := R0_rng hR
  have hc := R0_scal hR
  intro k
  induction k with
  | zero =>
    intro i l lv x w L hi hlv hk hx hl hL hW hF
    refine r_iloadN 43 dX6_weigh_42 rfl rfl ?_
    refine r_iflt 85 46 dX6_weigh_43 rfl (by decide) (by omega) (fun h43 => ?_) (fun h43 => ?_)
    · refine r_vret dX6_weigh_85 rfl (kk _ ?_ hF)
      intro s hs
      rw [hL s hs, ← hW s hs]
      first
        | (exfalso; omega)
        | (rw [show l = 0 by omega, fWor_zero]; done)
        | rfl
    · exfalso; omega
  | succ k ih =>
    intro i l lv x w L hi hlv hk hx hl hL hW hF
    refine r_iloadN 43 dX6_weigh_42 rfl rfl ?_
    refine r_iflt 85 46 dX6_weigh_43 rfl (by decide) (by omega) (fun h43 => ?_) (fun h43 => ?_)
    · refine r_vret dX6_weigh_85 rfl (kk _ ?_ hF)
      intro s hs
      rw [hL s hs, ← hW s hs]
      first
        | (exfalso; omega)
        | (rw [show l = 0 by omega, fWor_zero]; done)
        | rfl
    · refine r_iloadN 47 dX6_weigh_46 rfl rfl ?_
      refine r_ifle 85 50 dX6_weigh_47 rfl (by decide) (by omega) (fun h47 => ?_) (fun h47 => ?_)
      · refine r_vret dX6_weigh_85 rfl (kk _ ?_ hF)
        intro s hs
        rw [hL s hs, ← hW s hs]
        first
          | (exfalso; omega)
          | (rw [show l = 0 by omega, fWor_zero]; done)
          | rfl
      · obtain rfl : x = (k : Int) := by omega
        have hd := dia hR (k := k) (by omega)
        refine r_aloadN 51 dX6_weigh_50 rfl rfl ?_
        refine r_getq 54 dX6_weigh_51 rfl fX6_12 (by decide) (sh_5 z _) rfl ?_
        refine r_getq 57 dX6_weigh_54 rfl fX6_45 (by decide) (sh_8 z _) rfl ?_
        refine r_getq 60 dX6_weigh_57 rfl fX6_54 (by decide) (sh_16 z _) rfl ?_
        refine r_iloadN 61 dX6_weigh_60 rfl rfl ?_
        refine r_iald 62 dX6_weigh_61 (k) rfl rfl (by decide) (sh_17 z _) (by decide) (by omega) (by omega) ?_
        refine r_iloadN 63 dX6_weigh_62 rfl rfl ?_
        refine r_icne 79 66 dX6_weigh_63 rfl (by decide) (by omega) (by omega) (fun h63 => ?_) (fun h63 => ?_)
        · refine r_iinc3 82 dX6_weigh_79 rfl rfl (by decide) ?_
          refine r_goto 42 dX6_weigh_82 (by decide) ?_
          first
            | (refine ih k l _ _ w L rfl hlv (by omega) (by omega) (by omega) hL ?_ hF
               intro s hs
               rw [← hW s hs, fWor, if_neg (by omega), if_neg (by omega)])
            | (refine ih k (l - 1) _ _ _ _ rfl (by omega) (by omega) (by omega) (by omega) hL2 ?_ (fun g i j hg => by rw [hF2 g i j hg, hF g i j hg])
               intro s hs
               rw [← hW s hs, fWor, if_neg (show ¬ l = 0 by omega), if_pos (show c 17 0 k = (p : Int) by omega)]
               rfl)
        · refine r_aloadN 67 dX6_weigh_66 rfl rfl ?_
          refine r_aloadN 68 dX6_weigh_67 rfl rfl ?_
          refine r_iloadN 69 dX6_weigh_68 rfl rfl ?_
          refine r_iloadN 70 dX6_weigh_69 rfl rfl ?_
          refine r_cv2 73 dX6_weigh_70 rfl gX6_57 rfl (by decide) (sh_5 z _) rfl rfl (Nat.le_of_ble_eq_true rfl) (Nat.le_of_ble_eq_true rfl) rfl ?_
          refine x_agreeing hR hn hp (by omega) (fun v70 e70 => ?_)
          refine r_cv1 76 dX6_weigh_73 rfl gX6_61 rfl (by decide) (sh_5 z _) rfl rfl (Nat.le_of_ble_eq_true rfl) (Nat.le_of_ble_eq_true rfl) rfl ?_
          refine x_multiply hR hn e70 hL (fun L2 hL2 hF2 => ?_)
          refine r_iinc2 79 dX6_weigh_76 rfl rfl (by decide) ?_
          refine r_iinc3 82 dX6_weigh_79 rfl rfl (by decide) ?_
          refine r_goto 42 dX6_weigh_82 (by decide) ?_
          first
            | (refine ih k l _ _ w L rfl hlv (by omega) (by omega) (by omega) hL ?_ hF
               intro s hs
               rw [← hW s hs, fWor, if_neg (by omega), if_neg (by omega)])
            | (refine ih k (l - 1) _ _ _ _ rfl (by omega) (by omega) (by omega) (by omega) hL2 ?_ (fun g i j hg => by rw [hF2 g i j hg, hF g i j hg])
               intro s hs
               rw [← hW s hs, fWor, if_neg (show ¬ l = 0 by omega), if_pos (show c 17 0 k = (p : Int) by omega)]
               rfl)
theorem x_weigh0_loop {z : xZ} {d : Nat} {Q : tQ} {c : tC} {n p : Nat} {L0 : tL} (hR : RX c) (hn : c 50 0 2 = (n : Int)) (hp : (p : Int) < c 50 0 1) (kk : ∀ L2 : tL, (∀ s, s < n → L2 6 0 s = lI (fWor c p s (c 50 0 9).toNat 16 1)) → (∀ g i j, g ≠ 6 → L2 g i j = L0 g i j) → Q none c L2) : ∀ (k i : Nat) (L : tL), i + k = n → (∀ s, s < i → L 6 0 s = lI 1) → (∀ g i j, g ≠ 6 → L g i j = L0 g i j) → En z (d + 6) MX6_weigh Q 2 [some (.ref (xad z 5 0)), some (.int (iI (p : Int))), some (.int (iI (i : Int))), none] [] c L := by
  have hg := R0_rng hR
  have hc := R0_scal hR
  intro k
  induction k with
  | zero =>
    intro i L hi hL hF
    refine r_iloadN 3 dX6_weigh_2 rfl rfl ?_
    refine r_aloadN 4 dX6_weigh_3 rfl rfl ?_
    refine r_getq 7 dX6_weigh_4 rfl fX6_12 (by decide) (sh_5 z _) rfl ?_
    refine r_geti 10 dX6_weigh_7 rfl fX6_42 (by decide) (sh_8 z _) rfl ?_
    refine r_icge 26 13 dX6_weigh_10 rfl (by decide) (by omega) (by omega) (fun h10 => ?_) (fun h10 => ?_)
    · refine r_bipush 28 dX6_weigh_26 rfl (by decide) ?_
      refine r_istore2 29 dX6_weigh_28 rfl rfl (by decide) ?_
      refine r_aloadN 30 dX6_weigh_29 rfl rfl ?_
      refine r_getq 33 dX6_weigh_30 rfl fX6_12 (by decide) (sh_5 z _) rfl ?_
      refine r_getq 36 dX6_weigh_33 rfl fX6_45 (by decide) (sh_8 z _) rfl ?_
      refine r_geti 39 dX6_weigh_36 rfl fX6_49 (by decide) (sh_16 z _) rfl ?_
      refine r_iconst 40 dX6_weigh_39 rfl ?_
      refine r_isub 41 dX6_weigh_40 rfl ?_
      refine r_istore3 42 dX6_weigh_41 rfl rfl (by decide) ?_
      exact x_weigh_loop hR hn hp kk (c 50 0 9).toNat (c 50 0 9).toNat 16 _ _ (fun _ => 1) L rfl rfl (by omega) (by omega) (by omega) (fun s hs => hL s (by omega)) (fun _ _ => rfl) hF
    · exfalso; omega
  | succ k ih =>
    intro i L hi hL hF
    refine r_iloadN 3 dX6_weigh_2 rfl rfl ?_
    refine r_aloadN 4 dX6_weigh_3 rfl rfl ?_
    refine r_getq 7 dX6_weigh_4 rfl fX6_12 (by decide) (sh_5 z _) rfl ?_
    refine r_geti 10 dX6_weigh_7 rfl fX6_42 (by decide) (sh_8 z _) rfl ?_
    refine r_icge 26 13 dX6_weigh_10 rfl (by decide) (by omega) (by omega) (fun h10 => ?_) (fun h10 => ?_)
    · exfalso; omega
    · refine r_aloadN 14 dX6_weigh_13 rfl rfl ?_
      refine r_getq 17 dX6_weigh_14 rfl fX6_18 (by decide) (sh_5 z _) rfl ?_
      refine r_iloadN 18 dX6_weigh_17 rfl rfl ?_
      refine r_lconst 19 dX6_weigh_18 rfl ?_
      refine r_last 20 dX6_weigh_19 (i) rfl rfl (by decide) (sh_6 z _) (by decide) (by omega) (by omega) ?_
      refine r_iinc2 23 dX6_weigh_20 rfl rfl (by decide) ?_
      refine r_goto 2 dX6_weigh_23 (by decide) ?_
      refine ih (i + 1) _ (by omega) ?_ ?_
      · intro s hs
        by_cases e : s = i
        · rw [Lu, if_pos ⟨rfl, rfl, e⟩]; rfl
        · rw [Lu, if_neg (fun q => e q.2.2)]
          exact hL s (by omega)
      · intro g i2 j hg
        rw [Lu, if_neg (fun q => hg q.1)]
        exact hF g i2 j hg
theorem x_weigh {z : xZ} {d : Nat} {Q : tQ} {c : tC} {L : tL} {n p : Nat} (hR : RX c) (hn : c 50 0 2 = (n : Int)) (hp : (p : Int) < c 50 0 1) (k : ∀ L2 : tL, (∀ s, s < n → L2 6 0 s = lI (fWor c p s (c 50 0 9).toNat 16 1)) → (∀ g i j, g ≠ 6 → L2 g i j = L g i j) → Q none c L2) : En z (d + 6) MX6_weigh Q 0 [some (.ref (xad z 5 0)), some (.int (iI (p : Int))), none, none] [] c L := by
  refine r_iconst 1 dX6_weigh_0 rfl ?_
  refine r_istore2 2 dX6_weigh_1 rfl rfl (by decide) ?_
  exact x_weigh0_loop hR hn hp k n 0 L (by omega) (fun s hs => by omega) (fun _ _ _ _ => rfl)
