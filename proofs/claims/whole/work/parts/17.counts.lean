def cntN (f : Nat → Bool) : Nat → Nat
  | 0 => 0
  | n + 1 => cntN f n + (if f n = true then 1 else 0)
def sumN (f : Nat → Nat) : Nat → Nat
  | 0 => 0
  | n + 1 => sumN f n + f n
theorem cntN_ext {f g : Nat → Bool} : ∀ {n : Nat}, (∀ i, i < n → f i = g i) → cntN f n = cntN g n := by
  intro n
  induction n with
  | zero => intro _; rfl
  | succ n ih => intro h; rw [cntN, cntN, ih (fun i hi => h i (by omega)), h n (by omega)]
theorem sumN_ext {f g : Nat → Nat} : ∀ {n : Nat}, (∀ i, i < n → f i = g i) → sumN f n = sumN g n := by
  intro n
  induction n with
  | zero => intro _; rfl
  | succ n ih => intro h; rw [sumN, sumN, ih (fun i hi => h i (by omega)), h n (by omega)]
theorem cntN_le (f : Nat → Bool) : ∀ n, cntN f n ≤ n := by
  intro n
  induction n with
  | zero => exact Nat.le_refl _
  | succ n ih => rw [cntN]; split <;> omega
theorem sumN_le {f : Nat → Nat} {b : Nat} : ∀ {n : Nat}, (∀ i, i < n → f i ≤ b) → sumN f n ≤ n * b := by
  intro n
  induction n with
  | zero => intro _; exact Nat.zero_le _
  | succ n ih =>
    intro h
    have h1 := ih (fun i hi => h i (by omega))
    have h2 := h n (by omega)
    rw [sumN, Nat.succ_mul]
    omega
theorem sumN_add (f g : Nat → Nat) (n : Nat) : sumN (fun i => f i + g i) n = sumN f n + sumN g n := by
  induction n with
  | zero => rfl
  | succ n ih => rw [sumN, sumN, sumN, ih]; omega
theorem cntN_sum (f : Nat → Bool) (n : Nat) : cntN f n = sumN (fun i => if f i = true then 1 else 0) n := by
  induction n with
  | zero => rfl
  | succ n ih => rw [cntN, sumN, ih]
theorem cntN_false {f : Nat → Bool} : ∀ {n : Nat}, (∀ i, i < n → f i = false) → cntN f n = 0 := by
  intro n
  induction n with
  | zero => intro _; rfl
  | succ n ih => intro h; rw [cntN, ih (fun i hi => h i (by omega)), h n (by omega)]; rfl
theorem cntN_up {f : Nat → Bool} {n k : Nat} (h : ∀ i, n ≤ i → f i = false) : cntN f (n + k) = cntN f n := by
  induction k with
  | zero => rfl
  | succ k ih => rw [← Nat.add_assoc, cntN, ih, h (n + k) (by omega)]; rfl
theorem pop_mk {f : Nat → Bool} {n : Nat} (h : n ≤ 14) : cntN (mkN f n).testBit 14 = cntN f n := by
  have e := cntN_up (f := (mkN f n).testBit) (n := n) (k := 14 - n) (fun i hi => by rw [mkN_bit]; simp; omega)
  rw [show n + (14 - n) = 14 by omega] at e
  rw [e]
  exact cntN_ext fun i hi => mk_bit hi
/-- pairs -/
def prN (g : Nat → Nat → Bool) (n : Nat) : Nat := sumN (fun a => cntN (fun b => decide (a < b) && g a b) n) n
theorem prN_two {g : Nat → Nat → Bool} (hs : ∀ a b, g a b = g b a) (hi : ∀ a, g a a = false) : ∀ n, sumN (fun a => cntN (g a) n) n = 2 * prN g n := by
  intro n
  induction n with
  | zero => rfl
  | succ n ih =>
    unfold prN at ih ⊢
    rw [sumN, sumN]
    have e1 : sumN (fun a => cntN (g a) (n + 1)) n = sumN (fun a => cntN (g a) n) n + cntN (g n) n := by
      rw [cntN_sum (g n), ← sumN_add]
      refine sumN_ext fun a ha => ?_
      rw [cntN, hs a n]
    have e2 : sumN (fun a => cntN (fun b => decide (a < b) && g a b) (n + 1)) n = sumN (fun a => cntN (fun b => decide (a < b) && g a b) n) n + cntN (g n) n := by
      rw [cntN_sum (g n), ← sumN_add]
      refine sumN_ext fun a ha => ?_
      rw [cntN]
      simp only [ha, decide_true, Bool.true_and, hs a n]
    have e3 : cntN (g n) (n + 1) = cntN (g n) n := by rw [cntN, hi n]; rfl
    have e4 : cntN (fun b => decide (n < b) && g n b) (n + 1) = 0 := cntN_false fun b hb => by rw [decide_eq_false (show ¬ n < b by omega), Bool.false_and]
    rw [e1, e2, e3, e4, ih]
    omega
/-! the machine's count of bits -/
theorem i31u : ∀ i : Nat, i < 31 → ((Int32.ofNat i).toUInt32 &&& Int32.toUInt32 31).toBitVec.toNat % 32 = i := by decide +kernel
theorem iushr_nat {a i : Nat} (ha : a < 2 ^ 31) (hi : i < 31) : iushr a i = ((a >>> i : Nat) : Int) := by
  have e : ((Int32.ofNat a).toUInt32 >>> ((Int32.ofNat i).toUInt32 &&& Int32.toUInt32 31)).toInt32 = Int32.ofNat (a >>> i) := Int32.toBitVec_inj.mp (by
    show (BitVec.ofNat 32 a) >>> (((Int32.ofNat i).toUInt32 &&& Int32.toUInt32 31).toBitVec.umod 32#32) = BitVec.ofNat 32 (a >>> i)
    apply BitVec.eq_of_toNat_eq
    have h := i31u i hi
    rw [BitVec.toNat_ofNat, BitVec.ushiftRight_eq', BitVec.toNat_ushiftRight, BitVec.toNat_ofNat, Nat.mod_eq_of_lt (by omega), Nat.mod_eq_of_lt (Nat.lt_of_le_of_lt (Nat.shiftRight_le a i) (by omega))]
    rw [show (((Int32.ofNat i).toUInt32 &&& Int32.toUInt32 31).toBitVec.umod 32#32).toNat = i from h])
  rw [iushr, iI_cast, iI_cast, e, oN_toInt (Nat.lt_of_le_of_lt (Nat.shiftRight_le a i) ha)]
def bcn1 (m : Nat) : Nat := m - ((m >>> 1) &&& 1431655765)
def bcn2 (m : Nat) : Nat := (m &&& 858993459) + ((m >>> 2) &&& 858993459)
def bcn3 (m : Nat) : Nat := (m + m >>> 4) &&& 252645135
def bcn (m : Nat) : Nat := (bcn3 (bcn2 (bcn1 m)) + bcn3 (bcn2 (bcn1 m)) >>> 8 + (bcn3 (bcn2 (bcn1 m)) + bcn3 (bcn2 (bcn1 m)) >>> 8) >>> 16) &&& 63
def bck (a : Nat) : Nat → Bool
  | 0 => true
  | b + 1 => Nat.beq (bcn (128 * a + b)) (cntN (128 * a + b).testBit 14) && bck a b
def bcK : Nat → Bool
  | 0 => true
  | a + 1 => bck a 128 && bcK a
theorem bcK_ok : bcK 128 = true := by decide +kernel
theorem bck_at {a : Nat} : ∀ {n b : Nat}, bck a n = true → b < n → bcn (128 * a + b) = cntN (128 * a + b).testBit 14 := by
  intro n b
  induction n with
  | zero => intro _ h; omega
  | succ n ih =>
    intro h hb
    rw [bck, Bool.and_eq_true] at h
    by_cases e : b = n
    · subst e; exact Nat.eq_of_beq_eq_true h.1
    · exact ih h.2 (by omega)
theorem bcK_at : ∀ {n a : Nat}, bcK n = true → a < n → bck a 128 = true := by
  intro n a
  induction n with
  | zero => intro _ h; omega
  | succ n ih =>
    intro h hb
    rw [bcK, Bool.and_eq_true] at h
    by_cases e : a = n
    · subst e; exact h.1
    · exact ih h.2 (by omega)
theorem bcn_ok {m : Nat} (h : m < 2 ^ 14) : bcn m = cntN m.testBit 14 := by
  have e := bck_at (b := m % 128) (bcK_at (a := m / 128) bcK_ok (by omega)) (by omega)
  rw [show 128 * (m / 128) + m % 128 = m by omega] at e
  exact e
theorem bc_int {m : Nat} {v : Int} (h : m < 2 ^ 14) (hv : v = (m : Int)) : iand (iand (v - iand (iushr v 1) 1431655765) 858993459 + iand (iushr (v - iand (iushr v 1) 1431655765) 2) 858993459 + iushr (iand (v - iand (iushr v 1) 1431655765) 858993459 + iand (iushr (v - iand (iushr v 1) 1431655765) 2) 858993459) 4) 252645135 = ((bcn3 (bcn2 (bcn1 m)) : Nat) : Int) := by
  have a1 : iand (iushr v 1) 1431655765 = (((m >>> 1) &&& 1431655765 : Nat) : Int) := by
    rw [hv, show (1 : Int) = ((1 : Nat) : Int) from rfl, iushr_nat (by omega) (by decide), show (1431655765 : Int) = ((1431655765 : Nat) : Int) from rfl, iand_nat (Nat.lt_of_le_of_lt (Nat.shiftRight_le m 1) (by omega))]
  have a2 : (m >>> 1) &&& 1431655765 ≤ m := Nat.le_trans Nat.and_le_left (Nat.shiftRight_le m 1)
  have a3 : v - iand (iushr v 1) 1431655765 = ((bcn1 m : Nat) : Int) := by rw [a1, hv]; unfold bcn1; omega
  have a4 : bcn1 m < 2 ^ 14 := by unfold bcn1; omega
  rw [a3]
  have a5 : iand ((bcn1 m : Nat) : Int) 858993459 + iand (iushr ((bcn1 m : Nat) : Int) 2) 858993459 = ((bcn2 (bcn1 m) : Nat) : Int) := by
    rw [show (2 : Int) = ((2 : Nat) : Int) from rfl, iushr_nat (by omega) (by decide), show (858993459 : Int) = ((858993459 : Nat) : Int) from rfl, iand_nat (by omega), iand_nat (Nat.lt_of_le_of_lt (Nat.shiftRight_le _ 2) (by omega))]
    unfold bcn2
    omega
  rw [a5]
  have a6 : bcn2 (bcn1 m) ≤ 2 ^ 15 := by
    unfold bcn2
    have h1 := @Nat.and_le_left (bcn1 m) 858993459
    have h2 := @Nat.and_le_left (bcn1 m >>> 2) 858993459
    have h3 := Nat.shiftRight_le (bcn1 m) 2
    omega
  have h4 := Nat.shiftRight_le (bcn2 (bcn1 m)) 4
  rw [show (4 : Int) = ((4 : Nat) : Int) from rfl, iushr_nat (by omega) (by decide), show ((bcn2 (bcn1 m) : Nat) : Int) + ((bcn2 (bcn1 m) >>> 4 : Nat) : Int) = ((bcn2 (bcn1 m) + bcn2 (bcn1 m) >>> 4 : Nat) : Int) by omega, show (252645135 : Int) = ((252645135 : Nat) : Int) from rfl, iand_nat (by omega)]
  rfl
theorem bc_int2 {m : Nat} {v : Int} (h : m ≤ 2 ^ 16) (hv : v = (m : Int)) : iand (v + iushr v 8 + iushr (v + iushr v 8) 16) 63 = (((m + m >>> 8 + (m + m >>> 8) >>> 16) &&& 63 : Nat) : Int) := by
  have h1 := Nat.shiftRight_le m 8
  have h2 := Nat.shiftRight_le (m + m >>> 8) 16
  have a1 : v + iushr v 8 = ((m + m >>> 8 : Nat) : Int) := by
    rw [hv, show (8 : Int) = ((8 : Nat) : Int) from rfl, iushr_nat (by omega) (by decide)]
    omega
  rw [a1, show (16 : Int) = ((16 : Nat) : Int) from rfl, iushr_nat (by omega) (by decide), show ((m + m >>> 8 : Nat) : Int) + (((m + m >>> 8) >>> 16 : Nat) : Int) = ((m + m >>> 8 + (m + m >>> 8) >>> 16 : Nat) : Int) by omega, show (63 : Int) = ((63 : Nat) : Int) from rfl, iand_nat (by omega)]
theorem x_bitCount {z : xZ} {d : Nat} {Q : tQ} {c : tC} {L : tL} {n : Nat} {f : Nat → Bool} {v : Int} (hn : n ≤ 14) (hv : v = ((mkN f n : Nat) : Int)) (k : ∀ r, r = ((cntN f n : Nat) : Int) → Q (some (.int (iI r))) c L) : En z (d + 1) MJ6_bitCount_0f7a4 Q 0 [some (.int (iI v))] [] c L := by
  refine r_iloadN 1 dJ6_bitCount_0f7a4_0 rfl rfl ?_
  refine r_iloadN 2 dJ6_bitCount_0f7a4_1 rfl rfl ?_
  refine r_iconst 3 dJ6_bitCount_0f7a4_2 rfl ?_
  refine r_iushr 4 dJ6_bitCount_0f7a4_3 rfl ?_
  refine r_ldcw (n := 1431655765) 7 dJ6_bitCount_0f7a4_4 rfl (kJ6_265 z) ?_
  refine r_iand 8 dJ6_bitCount_0f7a4_7 rfl ?_
  refine r_isub 9 dJ6_bitCount_0f7a4_8 rfl ?_
  refine r_istore0 10 dJ6_bitCount_0f7a4_9 rfl (by decide) ?_
  refine r_iloadN 11 dJ6_bitCount_0f7a4_10 rfl rfl ?_
  refine r_ldcw (n := 858993459) 14 dJ6_bitCount_0f7a4_11 rfl (kJ6_266 z) ?_
  refine r_iand 15 dJ6_bitCount_0f7a4_14 rfl ?_
  refine r_iloadN 16 dJ6_bitCount_0f7a4_15 rfl rfl ?_
  refine r_iconst 17 dJ6_bitCount_0f7a4_16 rfl ?_
  refine r_iushr 18 dJ6_bitCount_0f7a4_17 rfl ?_
  refine r_ldcw (n := 858993459) 21 dJ6_bitCount_0f7a4_18 rfl (kJ6_266 z) ?_
  refine r_iand 22 dJ6_bitCount_0f7a4_21 rfl ?_
  refine r_iadd 23 dJ6_bitCount_0f7a4_22 rfl ?_
  refine r_istore0 24 dJ6_bitCount_0f7a4_23 rfl (by decide) ?_
  refine r_iloadN 25 dJ6_bitCount_0f7a4_24 rfl rfl ?_
  refine r_iloadN 26 dJ6_bitCount_0f7a4_25 rfl rfl ?_
  refine r_iconst 27 dJ6_bitCount_0f7a4_26 rfl ?_
  refine r_iushr 28 dJ6_bitCount_0f7a4_27 rfl ?_
  refine r_iadd 29 dJ6_bitCount_0f7a4_28 rfl ?_
  refine r_ldcw (n := 252645135) 32 dJ6_bitCount_0f7a4_29 rfl (kJ6_267 z) ?_
  refine r_iand 33 dJ6_bitCount_0f7a4_32 rfl ?_
  refine r_istore0 34 dJ6_bitCount_0f7a4_33 rfl (by decide) ?_
  refine r_iloadN 35 dJ6_bitCount_0f7a4_34 rfl rfl ?_
  refine r_iloadN 36 dJ6_bitCount_0f7a4_35 rfl rfl ?_
  refine r_bipush 38 dJ6_bitCount_0f7a4_36 rfl (by decide) ?_
  refine r_iushr 39 dJ6_bitCount_0f7a4_38 rfl ?_
  refine r_iadd 40 dJ6_bitCount_0f7a4_39 rfl ?_
  refine r_istore0 41 dJ6_bitCount_0f7a4_40 rfl (by decide) ?_
  refine r_iloadN 42 dJ6_bitCount_0f7a4_41 rfl rfl ?_
  refine r_iloadN 43 dJ6_bitCount_0f7a4_42 rfl rfl ?_
  refine r_bipush 45 dJ6_bitCount_0f7a4_43 rfl (by decide) ?_
  refine r_iushr 46 dJ6_bitCount_0f7a4_45 rfl ?_
  refine r_iadd 47 dJ6_bitCount_0f7a4_46 rfl ?_
  refine r_istore0 48 dJ6_bitCount_0f7a4_47 rfl (by decide) ?_
  refine r_iloadN 49 dJ6_bitCount_0f7a4_48 rfl rfl ?_
  refine r_bipush 51 dJ6_bitCount_0f7a4_49 rfl (by decide) ?_
  refine r_iand 52 dJ6_bitCount_0f7a4_51 rfl ?_
  refine r_ret dJ6_bitCount_0f7a4_52 rfl (k _ ?_)
  have hm : mkN f n < 2 ^ 14 := Nat.lt_of_lt_of_le (mkN_lt f n) (Nat.pow_le_pow_right (by decide) hn)
  have h3 : bcn3 (bcn2 (bcn1 (mkN f n))) ≤ 2 ^ 16 := by
    have a1 : bcn1 (mkN f n) ≤ mkN f n := Nat.sub_le _ _
    have a2 : bcn2 (bcn1 (mkN f n)) ≤ 2 ^ 15 := by
      unfold bcn2
      have h1 := @Nat.and_le_left (bcn1 (mkN f n)) 858993459
      have h2 := @Nat.and_le_left (bcn1 (mkN f n) >>> 2) 858993459
      have h3 := Nat.shiftRight_le (bcn1 (mkN f n)) 2
      omega
    unfold bcn3
    have h1 := @Nat.and_le_left (bcn2 (bcn1 (mkN f n)) + bcn2 (bcn1 (mkN f n)) >>> 4) 252645135
    have h2 := Nat.shiftRight_le (bcn2 (bcn1 (mkN f n))) 4
    omega
  rw [bc_int2 h3 (bc_int hm hv)]
  show ((bcn (mkN f n) : Nat) : Int) = _
  rw [bcn_ok hm, pop_mk hn]
def fBeats (A : sA) (F : Nat → Bool) (n : Nat) : Nat := prN (fun a b => F a && F b && fBeat (A 21 a) (A 21 b)) n
theorem fBeats_two {A : sA} {F : Nat → Bool} {n : Nat} : sumN (fun a => if F a = true then cntN (fun b => F b && fBeat (A 21 a) (A 21 b)) n else 0) n = 2 * fBeats A F n := by
  unfold fBeats
  rw [← prN_two]
  · refine sumN_ext fun a _ => ?_
    cases h : F a with
    | true => rw [if_pos rfl]; exact cntN_ext fun b _ => by rw [Bool.true_and]
    | false => rw [if_neg (by decide)]; exact (cntN_false fun b _ => by rw [Bool.false_and, Bool.false_and]).symm
  · intro a b
    show (F a && F b && fBeat (A 21 a) (A 21 b)) = (F b && F a && fBeat (A 21 b) (A 21 a))
    rw [Bool.and_comm (F a), show fBeat (A 21 a) (A 21 b) = fBeat (A 21 b) (A 21 a) by unfold fBeat; rw [Int.max_comm]]
  · intro a
    show (F a && F a && fBeat (A 21 a) (A 21 a)) = false
    rw [show fBeat (A 21 a) (A 21 a) = false from decide_eq_false (by omega), Bool.and_false]
theorem x_beats_loop {z : xZ} {d : Nat} {Q : tQ} {c : tC} {L : tL} {n : Nat} {F : Nat → Bool} (hR : RX c) (hn : c 50 0 2 = (n : Int)) (kk : ∀ r, r = ((fBeats (c 51) F n : Nat) : Int) → Q (some (.int (iI r))) c L) : ∀ (k i : Nat) (m : Int), i + k = n → m = ((sumN (fun a => if F a = true then cntN (fun b => F b && fBeat (c 51 21 a) (c 51 21 b)) n else 0) i : Nat) : Int) → En z (d + 2) MX9_countBeats Q 4 [some (.ref (xad z 8 0)), some (.int (iI ((mkN F n : Nat) : Int))), some (.int (iI m)), some (.int (iI (i : Int)))] [] c L := by
  have hg := R0_rng hR
  have hc := R0_scal hR
  have hFl := mkN_lt31 F (show n ≤ 14 by omega)
  intro k
  induction k with
  | zero =>
    intro i m hi hm
    refine r_iloadN 5 dX9_countBeats_4 rfl rfl ?_
    refine r_aloadN 6 dX9_countBeats_5 rfl rfl ?_
    refine r_geti 9 dX9_countBeats_6 rfl fX9_18 (by decide) (sh_8 z _) rfl ?_
    refine r_icge 43 12 dX9_countBeats_9 rfl (by decide) (by omega) (by omega) (fun h9 => ?_) (fun h9 => ?_)
    · have hb2 : sumN (fun a => if F a = true then cntN (fun b => F b && fBeat (c 51 21 a) (c 51 21 b)) n else 0) i ≤ i * 14 := sumN_le fun a _ => by
        split
        · exact Nat.le_trans (cntN_le _ n) (by omega)
        · omega
      refine r_iloadN 44 dX9_countBeats_43 rfl rfl ?_
      refine r_iconst 45 dX9_countBeats_44 rfl ?_
      refine r_idiv 46 dX9_countBeats_45 rfl (by omega) (by omega) ?_
      refine r_ret dX9_countBeats_46 rfl (kk _ ?_)
      rw [hm, show i = n by omega, fBeats_two]
      omega
    · exfalso; omega
  | succ k ih =>
    intro i m hi hm
    refine r_iloadN 5 dX9_countBeats_4 rfl rfl ?_
    refine r_aloadN 6 dX9_countBeats_5 rfl rfl ?_
    refine r_geti 9 dX9_countBeats_6 rfl fX9_18 (by decide) (sh_8 z _) rfl ?_
    refine r_icge 43 12 dX9_countBeats_9 rfl (by decide) (by omega) (by omega) (fun h9 => ?_) (fun h9 => ?_)
    · exfalso; omega
    · refine r_iloadN 13 dX9_countBeats_12 rfl rfl ?_
      refine r_iloadN 14 dX9_countBeats_13 rfl rfl ?_
      refine r_cs2 17 dX9_countBeats_14 rfl gX9_156 (Nat.le_of_ble_eq_true rfl) (Nat.le_of_ble_eq_true rfl) rfl ?_
      refine x_hasBit hFl (by omega) (fun y14 => ?_) (fun y14 => ?_)
      · refine r_ifeqF 20 dX9_countBeats_17 rfl 37 (by decide) (by decide) (by decide) ?_
        refine r_iloadN 21 dX9_countBeats_20 rfl rfl ?_
        refine r_iloadN 22 dX9_countBeats_21 rfl rfl ?_
        refine r_aloadN 23 dX9_countBeats_22 rfl rfl ?_
        refine r_getq 26 dX9_countBeats_23 rfl fX9_38 (by decide) (sh_8 z _) rfl ?_
        refine r_iloadN 27 dX9_countBeats_26 rfl rfl ?_
        refine r_aald 28 dX9_countBeats_27 (i) rfl rfl (by decide) (sh_10a z) rfl (by decide) (by omega) (by omega) ?_
        refine r_geti 31 dX9_countBeats_28 rfl fX9_118 (ct_13 (by omega)) (sh_13 z _) rfl ?_
        refine r_iand 32 dX9_countBeats_31 rfl ?_
        have hbt := R0_beat hR i (by omega)
        rw [hn, Int.toNat_natCast] at hbt
        refine r_cs1 35 dX9_countBeats_32 rfl gX9_212 (Nat.le_of_ble_eq_true rfl) (Nat.le_of_ble_eq_true rfl) rfl ?_
        refine x_bitCount (n := n) (by omega) (iand_mk (by omega) rfl hbt) (fun r32 e32 => ?_)
        refine r_iadd 36 dX9_countBeats_35 rfl ?_
        refine r_istore2 37 dX9_countBeats_36 rfl rfl (by decide) ?_
        refine r_iinc3 40 dX9_countBeats_37 rfl rfl (by decide) ?_
        refine r_goto 4 dX9_countBeats_40 (by decide) ?_
        refine ih (i + 1) _ (by omega) ?_
        rw [mk_bit (by omega)] at y14
        first
          | (rw [hm, sumN, if_pos y14, e32]; exact (Int.natCast_add _ _).symm)
          | (rw [hm, sumN, if_neg (by rw [y14]; decide)]; rfl)
      · refine r_ifeqT 37 0 dX9_countBeats_17 (by decide) (by decide) (by decide) ?_
        refine r_iinc3 40 dX9_countBeats_37 rfl rfl (by decide) ?_
        refine r_goto 4 dX9_countBeats_40 (by decide) ?_
        refine ih (i + 1) _ (by omega) ?_
        rw [mk_bit (by omega)] at y14
        first
          | (rw [hm, sumN, if_pos y14, e32]; exact (Int.natCast_add _ _).symm)
          | (rw [hm, sumN, if_neg (by rw [y14]; decide)]; rfl)
theorem x_countBeats {z : xZ} {d : Nat} {Q : tQ} {c : tC} {L : tL} {n : Nat} {F : Nat → Bool} (hR : RX c) (hn : c 50 0 2 = (n : Int)) (k : ∀ r, r = ((fBeats (c 51) F n : Nat) : Int) → Q (some (.int (iI r))) c L) : En z (d + 2) MX9_countBeats Q 0 [some (.ref (xad z 8 0)), some (.int (iI ((mkN F n : Nat) : Int))), none, none] [] c L := by
  have hg := R0_rng hR
  have hc := R0_scal hR
  refine r_iconst 1 dX9_countBeats_0 rfl ?_
  refine r_istore2 2 dX9_countBeats_1 rfl rfl (by decide) ?_
  refine r_iconst 3 dX9_countBeats_2 rfl ?_
  refine r_istore3 4 dX9_countBeats_3 rfl rfl (by decide) ?_
  exact x_beats_loop (F := F) hR hn k n 0 _ (by omega) rfl
def fLet (S : sS) (A : sA) (w : Int) (i : Nat) : Bool := decide (A 11 5 ≤ A 36 i) && (if w = 1 then decide (A 37 i < A 11 5) else if w = 2 then decide (fHeard S A (A 35 i).toNat (A 14 (A 35 i).toNat) (A 36 i) = 0) else true)
theorem x_letters_loop {z : xZ} {d : Nat} {Q : tQ} {c : tC} {L : tL} {n : Nat} {w : Int} (hR : RX c) (hn : c 50 0 2 = (n : Int)) (hw : 0 ≤ w ∧ w ≤ 2) (kk : ∀ r, r = ((cntN (fLet (c 50 0) (c 51) w) (c 50 0 5).toNat : Nat) : Int) → Q (some (.int (iI r))) c L) : ∀ (k i : Nat) (m : Int) (v4 : Option Value), i + k = c 50 0 5 → m = ((cntN (fLet (c 50 0) (c 51) w) i : Nat) : Int) → En z (d + 6) MX9_countLetters Q 4 [some (.ref (xad z 8 0)), some (.int (iI w)), some (.int (iI m)), some (.int (iI (i : Int))), v4] [] c L := by
  have hg := R0_rng hR
  have hc := R0_scal hR
  have hlw := R0_law hR
  intro k
  induction k with
  | zero =>
    intro i m v4 hi hm
    refine r_iloadN 5 dX9_countLetters_4 rfl rfl ?_
    refine r_aloadN 6 dX9_countLetters_5 rfl rfl ?_
    refine r_getq 9 dX9_countLetters_6 rfl fX9_58 (by decide) (sh_8 z _) rfl ?_
    refine r_geti 12 dX9_countLetters_9 rfl fX9_228 (by decide) (sh_21 z _) rfl ?_
    refine r_icge 134 15 dX9_countLetters_12 rfl (by decide) (by omega) (by omega) (fun h12 => ?_) (fun h12 => ?_)
    · refine r_iloadN 135 dX9_countLetters_134 rfl rfl ?_
      refine r_ret dX9_countLetters_135 rfl (kk _ ?_)
      rw [hm, show i = (c 50 0 5).toNat by omega]
    · exfalso; omega
  | succ k ih =>
    intro i m v4 hi hm
    have hl := R0_let hR i (by omega)
    obtain ⟨p0, hp0⟩ := Int.eq_ofNat_of_zero_le hl.2.1.1
    refine r_iloadN 5 dX9_countLetters_4 rfl rfl ?_
    refine r_aloadN 6 dX9_countLetters_5 rfl rfl ?_
    refine r_getq 9 dX9_countLetters_6 rfl fX9_58 (by decide) (sh_8 z _) rfl ?_
    refine r_geti 12 dX9_countLetters_9 rfl fX9_228 (by decide) (sh_21 z _) rfl ?_
    refine r_icge 134 15 dX9_countLetters_12 rfl (by decide) (by omega) (by omega) (fun h12 => ?_) (fun h12 => ?_)
    · exfalso; omega
    · refine r_aloadN 16 dX9_countLetters_15 rfl rfl ?_
      refine r_getq 19 dX9_countLetters_16 rfl fX9_58 (by decide) (sh_8 z _) rfl ?_
      refine r_getq 22 dX9_countLetters_19 rfl fX9_231 (by decide) (sh_21 z _) rfl ?_
      refine r_iloadN 23 dX9_countLetters_22 rfl rfl ?_
      refine r_iald 24 dX9_countLetters_23 (i) rfl rfl (by decide) (sh_23 z _) (by decide) (by omega) (by omega) ?_
      refine r_aloadN 25 dX9_countLetters_24 rfl rfl ?_
      refine r_getq 28 dX9_countLetters_25 rfl fX9_69 (by decide) (sh_8 z _) rfl ?_
      refine r_iconst 29 dX9_countLetters_28 rfl ?_
      refine r_iald 30 dX9_countLetters_29 (5) rfl rfl (by decide) (sh_27 z _) (by decide) (by omega) (by omega) ?_
      refine r_iclt 37 33 dX9_countLetters_30 rfl (by decide) (by omega) (by omega) (fun h30 => ?_) (fun h30 => ?_)
      · refine r_iconst 38 dX9_countLetters_37 rfl ?_
        refine r_istore4 40 dX9_countLetters_38 rfl rfl (by decide) ?_
        refine r_iloadN 41 dX9_countLetters_40 rfl rfl ?_
        refine r_iconst 42 dX9_countLetters_41 rfl ?_
        refine r_icne 78 45 dX9_countLetters_42 rfl (by decide) (by omega) (by omega) (fun h42 => ?_) (fun h42 => ?_)
        · refine r_iloadN 79 dX9_countLetters_78 rfl rfl ?_
          refine r_iconst 80 dX9_countLetters_79 rfl ?_
          refine r_icne 120 83 dX9_countLetters_80 rfl (by decide) (by omega) (by omega) (fun h80 => ?_) (fun h80 => ?_)
          · refine r_iload 122 dX9_countLetters_120 rfl rfl ?_
            refine r_ifeqT 128 0 dX9_countLetters_122 (by decide) (by decide) (by decide) ?_
            refine r_iinc3 131 dX9_countLetters_128 rfl rfl (by decide) ?_
            refine r_goto 4 dX9_countLetters_131 (by decide) ?_
            refine ih (i + 1) _ _ (by omega) ?_
            rw [cntN]
            first
              | (rw [if_pos (by unfold fLet; rw [decide_eq_true (by omega), Bool.true_and]; first
                    | (rw [if_pos (by omega)]; exact decide_eq_true (by omega))
                    | (rw [if_neg (by omega), if_neg (by omega)]; done)
                    | (rw [if_neg (by omega), if_pos (by omega), hp0, Int.toNat_natCast]; rw [e107, show c 23 0 i = c 51 36 i by omega] at h110; exact decide_eq_true (by omega)))]; omega)
              | (rw [if_neg (by
                    intro hq
                    unfold fLet at hq
                    rw [Bool.and_eq_true] at hq
                    first
                      | exact absurd (of_decide_eq_true hq.1) (by omega)
                      | (rw [if_pos (by omega)] at hq; exact absurd (of_decide_eq_true hq.2) (by omega))
                      | (rw [if_neg (by omega), if_pos (by omega), hp0, Int.toNat_natCast] at hq; rw [e107, show c 23 0 i = c 51 36 i by omega] at h110; exact absurd (of_decide_eq_true hq.2) (by omega)))]; omega)
          · refine r_iload 85 dX9_countLetters_83 rfl rfl ?_
            refine r_ifeqT 117 0 dX9_countLetters_85 (by decide) (by decide) (by decide) ?_
            refine r_iconst 118 dX9_countLetters_117 rfl ?_
            refine r_istore4 120 dX9_countLetters_118 rfl rfl (by decide) ?_
            refine r_iload 122 dX9_countLetters_120 rfl rfl ?_
            refine r_ifeqT 128 0 dX9_countLetters_122 (by decide) (by decide) (by decide) ?_
            refine r_iinc3 131 dX9_countLetters_128 rfl rfl (by decide) ?_
            refine r_goto 4 dX9_countLetters_131 (by decide) ?_
            refine ih (i + 1) _ _ (by omega) ?_
            rw [cntN]
            first
              | (rw [if_pos (by unfold fLet; rw [decide_eq_true (by omega), Bool.true_and]; first
                    | (rw [if_pos (by omega)]; exact decide_eq_true (by omega))
                    | (rw [if_neg (by omega), if_neg (by omega)]; done)
                    | (rw [if_neg (by omega), if_pos (by omega), hp0, Int.toNat_natCast]; rw [e107, show c 23 0 i = c 51 36 i by omega] at h110; exact decide_eq_true (by omega)))]; omega)
              | (rw [if_neg (by
                    intro hq
                    unfold fLet at hq
                    rw [Bool.and_eq_true] at hq
                    first
                      | exact absurd (of_decide_eq_true hq.1) (by omega)
                      | (rw [if_pos (by omega)] at hq; exact absurd (of_decide_eq_true hq.2) (by omega))
                      | (rw [if_neg (by omega), if_pos (by omega), hp0, Int.toNat_natCast] at hq; rw [e107, show c 23 0 i = c 51 36 i by omega] at h110; exact absurd (of_decide_eq_true hq.2) (by omega)))]; omega)
        · refine r_iload 47 dX9_countLetters_45 rfl rfl ?_
          refine r_ifeqT 72 0 dX9_countLetters_47 (by decide) (by decide) (by decide) ?_
          refine r_iconst 73 dX9_countLetters_72 rfl ?_
          refine r_istore4 75 dX9_countLetters_73 rfl rfl (by decide) ?_
          refine r_goto 120 dX9_countLetters_75 (by decide) ?_
          refine r_iload 122 dX9_countLetters_120 rfl rfl ?_
          refine r_ifeqT 128 0 dX9_countLetters_122 (by decide) (by decide) (by decide) ?_
          refine r_iinc3 131 dX9_countLetters_128 rfl rfl (by decide) ?_
          refine r_goto 4 dX9_countLetters_131 (by decide) ?_
          refine ih (i + 1) _ _ (by omega) ?_
          rw [cntN]
          first
            | (rw [if_pos (by unfold fLet; rw [decide_eq_true (by omega), Bool.true_and]; first
                  | (rw [if_pos (by omega)]; exact decide_eq_true (by omega))
                  | (rw [if_neg (by omega), if_neg (by omega)]; done)
                  | (rw [if_neg (by omega), if_pos (by omega), hp0, Int.toNat_natCast]; rw [e107, show c 23 0 i = c 51 36 i by omega] at h110; exact decide_eq_true (by omega)))]; omega)
            | (rw [if_neg (by
                  intro hq
                  unfold fLet at hq
                  rw [Bool.and_eq_true] at hq
                  first
                    | exact absurd (of_decide_eq_true hq.1) (by omega)
                    | (rw [if_pos (by omega)] at hq; exact absurd (of_decide_eq_true hq.2) (by omega))
                    | (rw [if_neg (by omega), if_pos (by omega), hp0, Int.toNat_natCast] at hq; rw [e107, show c 23 0 i = c 51 36 i by omega] at h110; exact absurd (of_decide_eq_true hq.2) (by omega)))]; omega)
      · refine r_iconst 34 dX9_countLetters_33 rfl ?_
        refine r_goto 38 dX9_countLetters_34 (by decide) ?_
        refine r_istore4 40 dX9_countLetters_38 rfl rfl (by decide) ?_
        refine r_iloadN 41 dX9_countLetters_40 rfl rfl ?_
        refine r_iconst 42 dX9_countLetters_41 rfl ?_
        refine r_icne 78 45 dX9_countLetters_42 rfl (by decide) (by omega) (by omega) (fun h42 => ?_) (fun h42 => ?_)
        · refine r_iloadN 79 dX9_countLetters_78 rfl rfl ?_
          refine r_iconst 80 dX9_countLetters_79 rfl ?_
          refine r_icne 120 83 dX9_countLetters_80 rfl (by decide) (by omega) (by omega) (fun h80 => ?_) (fun h80 => ?_)
          · refine r_iload 122 dX9_countLetters_120 rfl rfl ?_
            refine r_ifeqF 125 dX9_countLetters_122 rfl 128 (by decide) (by decide) (by decide) ?_
            refine r_iinc2 128 dX9_countLetters_125 rfl rfl (by decide) ?_
            refine r_iinc3 131 dX9_countLetters_128 rfl rfl (by decide) ?_
            refine r_goto 4 dX9_countLetters_131 (by decide) ?_
            refine ih (i + 1) _ _ (by omega) ?_
            rw [cntN]
            first
              | (rw [if_pos (by unfold fLet; rw [decide_eq_true (by omega), Bool.true_and]; first
                    | (rw [if_pos (by omega)]; exact decide_eq_true (by omega))
                    | (rw [if_neg (by omega), if_neg (by omega)]; done)
                    | (rw [if_neg (by omega), if_pos (by omega), hp0, Int.toNat_natCast]; rw [e107, show c 23 0 i = c 51 36 i by omega] at h110; exact decide_eq_true (by omega)))]; omega)
              | (rw [if_neg (by
                    intro hq
                    unfold fLet at hq
                    rw [Bool.and_eq_true] at hq
                    first
                      | exact absurd (of_decide_eq_true hq.1) (by omega)
                      | (rw [if_pos (by omega)] at hq; exact absurd (of_decide_eq_true hq.2) (by omega))
                      | (rw [if_neg (by omega), if_pos (by omega), hp0, Int.toNat_natCast] at hq; rw [e107, show c 23 0 i = c 51 36 i by omega] at h110; exact absurd (of_decide_eq_true hq.2) (by omega)))]; omega)
          · refine r_iload 85 dX9_countLetters_83 rfl rfl ?_
            refine r_ifeqF 88 dX9_countLetters_85 rfl 117 (by decide) (by decide) (by decide) ?_
            refine r_aloadN 89 dX9_countLetters_88 rfl rfl ?_
            refine r_aloadN 90 dX9_countLetters_89 rfl rfl ?_
            refine r_getq 93 dX9_countLetters_90 rfl fX9_58 (by decide) (sh_8 z _) rfl ?_
            refine r_getq 96 dX9_countLetters_93 rfl fX9_237 (by decide) (sh_21 z _) rfl ?_
            refine r_iloadN 97 dX9_countLetters_96 rfl rfl ?_
            refine r_iald 98 dX9_countLetters_97 (i) rfl rfl (by decide) (sh_22 z _) (by decide) (by omega) (by omega) ?_
            refine r_aloadN 99 dX9_countLetters_98 rfl rfl ?_
            refine r_getq 102 dX9_countLetters_99 rfl fX9_58 (by decide) (sh_8 z _) rfl ?_
            refine r_getq 105 dX9_countLetters_102 rfl fX9_231 (by decide) (sh_21 z _) rfl ?_
            refine r_iloadN 106 dX9_countLetters_105 rfl rfl ?_
            refine r_iald 107 dX9_countLetters_106 (i) rfl rfl (by decide) (sh_23 z _) (by decide) (by omega) (by omega) ?_
            rw [show c 22 0 i = (p0 : Int) by omega]
            refine r_cv2 110 dX9_countLetters_107 rfl gX9_209 rfl (by decide) (sh_8 z _) rfl rfl (Nat.le_of_ble_eq_true rfl) (Nat.le_of_ble_eq_true rfl) rfl ?_
            refine x_heardBy hR hn (p := p0) (by omega) (by omega) (fun r107 e107 => ?_)
            refine r_ifne 117 113 dX9_countLetters_110 rfl (by decide) (by have := mkN_lt31 (fun s => fHear (c 51) p0 s (c 51 14 p0) && fSnd (c 50 0) (c 51) s (c 23 0 i)) (show n ≤ 14 by omega); unfold fHeard at e107; rw [hn, Int.toNat_natCast] at e107; omega) (fun h110 => ?_) (fun h110 => ?_)
            · refine r_iconst 118 dX9_countLetters_117 rfl ?_
              refine r_istore4 120 dX9_countLetters_118 rfl rfl (by decide) ?_
              refine r_iload 122 dX9_countLetters_120 rfl rfl ?_
              refine r_ifeqT 128 0 dX9_countLetters_122 (by decide) (by decide) (by decide) ?_
              refine r_iinc3 131 dX9_countLetters_128 rfl rfl (by decide) ?_
              refine r_goto 4 dX9_countLetters_131 (by decide) ?_
              refine ih (i + 1) _ _ (by omega) ?_
              rw [cntN]
              first
                | (rw [if_pos (by unfold fLet; rw [decide_eq_true (by omega), Bool.true_and]; first
                      | (rw [if_pos (by omega)]; exact decide_eq_true (by omega))
                      | (rw [if_neg (by omega), if_neg (by omega)]; done)
                      | (rw [if_neg (by omega), if_pos (by omega), hp0, Int.toNat_natCast]; rw [e107, show c 23 0 i = c 51 36 i by omega] at h110; exact decide_eq_true (by omega)))]; omega)
                | (rw [if_neg (by
                      intro hq
                      unfold fLet at hq
                      rw [Bool.and_eq_true] at hq
                      first
                        | exact absurd (of_decide_eq_true hq.1) (by omega)
                        | (rw [if_pos (by omega)] at hq; exact absurd (of_decide_eq_true hq.2) (by omega))
                        | (rw [if_neg (by omega), if_pos (by omega), hp0, Int.toNat_natCast] at hq; rw [e107, show c 23 0 i = c 51 36 i by omega] at h110; exact absurd (of_decide_eq_true hq.2) (by omega)))]; omega)
            · refine r_iconst 114 dX9_countLetters_113 rfl ?_
              refine r_goto 118 dX9_countLetters_114 (by decide) ?_
              refine r_istore4 120 dX9_countLetters_118 rfl rfl (by decide) ?_
              refine r_iload 122 dX9_countLetters_120 rfl rfl ?_
              refine r_ifeqF 125 dX9_countLetters_122 rfl 128 (by decide) (by decide) (by decide) ?_
              refine r_iinc2 128 dX9_countLetters_125 rfl rfl (by decide) ?_
              refine r_iinc3 131 dX9_countLetters_128 rfl rfl (by decide) ?_
              refine r_goto 4 dX9_countLetters_131 (by decide) ?_
              refine ih (i + 1) _ _ (by omega) ?_
              rw [cntN]
              first
                | (rw [if_pos (by unfold fLet; rw [decide_eq_true (by omega), Bool.true_and]; first
                      | (rw [if_pos (by omega)]; exact decide_eq_true (by omega))
                      | (rw [if_neg (by omega), if_neg (by omega)]; done)
                      | (rw [if_neg (by omega), if_pos (by omega), hp0, Int.toNat_natCast]; rw [e107, show c 23 0 i = c 51 36 i by omega] at h110; exact decide_eq_true (by omega)))]; omega)
                | (rw [if_neg (by
                      intro hq
                      unfold fLet at hq
                      rw [Bool.and_eq_true] at hq
                      first
                        | exact absurd (of_decide_eq_true hq.1) (by omega)
                        | (rw [if_pos (by omega)] at hq; exact absurd (of_decide_eq_true hq.2) (by omega))
                        | (rw [if_neg (by omega), if_pos (by omega), hp0, Int.toNat_natCast] at hq; rw [e107, show c 23 0 i = c 51 36 i by omega] at h110; exact absurd (of_decide_eq_true hq.2) (by omega)))]; omega)
        · refine r_iload 47 dX9_countLetters_45 rfl rfl ?_
          refine r_ifeqF 50 dX9_countLetters_47 rfl 72 (by decide) (by decide) (by decide) ?_
          refine r_aloadN 51 dX9_countLetters_50 rfl rfl ?_
          refine r_getq 54 dX9_countLetters_51 rfl fX9_58 (by decide) (sh_8 z _) rfl ?_
          refine r_getq 57 dX9_countLetters_54 rfl fX9_234 (by decide) (sh_21 z _) rfl ?_
          refine r_iloadN 58 dX9_countLetters_57 rfl rfl ?_
          refine r_iald 59 dX9_countLetters_58 (i) rfl rfl (by decide) (sh_24 z _) (by decide) (by omega) (by omega) ?_
          refine r_aloadN 60 dX9_countLetters_59 rfl rfl ?_
          refine r_getq 63 dX9_countLetters_60 rfl fX9_69 (by decide) (sh_8 z _) rfl ?_
          refine r_iconst 64 dX9_countLetters_63 rfl ?_
          refine r_iald 65 dX9_countLetters_64 (5) rfl rfl (by decide) (sh_27 z _) (by decide) (by omega) (by omega) ?_
          refine r_icge 72 68 dX9_countLetters_65 rfl (by decide) (by omega) (by omega) (fun h65 => ?_) (fun h65 => ?_)
          · refine r_iconst 73 dX9_countLetters_72 rfl ?_
            refine r_istore4 75 dX9_countLetters_73 rfl rfl (by decide) ?_
            refine r_goto 120 dX9_countLetters_75 (by decide) ?_
            refine r_iload 122 dX9_countLetters_120 rfl rfl ?_
            refine r_ifeqT 128 0 dX9_countLetters_122 (by decide) (by decide) (by decide) ?_
            refine r_iinc3 131 dX9_countLetters_128 rfl rfl (by decide) ?_
            refine r_goto 4 dX9_countLetters_131 (by decide) ?_
            refine ih (i + 1) _ _ (by omega) ?_
            rw [cntN]
            first
              | (rw [if_pos (by unfold fLet; rw [decide_eq_true (by omega), Bool.true_and]; first
                    | (rw [if_pos (by omega)]; exact decide_eq_true (by omega))
                    | (rw [if_neg (by omega), if_neg (by omega)]; done)
                    | (rw [if_neg (by omega), if_pos (by omega), hp0, Int.toNat_natCast]; rw [e107, show c 23 0 i = c 51 36 i by omega] at h110; exact decide_eq_true (by omega)))]; omega)
              | (rw [if_neg (by
                    intro hq
                    unfold fLet at hq
                    rw [Bool.and_eq_true] at hq
                    first
                      | exact absurd (of_decide_eq_true hq.1) (by omega)
                      | (rw [if_pos (by omega)] at hq; exact absurd (of_decide_eq_true hq.2) (by omega))
                      | (rw [if_neg (by omega), if_pos (by omega), hp0, Int.toNat_natCast] at hq; rw [e107, show c 23 0 i = c 51 36 i by omega] at h110; exact absurd (of_decide_eq_true hq.2) (by omega)))]; omega)
          · refine r_iconst 69 dX9_countLetters_68 rfl ?_
            refine r_goto 73 dX9_countLetters_69 (by decide) ?_
            refine r_istore4 75 dX9_countLetters_73 rfl rfl (by decide) ?_
            refine r_goto 120 dX9_countLetters_75 (by decide) ?_
            refine r_iload 122 dX9_countLetters_120 rfl rfl ?_
            refine r_ifeqF 125 dX9_countLetters_122 rfl 128 (by decide) (by decide) (by decide) ?_
            refine r_iinc2 128 dX9_countLetters_125 rfl rfl (by decide) ?_
            refine r_iinc3 131 dX9_countLetters_128 rfl rfl (by decide) ?_
            refine r_goto 4 dX9_countLetters_131 (by decide) ?_
            refine ih (i + 1) _ _ (by omega) ?_
            rw [cntN]
            first
              | (rw [if_pos (by unfold fLet; rw [decide_eq_true (by omega), Bool.true_and]; first
                    | (rw [if_pos (by omega)]; exact decide_eq_true (by omega))
                    | (rw [if_neg (by omega), if_neg (by omega)]; done)
                    | (rw [if_neg (by omega), if_pos (by omega), hp0, Int.toNat_natCast]; rw [e107, show c 23 0 i = c 51 36 i by omega] at h110; exact decide_eq_true (by omega)))]; omega)
              | (rw [if_neg (by
                    intro hq
                    unfold fLet at hq
                    rw [Bool.and_eq_true] at hq
                    first
                      | exact absurd (of_decide_eq_true hq.1) (by omega)
                      | (rw [if_pos (by omega)] at hq; exact absurd (of_decide_eq_true hq.2) (by omega))
                      | (rw [if_neg (by omega), if_pos (by omega), hp0, Int.toNat_natCast] at hq; rw [e107, show c 23 0 i = c 51 36 i by omega] at h110; exact absurd (of_decide_eq_true hq.2) (by omega)))]; omega)
theorem x_countLetters {z : xZ} {d : Nat} {Q : tQ} {c : tC} {L : tL} {n : Nat} {w : Int} (hR : RX c) (hn : c 50 0 2 = (n : Int)) (hw : 0 ≤ w ∧ w ≤ 2) (k : ∀ r, r = ((cntN (fLet (c 50 0) (c 51) w) (c 50 0 5).toNat : Nat) : Int) → Q (some (.int (iI r))) c L) : En z (d + 6) MX9_countLetters Q 0 [some (.ref (xad z 8 0)), some (.int (iI w)), none, none, none] [] c L := by
  have hg := R0_rng hR
  have hc := R0_scal hR
  refine r_iconst 1 dX9_countLetters_0 rfl ?_
  refine r_istore2 2 dX9_countLetters_1 rfl rfl (by decide) ?_
  refine r_iconst 3 dX9_countLetters_2 rfl ?_
  refine r_istore3 4 dX9_countLetters_3 rfl rfl (by decide) ?_
  exact x_letters_loop hR hn hw k (c 50 0 5).toNat 0 _ none (by omega) rfl
