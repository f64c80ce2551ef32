theorem bW_rng {n k : Nat} (h : n ≤ 30) (hk : k ≤ 31) : 0 ≤ bW n k ∧ bW n k ≤ 155117520 := bW_all n (by omega) k (by omega)
theorem bW_mul {n k : Nat} (h : n ≤ 30) (hk : k ≤ n) : 0 ≤ bW n k * ((n : Int) - k) ∧ bW n k * ((n : Int) - k) ≤ 155117520 * 30 := by
  have h1 := bW_rng h (show k ≤ 31 by omega)
  exact ⟨Int.mul_nonneg h1.1 (by omega), Int.mul_le_mul h1.2 (by omega) (by omega) (by decide)⟩
theorem x_lots_loop {z : xZ} {d : Nat} {Q : tQ} {c : tC} {L : tL} {n : Nat} {q : Int} (hn : n ≤ 30) (hq : 0 ≤ q ∧ q < 2147483648) (kk : ∀ r, r = bS n q (n + 1) → Q (some (.int (iI r))) c L) : ∀ (k i : Nat) (e w : Int), i + k = n + 1 → e = bS n q i → w = bW n i → En z (d + 1) MX10_lots Q 29 [some (.ref (xad z 0 0)), some (.int (iI (n : Int))), some (.int (iI q)), some (.int (iI e)), some (.int (iI w)), some (.int (iI (i : Int)))] [] c L := by
  intro k
  induction k with
  | zero =>
    intro i e w hi he hw
    refine r_iload 31 dX10_lots_29 rfl rfl ?_
    refine r_iloadN 32 dX10_lots_31 rfl rfl ?_
    refine r_icgt 70 35 dX10_lots_32 rfl (by decide) (by omega) (by omega) (fun h32 => ?_) (fun h32 => ?_)
    · refine r_iloadN 71 dX10_lots_70 rfl rfl ?_
      refine r_ret dX10_lots_71 rfl (kk _ ?_)
      rw [he, show i = n + 1 by omega]
    · exfalso; omega
  | succ k ih =>
    intro i e w hi he hw
    have hb := bW_rng hn (show i ≤ 31 by omega)
    rw [← hw] at hb
    refine r_iload 31 dX10_lots_29 rfl rfl ?_
    refine r_iloadN 32 dX10_lots_31 rfl rfl ?_
    refine r_icgt 70 35 dX10_lots_32 rfl (by decide) (by omega) (by omega) (fun h32 => ?_) (fun h32 => ?_)
    · exfalso; omega
    · refine r_iload 37 dX10_lots_35 rfl rfl ?_
      refine r_iloadN 38 dX10_lots_37 rfl rfl ?_
      refine r_iclt 46 41 dX10_lots_38 rfl (by decide) (by omega) (by omega) (fun h38 => ?_) (fun h38 => ?_)
      · refine r_iload 48 dX10_lots_46 rfl rfl ?_
        refine r_i2l 49 dX10_lots_48 rfl (by omega) ?_
        refine r_iloadN 50 dX10_lots_49 rfl rfl ?_
        refine r_iload 52 dX10_lots_50 rfl rfl ?_
        refine r_isub 53 dX10_lots_52 rfl ?_
        refine r_i2l 54 dX10_lots_53 rfl (by omega) ?_
        have hm := bW_mul hn (show i ≤ n by omega)
        rw [← hw] at hm
        refine r_lmul 55 dX10_lots_54 rfl ?_
        refine r_iload 57 dX10_lots_55 rfl rfl ?_
        refine r_iconst 58 dX10_lots_57 rfl ?_
        refine r_iadd 59 dX10_lots_58 rfl ?_
        refine r_i2l 60 dX10_lots_59 rfl (by omega) ?_
        refine r_ldiv 61 dX10_lots_60 rfl (by omega) (by omega) ?_
        refine r_l2i 62 dX10_lots_61 rfl ?_
        refine r_istore4 64 dX10_lots_62 rfl rfl (by decide) ?_
        refine r_iinc5 67 dX10_lots_64 rfl rfl (by decide) ?_
        refine r_goto 29 dX10_lots_67 (by decide) ?_
        refine ih (i + 1) _ _ (by omega) ?_ ?_
        · rw [bS, ← he, ← hw]
          first
            | (rw [if_pos (by omega)]; done)
            | (rw [if_neg (by omega), Int.add_zero]; done)
        · rw [bW, ← hw]
      · refine r_iloadN 42 dX10_lots_41 rfl rfl ?_
        refine r_iload 44 dX10_lots_42 rfl rfl ?_
        refine r_iadd 45 dX10_lots_44 rfl ?_
        refine r_istore3 46 dX10_lots_45 rfl rfl (by decide) ?_
        refine r_iload 48 dX10_lots_46 rfl rfl ?_
        refine r_i2l 49 dX10_lots_48 rfl (by omega) ?_
        refine r_iloadN 50 dX10_lots_49 rfl rfl ?_
        refine r_iload 52 dX10_lots_50 rfl rfl ?_
        refine r_isub 53 dX10_lots_52 rfl ?_
        refine r_i2l 54 dX10_lots_53 rfl (by omega) ?_
        have hm := bW_mul hn (show i ≤ n by omega)
        rw [← hw] at hm
        refine r_lmul 55 dX10_lots_54 rfl ?_
        refine r_iload 57 dX10_lots_55 rfl rfl ?_
        refine r_iconst 58 dX10_lots_57 rfl ?_
        refine r_iadd 59 dX10_lots_58 rfl ?_
        refine r_i2l 60 dX10_lots_59 rfl (by omega) ?_
        refine r_ldiv 61 dX10_lots_60 rfl (by omega) (by omega) ?_
        refine r_l2i 62 dX10_lots_61 rfl ?_
        refine r_istore4 64 dX10_lots_62 rfl rfl (by decide) ?_
        refine r_iinc5 67 dX10_lots_64 rfl rfl (by decide) ?_
        refine r_goto 29 dX10_lots_67 (by decide) ?_
        refine ih (i + 1) _ _ (by omega) ?_ ?_
        · rw [bS, ← he, ← hw]
          first
            | (rw [if_pos (by omega)]; done)
            | (rw [if_neg (by omega), Int.add_zero]; done)
        · rw [bW, ← hw]
theorem x_lots {z : xZ} {d : Nat} {Q : tQ} {c : tC} {L : tL} {n q : Int} (hn : inR n) (hq : inR q) (k : ∀ r w, (r, w) = gLots n q → Q (some (.int (iI r))) (xRe c w) L) : En z (d + 20) MX10_lots Q 0 [some (.ref (xad z 0 0)), some (.int (iI n)), some (.int (iI q)), none, none, none] [] c L := by
  have n1 := hn.1
  have n2 := hn.2
  have q1 := hq.1
  have q2 := hq.2
  refine r_iloadN 1 dX10_lots_0 rfl rfl ?_
  refine r_iconst 2 dX10_lots_1 rfl ?_
  refine r_bipush 4 dX10_lots_2 rfl (by decide) ?_
  refine r_cs3 7 dX10_lots_4 rfl gX10_137 (Nat.le_of_ble_eq_true rfl) (Nat.le_of_ble_eq_true rfl) rfl ?_
  refine x_isWithin (by assumption) (by omega) (by omega) (fun y4 => ?_) (fun y4 => ?_)
  · refine r_ifeqF 10 dX10_lots_7 rfl 14 (by decide) (by decide) (by decide) ?_
    refine r_iloadN 11 dX10_lots_10 rfl rfl ?_
    refine r_ifge 21 14 dX10_lots_11 rfl (by decide) (by omega) (fun h11 => ?_) (fun h11 => ?_)
    · obtain ⟨n0, hn00⟩ := Int.eq_ofNat_of_zero_le (show 0 ≤ n by omega)
      subst hn00
      refine r_iconst 22 dX10_lots_21 rfl ?_
      refine r_istore3 23 dX10_lots_22 rfl rfl (by decide) ?_
      refine r_iconst 24 dX10_lots_23 rfl ?_
      refine r_istore4 26 dX10_lots_24 rfl rfl (by decide) ?_
      refine r_iconst 27 dX10_lots_26 rfl ?_
      refine r_istore5 29 dX10_lots_27 rfl rfl (by decide) ?_
      exact x_lots_loop (by omega) (by omega) (fun r e => k r 0 (by unfold gLots; rw [if_neg (by omega), Int.toNat_natCast, e])) (n0 + 1) 0 _ _ (by omega) rfl rfl
    · refine r_aloadN 15 dX10_lots_14 rfl rfl ?_
      refine r_bipush 17 dX10_lots_15 rfl (by decide) ?_
      refine r_cv1 20 dX10_lots_17 rfl gX10_60 rfl (by decide) (sh_0 z _) rfl rfl (Nat.le_of_ble_eq_true rfl) (Nat.le_of_ble_eq_true rfl) rfl ?_
      refine x_refuse (k0 := 6) (by decide) (by decide) ?_
      refine r_ret dX10_lots_20 rfl (k _ 6 ?_)
      unfold gLots
      rw [if_pos (by omega)]
  · refine r_ifeqT 14 0 dX10_lots_7 (by decide) (by decide) (by decide) ?_
    refine r_aloadN 15 dX10_lots_14 rfl rfl ?_
    refine r_bipush 17 dX10_lots_15 rfl (by decide) ?_
    refine r_cv1 20 dX10_lots_17 rfl gX10_60 rfl (by decide) (sh_0 z _) rfl rfl (Nat.le_of_ble_eq_true rfl) (Nat.le_of_ble_eq_true rfl) rfl ?_
    refine x_refuse (k0 := 6) (by decide) (by decide) ?_
    refine r_ret dX10_lots_20 rfl (k _ 6 ?_)
    unfold gLots
    rw [if_pos (by omega)]
theorem m_lots_loop {z : xZ} {d : Nat} {Q : tQ} {c : tC} {L : tL} {n : Nat} {q : Int} (hn : n ≤ 30) (hq : 0 ≤ q ∧ q < 2147483648) (kk : ∀ r, r = bS n q (n + 1) → Q (some (.int (iI r))) c L) : ∀ (k i : Nat) (e w : Int), i + k = n + 1 → e = bS n q i → w = bW n i → En z (d + 1) MX11_lots Q 29 [some (.ref (xad z 50 0)), some (.int (iI (n : Int))), some (.int (iI q)), some (.long (lI w)), none, some (.long (lI e)), none, some (.int (iI (i : Int)))] [] c L := by
  intro k
  induction k with
  | zero =>
    intro i e w hi he hw
    refine r_iload 31 dX11_lots_29 rfl rfl ?_
    refine r_iloadN 32 dX11_lots_31 rfl rfl ?_
    refine r_icgt 67 35 dX11_lots_32 rfl (by decide) (by omega) (by omega) (fun h32 => ?_) (fun h32 => ?_)
    · refine r_lload 69 dX11_lots_67 rfl rfl ?_
      refine r_l2i 70 dX11_lots_69 rfl ?_
      refine r_ret dX11_lots_70 rfl (kk _ ?_)
      rw [he, show i = n + 1 by omega]
    · exfalso; omega
  | succ k ih =>
    intro i e w hi he hw
    have hb := bW_rng hn (show i ≤ 31 by omega)
    rw [← hw] at hb
    refine r_iload 31 dX11_lots_29 rfl rfl ?_
    refine r_iloadN 32 dX11_lots_31 rfl rfl ?_
    refine r_icgt 67 35 dX11_lots_32 rfl (by decide) (by omega) (by omega) (fun h32 => ?_) (fun h32 => ?_)
    · exfalso; omega
    · refine r_iload 37 dX11_lots_35 rfl rfl ?_
      refine r_iloadN 38 dX11_lots_37 rfl rfl ?_
      refine r_iclt 47 41 dX11_lots_38 rfl (by decide) (by omega) (by omega) (fun h38 => ?_) (fun h38 => ?_)
      · refine r_lloadN 48 dX11_lots_47 rfl rfl ?_
        refine r_iloadN 49 dX11_lots_48 rfl rfl ?_
        refine r_iload 51 dX11_lots_49 rfl rfl ?_
        refine r_isub 52 dX11_lots_51 rfl ?_
        refine r_i2l 53 dX11_lots_52 rfl (by omega) ?_
        have hm := bW_mul hn (show i ≤ n by omega)
        rw [← hw] at hm
        refine r_lmul 54 dX11_lots_53 rfl ?_
        refine r_iload 56 dX11_lots_54 rfl rfl ?_
        refine r_iconst 57 dX11_lots_56 rfl ?_
        refine r_iadd 58 dX11_lots_57 rfl ?_
        refine r_i2l 59 dX11_lots_58 rfl (by omega) ?_
        refine r_ldiv 60 dX11_lots_59 rfl (by omega) (by omega) ?_
        refine r_lstore3 61 dX11_lots_60 rfl rfl (by decide) ?_
        refine r_iinc7 64 dX11_lots_61 rfl rfl (by decide) ?_
        refine r_goto 29 dX11_lots_64 (by decide) ?_
        refine ih (i + 1) _ _ (by omega) ?_ ?_
        · rw [bS, ← he, ← hw]
          first
            | (rw [if_pos (by omega)]; done)
            | (rw [if_neg (by omega), Int.add_zero]; done)
        · rw [bW, ← hw]
      · refine r_lload 43 dX11_lots_41 rfl rfl ?_
        refine r_lloadN 44 dX11_lots_43 rfl rfl ?_
        refine r_ladd 45 dX11_lots_44 rfl ?_
        refine r_lstore5 47 dX11_lots_45 rfl rfl (by decide) ?_
        refine r_lloadN 48 dX11_lots_47 rfl rfl ?_
        refine r_iloadN 49 dX11_lots_48 rfl rfl ?_
        refine r_iload 51 dX11_lots_49 rfl rfl ?_
        refine r_isub 52 dX11_lots_51 rfl ?_
        refine r_i2l 53 dX11_lots_52 rfl (by omega) ?_
        have hm := bW_mul hn (show i ≤ n by omega)
        rw [← hw] at hm
        refine r_lmul 54 dX11_lots_53 rfl ?_
        refine r_iload 56 dX11_lots_54 rfl rfl ?_
        refine r_iconst 57 dX11_lots_56 rfl ?_
        refine r_iadd 58 dX11_lots_57 rfl ?_
        refine r_i2l 59 dX11_lots_58 rfl (by omega) ?_
        refine r_ldiv 60 dX11_lots_59 rfl (by omega) (by omega) ?_
        refine r_lstore3 61 dX11_lots_60 rfl rfl (by decide) ?_
        refine r_iinc7 64 dX11_lots_61 rfl rfl (by decide) ?_
        refine r_goto 29 dX11_lots_64 (by decide) ?_
        refine ih (i + 1) _ _ (by omega) ?_ ?_
        · rw [bS, ← he, ← hw]
          first
            | (rw [if_pos (by omega)]; done)
            | (rw [if_neg (by omega), Int.add_zero]; done)
        · rw [bW, ← hw]
theorem m_lots {z : xZ} {d : Nat} {Q : tQ} {c : tC} {L : tL} {n q : Int} (hn : inR n) (hq : inR q) (k : ∀ r w, (r, w) = gLots n q → Q (some (.int (iI r))) (mRe c w) L) : En z (d + 20) MX11_lots Q 0 [some (.ref (xad z 50 0)), some (.int (iI n)), some (.int (iI q)), none, none, none, none, none] [] c L := by
  have n1 := hn.1
  have n2 := hn.2
  have q1 := hq.1
  have q2 := hq.2
  refine r_iloadN 1 dX11_lots_0 rfl rfl ?_
  refine r_iflt 14 4 dX11_lots_1 rfl (by decide) (by omega) (fun h1 => ?_) (fun h1 => ?_)
  · refine r_aloadN 15 dX11_lots_14 rfl rfl ?_
    refine r_bipush 17 dX11_lots_15 rfl (by decide) ?_
    refine r_cv1 20 dX11_lots_17 rfl gX11_184 rfl (by decide) (sh_50 z _) rfl rfl (Nat.le_of_ble_eq_true rfl) (Nat.le_of_ble_eq_true rfl) rfl ?_
    refine m_no (k0 := 6) (by decide) (by decide) ?_
    refine r_ret dX11_lots_20 rfl (k _ 6 ?_)
    unfold gLots
    rw [if_pos (by omega)]
  · refine r_iloadN 5 dX11_lots_4 rfl rfl ?_
    refine r_bipush 7 dX11_lots_5 rfl (by decide) ?_
    refine r_icgt 14 10 dX11_lots_7 rfl (by decide) (by omega) (by omega) (fun h7 => ?_) (fun h7 => ?_)
    · refine r_aloadN 15 dX11_lots_14 rfl rfl ?_
      refine r_bipush 17 dX11_lots_15 rfl (by decide) ?_
      refine r_cv1 20 dX11_lots_17 rfl gX11_184 rfl (by decide) (sh_50 z _) rfl rfl (Nat.le_of_ble_eq_true rfl) (Nat.le_of_ble_eq_true rfl) rfl ?_
      refine m_no (k0 := 6) (by decide) (by decide) ?_
      refine r_ret dX11_lots_20 rfl (k _ 6 ?_)
      unfold gLots
      rw [if_pos (by omega)]
    · refine r_iloadN 11 dX11_lots_10 rfl rfl ?_
      refine r_ifge 21 14 dX11_lots_11 rfl (by decide) (by omega) (fun h11 => ?_) (fun h11 => ?_)
      · obtain ⟨n0, hn00⟩ := Int.eq_ofNat_of_zero_le (show 0 ≤ n by omega)
        subst hn00
        refine r_lconst 22 dX11_lots_21 rfl ?_
        refine r_lstore3 23 dX11_lots_22 rfl rfl (by decide) ?_
        refine r_lconst 24 dX11_lots_23 rfl ?_
        refine r_lstore5 26 dX11_lots_24 rfl rfl (by decide) ?_
        refine r_iconst 27 dX11_lots_26 rfl ?_
        refine r_istore7 29 dX11_lots_27 rfl rfl (by decide) ?_
        exact m_lots_loop (by omega) (by omega) (fun r e => k r 0 (by unfold gLots; rw [if_neg (by omega), Int.toNat_natCast, e])) (n0 + 1) 0 _ _ (by omega) rfl rfl
      · refine r_aloadN 15 dX11_lots_14 rfl rfl ?_
        refine r_bipush 17 dX11_lots_15 rfl (by decide) ?_
        refine r_cv1 20 dX11_lots_17 rfl gX11_184 rfl (by decide) (sh_50 z _) rfl rfl (Nat.le_of_ble_eq_true rfl) (Nat.le_of_ble_eq_true rfl) rfl ?_
        refine m_no (k0 := 6) (by decide) (by decide) ?_
        refine r_ret dX11_lots_20 rfl (k _ 6 ?_)
        unfold gLots
        rw [if_pos (by omega)]
theorem two_bits {m a b : Nat} (hm : m < 2 ^ 31) (ha : a < 31) (hb : b < 31) : iand (iand (ishr m a) (ishr m b)) 1 = if (m.testBit a && m.testBit b) = true then 1 else 0 := by
  have h1 : m >>> a < 2 ^ 31 := Nat.lt_of_le_of_lt (Nat.shiftRight_le m a) hm
  rw [ishr_nat hm ha, ishr_nat hm hb, iand_nat h1, show (1 : Int) = ((1 : Nat) : Int) from rfl, iand_nat (Nat.lt_of_le_of_lt Nat.and_le_left h1)]
  have e : ((m >>> a) &&& (m >>> b)) &&& 1 = (m.testBit a && m.testBit b).toNat := by
    rw [Nat.and_one_is_mod]
    have q : ((m >>> a) &&& (m >>> b)).testBit 0 = (m.testBit a && m.testBit b) := by rw [Nat.testBit_and, Nat.testBit_shiftRight, Nat.testBit_shiftRight]; rfl
    rw [← q, Nat.testBit_zero]
    rcases Nat.mod_two_eq_zero_or_one ((m >>> a) &&& (m >>> b)) with h | h <;> simp [h]
  rw [e]
  cases (m.testBit a && m.testBit b) <;> rfl
theorem m_bt2_loop {z : xZ} {d : Nat} {Q : tQ} {c : tC} {L : tL} {n s p : Nat} {h t : Int} {F : Nat → Bool} (hR : RX c) (hn : c 50 0 2 = (n : Int)) (hs : s < n) (kk : ∀ e v6, e = t + ((cntN (fun b => decide (s < b) && (fun a b => F a && F b && fBeat (c 51 21 a) (c 51 21 b)) s b) n : Nat) : Int) → En z (d + 3) MX11_beats Q 96 [some (.ref (xad z 50 0)), some (.int (iI (p : Int))), some (.int (iI h)), some (.int (iI ((mkN F n : Nat) : Int))), some (.int (iI e)), some (.int (iI (s : Int))), v6] [] c L) : ∀ (k i : Nat) (e : Int), i + k = n → s < i → e = t + ((cntN (fun b => decide (s < b) && (fun a b => F a && F b && fBeat (c 51 21 a) (c 51 21 b)) s b) i : Nat) : Int) → En z (d + 3) MX11_beats Q 52 [some (.ref (xad z 50 0)), some (.int (iI (p : Int))), some (.int (iI h)), some (.int (iI ((mkN F n : Nat) : Int))), some (.int (iI e)), some (.int (iI (s : Int))), some (.int (iI (i : Int)))] [] c L := by
  have hg := R0_rng hR
  have hc := R0_scal hR
  have hFl := mkN_lt31 F (show n ≤ 14 by omega)
  intro k
  induction k with
  | zero =>
    intro i e hi hsi he
    refine r_iload 54 dX11_beats_52 rfl rfl ?_
    refine r_aloadN 55 dX11_beats_54 rfl rfl ?_
    refine r_geti 58 dX11_beats_55 rfl fX11_174 (by decide) (sh_50 z _) rfl ?_
    refine r_icge 96 61 dX11_beats_58 rfl (by decide) (by omega) (by omega) (fun h58 => ?_) (fun h58 => ?_)
    · exact kk _ _ (by rw [he, show i = n by omega])
    · exfalso; omega
  | succ k ih =>
    intro i e hi hsi he
    refine r_iload 54 dX11_beats_52 rfl rfl ?_
    refine r_aloadN 55 dX11_beats_54 rfl rfl ?_
    refine r_geti 58 dX11_beats_55 rfl fX11_174 (by decide) (sh_50 z _) rfl ?_
    refine r_icge 96 61 dX11_beats_58 rfl (by decide) (by omega) (by omega) (fun h58 => ?_) (fun h58 => ?_)
    · exfalso; omega
    · refine r_iloadN 62 dX11_beats_61 rfl rfl ?_
      refine r_iload 64 dX11_beats_62 rfl rfl ?_
      refine r_ishr 65 dX11_beats_64 rfl ?_
      refine r_iloadN 66 dX11_beats_65 rfl rfl ?_
      refine r_iload 68 dX11_beats_66 rfl rfl ?_
      refine r_ishr 69 dX11_beats_68 rfl ?_
      refine r_iand 70 dX11_beats_69 rfl ?_
      refine r_iconst 71 dX11_beats_70 rfl ?_
      refine r_iand 72 dX11_beats_71 rfl ?_
      rw [two_bits hFl (by omega) (by omega), mk_bit (by omega), mk_bit (by omega)]
      refine r_iconst 73 dX11_beats_72 rfl ?_
      refine r_icne 90 76 dX11_beats_73 rfl (by decide) (by split <;> omega) (by omega) (fun h73 => ?_) (fun h73 => ?_)
      · refine r_iinc6 93 dX11_beats_90 rfl rfl (by decide) ?_
        refine r_goto 52 dX11_beats_93 (by decide) ?_
        refine ih (i + 1) _ (by omega) (by omega) ?_
        rw [cntN, decide_eq_true hsi, Bool.true_and]
        show _ = t + ((_ + (if (F s && F i && fBeat (c 51 21 s) (c 51 21 i)) = true then 1 else 0) : Nat) : Int)
        cases hFF : (F s && F i) with
        | false =>
          rw [hFF, if_neg (by decide)] at h73
          first
            | (exfalso; omega)
            | (rw [Bool.false_and, if_neg (by decide)]; omega)
        | true =>
          rw [hFF, if_pos rfl] at h73
          rw [Bool.true_and]
          first
            | (exfalso; omega)
            | (rw [y81, if_pos rfl]; omega)
            | (rw [y81, if_neg (by decide)]; omega)
      · refine r_aloadN 77 dX11_beats_76 rfl rfl ?_
        refine r_iload 79 dX11_beats_77 rfl rfl ?_
        refine r_iload 81 dX11_beats_79 rfl rfl ?_
        refine r_cv2 84 dX11_beats_81 rfl gX11_276 rfl (by decide) (sh_50 z _) rfl rfl (Nat.le_of_ble_eq_true rfl) (Nat.le_of_ble_eq_true rfl) rfl ?_
        refine m_beat hR hn (s := s) (o := i) (by omega) (by omega) (fun y81 => ?_) (fun y81 => ?_)
        · refine r_ifeqF 87 dX11_beats_84 rfl 90 (by decide) (by decide) (by decide) ?_
          refine r_iinc4 90 dX11_beats_87 rfl rfl (by decide) ?_
          refine r_iinc6 93 dX11_beats_90 rfl rfl (by decide) ?_
          refine r_goto 52 dX11_beats_93 (by decide) ?_
          refine ih (i + 1) _ (by omega) (by omega) ?_
          rw [cntN, decide_eq_true hsi, Bool.true_and]
          show _ = t + ((_ + (if (F s && F i && fBeat (c 51 21 s) (c 51 21 i)) = true then 1 else 0) : Nat) : Int)
          cases hFF : (F s && F i) with
          | false =>
            rw [hFF, if_neg (by decide)] at h73
            first
              | (exfalso; omega)
              | (rw [Bool.false_and, if_neg (by decide)]; omega)
          | true =>
            rw [hFF, if_pos rfl] at h73
            rw [Bool.true_and]
            first
              | (exfalso; omega)
              | (rw [y81, if_pos rfl]; omega)
              | (rw [y81, if_neg (by decide)]; omega)
        · refine r_ifeqT 90 0 dX11_beats_84 (by decide) (by decide) (by decide) ?_
          refine r_iinc6 93 dX11_beats_90 rfl rfl (by decide) ?_
          refine r_goto 52 dX11_beats_93 (by decide) ?_
          refine ih (i + 1) _ (by omega) (by omega) ?_
          rw [cntN, decide_eq_true hsi, Bool.true_and]
          show _ = t + ((_ + (if (F s && F i && fBeat (c 51 21 s) (c 51 21 i)) = true then 1 else 0) : Nat) : Int)
          cases hFF : (F s && F i) with
          | false =>
            rw [hFF, if_neg (by decide)] at h73
            first
              | (exfalso; omega)
              | (rw [Bool.false_and, if_neg (by decide)]; omega)
          | true =>
            rw [hFF, if_pos rfl] at h73
            rw [Bool.true_and]
            first
              | (exfalso; omega)
              | (rw [y81, if_pos rfl]; omega)
              | (rw [y81, if_neg (by decide)]; omega)
theorem m_bt1_loop {z : xZ} {d : Nat} {Q : tQ} {c : tC} {L : tL} {n p : Nat} {h : Int} {F : Nat → Bool} (hR : RX c) (hn : c 50 0 2 = (n : Int)) (kk : ∀ r, r = ((fBeats (c 51) F n : Nat) : Int) → Q (some (.int (iI r))) c L) : ∀ (k i : Nat) (e : Int) (v6 : Option Value), i + k = n → e = ((sumN (fun a => cntN (fun b => decide (a < b) && (fun a b => F a && F b && fBeat (c 51 21 a) (c 51 21 b)) a b) n) i : Nat) : Int) → En z (d + 3) MX11_beats Q 37 [some (.ref (xad z 50 0)), some (.int (iI (p : Int))), some (.int (iI h)), some (.int (iI ((mkN F n : Nat) : Int))), some (.int (iI e)), some (.int (iI (i : Int))), v6] [] c L := by
  have hg := R0_rng hR
  have hc := R0_scal hR
  intro k
  induction k with
  | zero =>
    intro i e v6 hi he
    refine r_iload 39 dX11_beats_37 rfl rfl ?_
    refine r_aloadN 40 dX11_beats_39 rfl rfl ?_
    refine r_geti 43 dX11_beats_40 rfl fX11_174 (by decide) (sh_50 z _) rfl ?_
    refine r_icge 102 46 dX11_beats_43 rfl (by decide) (by omega) (by omega) (fun h43 => ?_) (fun h43 => ?_)
    · refine r_iload 104 dX11_beats_102 rfl rfl ?_
      refine r_ret dX11_beats_104 rfl (kk _ ?_)
      rw [he, show i = n by omega]
      rfl
    · exfalso; omega
  | succ k ih =>
    intro i e v6 hi he
    refine r_iload 39 dX11_beats_37 rfl rfl ?_
    refine r_aloadN 40 dX11_beats_39 rfl rfl ?_
    refine r_geti 43 dX11_beats_40 rfl fX11_174 (by decide) (sh_50 z _) rfl ?_
    refine r_icge 102 46 dX11_beats_43 rfl (by decide) (by omega) (by omega) (fun h43 => ?_) (fun h43 => ?_)
    · exfalso; omega
    · refine r_iload 48 dX11_beats_46 rfl rfl ?_
      refine r_iconst 49 dX11_beats_48 rfl ?_
      refine r_iadd 50 dX11_beats_49 rfl ?_
      refine r_istore6 52 dX11_beats_50 rfl rfl (by decide) ?_
      refine m_bt2_loop hR hn (s := i) (by omega) (t := e) (fun e2 v6 he2 => ?_) (n - (i + 1)) (i + 1) _ (by omega) (by omega) (by rw [cntN_false (fun b hb => by rw [decide_eq_false (show ¬ i < b by omega), Bool.false_and])]; omega)
      refine r_iinc5 99 dX11_beats_96 rfl rfl (by decide) ?_
      refine r_goto 37 dX11_beats_99 (by decide) ?_
      refine ih (i + 1) _ _ (by omega) ?_
      rw [he2, he]
      exact (Int.natCast_add _ _).symm
theorem m_beats {z : xZ} {d : Nat} {Q : tQ} {c : tC} {L : tL} {n : Nat} {p h : Int} (hR : RX c) (hn : c 50 0 2 = (n : Int)) (hp : inR p) (hh : inR h) (k : ∀ r w, (r, w) = gBeats (c 50 0) (c 51) p h → Q (some (.int (iI r))) (mRe c w) L) : En z (d + 20) MX11_beats Q 0 [some (.ref (xad z 50 0)), some (.int (iI p)), some (.int (iI h)), none, none, none, none] [] c L := by
  have p1 := hp.1
  have p2 := hp.2
  have h1 := hh.1
  have h2 := hh.2
  have hg := R0_rng hR
  have hc := R0_scal hR
  refine r_aloadN 1 dX11_beats_0 rfl rfl ?_
  refine r_iloadN 2 dX11_beats_1 rfl rfl ?_
  refine r_cv1 5 dX11_beats_2 rfl gX11_197 rfl (by decide) (sh_50 z _) rfl rfl (Nat.le_of_ble_eq_true rfl) (Nat.le_of_ble_eq_true rfl) rfl ?_
  refine m_isPerson hR (by assumption) (fun y2 => ?_) (fun y2 => ?_)
  · refine r_ifeqF 8 dX11_beats_5 rfl 16 (by decide) (by decide) (by decide) ?_
    refine r_aloadN 9 dX11_beats_8 rfl rfl ?_
    refine r_iloadN 10 dX11_beats_9 rfl rfl ?_
    refine r_cv1 13 dX11_beats_10 rfl gX11_177 rfl (by decide) (sh_50 z _) rfl rfl (Nat.le_of_ble_eq_true rfl) (Nat.le_of_ble_eq_true rfl) rfl ?_
    refine m_isHour (by assumption) (fun y10 => ?_) (fun y10 => ?_)
    · refine r_ifneT 18 0 dX11_beats_13 (by decide) (by decide) (by decide) ?_
      obtain ⟨p0, hp00⟩ := Int.eq_ofNat_of_zero_le (show 0 ≤ p by omega)
      subst hp00
      have hpp := R0_per hR p0 (by omega)
      obtain ⟨sp, hsp⟩ := Int.eq_ofNat_of_zero_le (show 0 ≤ c 51 14 p0 by omega)
      refine r_aloadN 19 dX11_beats_18 rfl rfl ?_
      refine r_iloadN 20 dX11_beats_19 rfl rfl ?_
      refine r_aloadN 21 dX11_beats_20 rfl rfl ?_
      refine r_getq 24 dX11_beats_21 rfl fX11_29 (by decide) (sh_50 z _) rfl ?_
      refine r_iloadN 25 dX11_beats_24 rfl rfl ?_
      refine r_iald (n := 12) 26 dX11_beats_25 (p0) rfl rfl (by decide) (sh_51 z _) (by decide) (by omega) (by omega) ?_
      refine r_iloadN 27 dX11_beats_26 rfl rfl ?_
      rw [hsp]
      refine r_cv3 30 dX11_beats_27 rfl gX11_299 rfl (by decide) (sh_50 z _) rfl rfl (Nat.le_of_ble_eq_true rfl) (Nat.le_of_ble_eq_true rfl) rfl ?_
      refine m_heard hR hn (p := p0) (sp := sp) (by omega) (by omega) (by omega) (fun r27 e27 => ?_)
      unfold fHeard at e27
      rw [hn, Int.toNat_natCast] at e27
      subst e27
      refine r_istore3 31 dX11_beats_30 rfl rfl (by decide) ?_
      refine r_iconst 32 dX11_beats_31 rfl ?_
      refine r_istore4 34 dX11_beats_32 rfl rfl (by decide) ?_
      refine r_iconst 35 dX11_beats_34 rfl ?_
      refine r_istore5 37 dX11_beats_35 rfl rfl (by decide) ?_
      exact m_bt1_loop hR hn (fun r e => k r 0 (by unfold gBeats; rw [if_pos (by omega), Int.toNat_natCast, hn, Int.toNat_natCast, hsp, e])) n 0 _ none (by omega) rfl
    · refine r_ifneF 16 dX11_beats_13 rfl 18 (by decide) (by decide) (by decide) ?_
      refine r_iconst 17 dX11_beats_16 rfl ?_
      refine r_ret dX11_beats_17 rfl (k _ 0 ?_)
      unfold gBeats
      rw [if_neg (by omega)]
      
  · refine r_ifeqT 16 0 dX11_beats_5 (by decide) (by decide) (by decide) ?_
    refine r_iconst 17 dX11_beats_16 rfl ?_
    refine r_ret dX11_beats_17 rfl (k _ 0 ?_)
    unfold gBeats
    rw [if_neg (by omega)]
    
