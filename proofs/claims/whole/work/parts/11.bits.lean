/-! ===== SETS AS BITS ===== -/
def mkN (f : Nat → Bool) : Nat → Nat
  | 0 => 0
  | n + 1 => mkN f n ||| (if f n then 2 ^ n else 0)
theorem mkN_bit (f : Nat → Bool) : ∀ n i, (mkN f n).testBit i = (decide (i < n) && f i) := by
  intro n
  induction n with
  | zero => intro i; simp [mkN]
  | succ n ih =>
    intro i
    rw [mkN, Nat.testBit_or, ih]
    by_cases h : i = n
    · subst h
      by_cases hf : f i = true
      · simp [hf, Nat.testBit_two_pow_self]
      · simp [hf]
    · have e : (if f n = true then 2 ^ n else 0).testBit i = false := by
        by_cases hf : f n = true
        · rw [if_pos hf, Nat.testBit_two_pow_of_ne (Ne.symm h)]
        · rw [if_neg hf, Nat.zero_testBit]
      rw [e, Bool.or_false]
      by_cases h2 : i < n
      · simp [h2, Nat.lt_succ_of_lt h2]
      · have : ¬ i < n + 1 := by omega
        simp [h2, this]
theorem mkN_lt (f : Nat → Bool) (n : Nat) : mkN f n < 2 ^ n := Nat.lt_pow_two_of_testBit _ fun i hi => by
  rw [mkN_bit]
  have : ¬ i < n := by omega
  simp [this]
theorem mkN_lt31 (f : Nat → Bool) {n : Nat} (h : n ≤ 14) : mkN f n < 2 ^ 31 := Nat.lt_of_lt_of_le (mkN_lt f n) (Nat.pow_le_pow_right (by decide) (by omega))
theorem mkN_ext {f g : Nat → Bool} {n : Nat} (h : ∀ i, i < n → f i = g i) : mkN f n = mkN g n := Nat.eq_of_testBit_eq fun i => by
  rw [mkN_bit, mkN_bit]
  by_cases hi : i < n
  · rw [h i hi]
  · simp [hi]
theorem mkN_of {m n : Nat} (h : m < 2 ^ n) : m = mkN (fun i => m.testBit i) n := Nat.eq_of_testBit_eq fun i => by
  rw [mkN_bit]
  by_cases hi : i < n
  · simp [hi]
  · have : m.testBit i = false := Nat.testBit_lt_two_pow (Nat.lt_of_lt_of_le h (Nat.pow_le_pow_right (by decide) (by omega)))
    simp [hi, this]
theorem iI_cast (n : Nat) : iI (n : Int) = Int32.ofNat n := Int32.ofInt_eq_ofNat
theorem oN_toInt {n : Nat} (h : n < 2 ^ 31) : (Int32.ofNat n).toInt = n := Int32.toInt_ofNat_of_lt h
theorem oN_bv (n : Nat) : (Int32.ofNat n).toBitVec = BitVec.ofNat 32 n := rfl
theorem iand_nat {a b : Nat} (ha : a < 2 ^ 31) : iand a b = ((a &&& b : Nat) : Int) := by
  have e : Int32.ofNat a &&& Int32.ofNat b = Int32.ofNat (a &&& b) := Int32.toBitVec_inj.mp (by rw [Int32.toBitVec_and, oN_bv, oN_bv, oN_bv, BitVec.ofNat_and])
  rw [iand, iI_cast, iI_cast, e, oN_toInt (Nat.lt_of_le_of_lt Nat.and_le_left ha)]
theorem ior_nat {a b : Nat} (ha : a < 2 ^ 31) (hb : b < 2 ^ 31) : ior a b = ((a ||| b : Nat) : Int) := by
  have e : Int32.ofNat a ||| Int32.ofNat b = Int32.ofNat (a ||| b) := Int32.toBitVec_inj.mp (by rw [Int32.toBitVec_or, oN_bv, oN_bv, oN_bv, BitVec.ofNat_or])
  rw [ior, iI_cast, iI_cast, e, oN_toInt (Nat.or_lt_two_pow ha hb)]
theorem ishl_one : ∀ i : Nat, i < 31 → ishl 1 (i : Int) = ((2 ^ i : Nat) : Int) := by decide +kernel
theorem i31 : ∀ i : Nat, i < 31 → ((Int32.ofNat i &&& 31).toBitVec.smod 32).toNat = i := by decide +kernel
theorem ishr_nat {a i : Nat} (ha : a < 2 ^ 31) (hi : i < 31) : ishr a i = ((a >>> i : Nat) : Int) := by
  have e : Int32.ofNat a >>> (Int32.ofNat i &&& 31) = Int32.ofNat (a >>> i) := Int32.toBitVec_inj.mp (by
    show (BitVec.ofNat 32 a).sshiftRight ((Int32.ofNat i &&& 31).toBitVec.smod 32).toNat = BitVec.ofNat 32 (a >>> i)
    rw [i31 i hi, BitVec.sshiftRight_eq_of_msb_false]
    · apply BitVec.eq_of_toNat_eq
      rw [BitVec.toNat_ushiftRight, BitVec.toNat_ofNat, BitVec.toNat_ofNat, Nat.mod_eq_of_lt (by omega), Nat.mod_eq_of_lt]
      exact Nat.lt_of_le_of_lt (Nat.shiftRight_le a i) (by omega)
    · rw [BitVec.msb_eq_decide, BitVec.toNat_ofNat, Nat.mod_eq_of_lt (by omega)]
      simp; omega)
  rw [ishr, iI_cast, iI_cast, show (31 : Int32) = (31 : Int32) from rfl, e, oN_toInt (Nat.lt_of_le_of_lt (Nat.shiftRight_le a i) ha)]
theorem ibit {a i : Nat} (ha : a < 2 ^ 31) (hi : i < 31) : iand (ishr a i) 1 = if a.testBit i then 1 else 0 := by
  have h1 : a >>> i < 2 ^ 31 := Nat.lt_of_le_of_lt (Nat.shiftRight_le a i) ha
  rw [ishr_nat ha hi, show ((1 : Int)) = ((1 : Nat) : Int) from rfl, iand_nat h1]
  have e : (a >>> i) &&& 1 = (a.testBit i).toNat := by
    rw [Nat.and_one_is_mod, Nat.testBit, Nat.and_comm, Nat.and_one_is_mod]
    rcases Nat.mod_two_eq_zero_or_one (a >>> i) with h | h <;> simp [h]
  rw [e]
  cases a.testBit i <;> rfl
/-- a without b -/
def nand (a b : Nat) : Nat := a &&& ((2 ^ 31 - 1) ^^^ b)
theorem nand_bit {a : Nat} (ha : a < 2 ^ 31) (b i : Nat) : (nand a b).testBit i = (a.testBit i && !b.testBit i) := by
  rw [nand, Nat.testBit_and, Nat.testBit_xor, Nat.testBit_two_pow_sub_one]
  by_cases hi : i < 31
  · simp [hi]
  · have : a.testBit i = false := Nat.testBit_lt_two_pow (Nat.lt_of_lt_of_le ha (Nat.pow_le_pow_right (by decide) (by omega)))
    simp [this]
theorem inot_nat {a b : Nat} (ha : a < 2 ^ 31) (hb : b < 2 ^ 31) : iand a (ixor b (-1)) = ((nand a b : Nat) : Int) := by
  have e : Int32.ofNat a &&& iI (Int32.ofNat b ^^^ iI (-1)).toInt = Int32.ofNat (nand a b) := by
    rw [iI_of]
    refine Int32.toBitVec_inj.mp ?_
    rw [Int32.toBitVec_and, Int32.toBitVec_xor, oN_bv, oN_bv, oN_bv]
    apply BitVec.eq_of_getLsbD_eq
    intro i hi
    rw [BitVec.getLsbD_and, BitVec.getLsbD_xor, BitVec.getLsbD_ofNat, BitVec.getLsbD_ofNat, BitVec.getLsbD_ofNat, nand_bit ha]
    have h1 : (iI (-1)).toBitVec = BitVec.allOnes 32 := by decide +kernel
    rw [h1, BitVec.getLsbD_allOnes]
    simp [hi]
  have hlt : nand a b < 2 ^ 31 := Nat.lt_of_le_of_lt Nat.and_le_left ha
  rw [iand, ixor, iI_cast, iI_cast, e, oN_toInt hlt]
theorem nand_lt {a : Nat} (b n : Nat) (ha : a < n) : nand a b < n := Nat.lt_of_le_of_lt Nat.and_le_left ha
theorem mkN_and (f g : Nat → Bool) (n : Nat) : mkN f n &&& mkN g n = mkN (fun i => f i && g i) n := Nat.eq_of_testBit_eq fun i => by
  rw [Nat.testBit_and, mkN_bit, mkN_bit, mkN_bit]
  by_cases h : i < n <;> simp [h]
theorem mkN_or (f g : Nat → Bool) (n : Nat) : mkN f n ||| mkN g n = mkN (fun i => f i || g i) n := Nat.eq_of_testBit_eq fun i => by
  rw [Nat.testBit_or, mkN_bit, mkN_bit, mkN_bit]
  by_cases h : i < n <;> simp [h]
theorem mkN_true (n : Nat) : mkN (fun _ => true) n = 2 ^ n - 1 := Nat.eq_of_testBit_eq fun i => by
  rw [mkN_bit, Nat.testBit_two_pow_sub_one]; simp
theorem mkN_false (n : Nat) : mkN (fun _ => false) n = 0 := Nat.eq_of_testBit_eq fun i => by
  rw [mkN_bit, Nat.zero_testBit]; simp
theorem mkN_step (f : Nat → Bool) (n : Nat) (b : Bool) (h : f n = b) : mkN f (n + 1) = mkN f n ||| (if b then 2 ^ n else 0) := by rw [mkN, h]
theorem two_pow_lt31 {i : Nat} (h : i < 31) : 2 ^ i < 2 ^ 31 := Nat.pow_lt_pow_right (by decide) h
theorem ior_step {F : Nat → Bool} {i : Nat} {m : Int} (h : i < 31) (hm : m = ((mkN F i : Nat) : Int)) (hF : F i = true) : ior m ((2 ^ i : Nat) : Int) = ((mkN F (i + 1) : Nat) : Int) := by
  have h1 : mkN F i < 2 ^ 31 := Nat.lt_trans (mkN_lt F i) (two_pow_lt31 h)
  rw [hm, ior_nat h1 (two_pow_lt31 h), mkN, hF, if_pos rfl]
theorem mkN_skip {F : Nat → Bool} {i : Nat} {m : Int} (hm : m = ((mkN F i : Nat) : Int)) (hF : F i = false) : m = ((mkN F (i + 1) : Nat) : Int) := by
  rw [hm, mkN, hF, if_neg (by decide), Nat.or_zero]
theorem iand_mk {f g : Nat → Bool} {n : Nat} {a b : Int} (hn : n ≤ 14) (ha : a = ((mkN f n : Nat) : Int)) (hb : b = ((mkN g n : Nat) : Int)) : iand a b = ((mkN (fun i => f i && g i) n : Nat) : Int) := by
  rw [ha, hb, iand_nat (mkN_lt31 f hn), mkN_and]
theorem ior_mk {f g : Nat → Bool} {n : Nat} {a b : Int} (hn : n ≤ 14) (ha : a = ((mkN f n : Nat) : Int)) (hb : b = ((mkN g n : Nat) : Int)) : ior a b = ((mkN (fun i => f i || g i) n : Nat) : Int) := by
  rw [ha, hb, ior_nat (mkN_lt31 f hn) (mkN_lt31 g hn), mkN_or]
theorem inot_mk {f : Nat → Bool} {n b : Nat} {a z : Int} (hn : n ≤ 14) (ha : a = ((mkN f n : Nat) : Int)) (hb : b < 2 ^ 31) (hz : z = (b : Int)) : iand a (ixor z (-1)) = ((mkN (fun i => f i && !b.testBit i) n : Nat) : Int) := by
  rw [ha, hz, inot_nat (mkN_lt31 f hn) hb]
  congr 1
  apply Nat.eq_of_testBit_eq
  intro i
  rw [nand_bit (mkN_lt31 f hn), mkN_bit, mkN_bit, Bool.and_assoc]
theorem mk_bit {f : Nat → Bool} {n i : Nat} (h : i < n) : (mkN f n).testBit i = f i := by rw [mkN_bit]; simp [h]
theorem mk_zero {f : Nat → Bool} {n : Nat} : mkN f n = 0 ↔ ∀ i, i < n → f i = false := by
  constructor
  · intro h i hi
    rw [← mk_bit (f := f) hi, h, Nat.zero_testBit]
  · intro h
    rw [← mkN_false n]
    exact mkN_ext h
def fAny (f : Nat → Bool) : Nat → Bool
  | 0 => false
  | n + 1 => fAny f n || f n
theorem fAny_iff {f : Nat → Bool} : ∀ {n : Nat}, fAny f n = true ↔ ∃ i, i < n ∧ f i = true := by
  intro n
  induction n with
  | zero => simp [fAny]
  | succ n ih =>
    rw [fAny, Bool.or_eq_true, ih]
    constructor
    · rintro (⟨i, h1, h2⟩ | h)
      · exact ⟨i, by omega, h2⟩
      · exact ⟨n, by omega, h⟩
    · rintro ⟨i, h1, h2⟩
      by_cases e : i = n
      · exact Or.inr (e ▸ h2)
      · exact Or.inl ⟨i, by omega, h2⟩
theorem mk_any {f : Nat → Bool} {n : Nat} : decide (mkN f n = 0) = !fAny f n := by
  cases h : fAny f n
  · have : mkN f n = 0 := mk_zero.mpr fun i hi => by
      cases hf : f i
      · rfl
      · rw [fAny_iff.mpr ⟨i, hi, hf⟩] at h; cases h
    simp [this]
  · obtain ⟨i, h1, h2⟩ := fAny_iff.mp h
    have : ¬ mkN f n = 0 := fun e => by
      have := mk_zero.mp e i h1
      rw [h2] at this; cases this
    simp [this]
theorem ior_one {f : Nat → Bool} {n k : Nat} {m : Int} (hn : n ≤ 14) (hk : k < n) (hm : m = ((mkN f n : Nat) : Int)) : ior m ((2 ^ k : Nat) : Int) = ((mkN (fun s => if k = s then true else f s) n : Nat) : Int) := by
  rw [hm, ior_nat (mkN_lt31 f hn) (two_pow_lt31 (by omega))]
  congr 1
  apply Nat.eq_of_testBit_eq
  intro i
  rw [Nat.testBit_or, mkN_bit, mkN_bit, Nat.testBit_two_pow]
  by_cases e : k = i
  · subst e; simp [hk]
  · simp [e]
theorem inot_one {f : Nat → Bool} {n k : Nat} {m : Int} (hn : n ≤ 14) (hk : k < n) (hm : m = ((mkN f n : Nat) : Int)) : iand m (ixor ((2 ^ k : Nat) : Int) (-1)) = ((mkN (fun s => if k = s then false else f s) n : Nat) : Int) := by
  rw [inot_mk hn hm (two_pow_lt31 (by omega)) rfl]
  congr 1
  refine mkN_ext fun i _ => ?_
  rw [Nat.testBit_two_pow]
  by_cases e : k = i
  · subst e; simp
  · simp [e]
