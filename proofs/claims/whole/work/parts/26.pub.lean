theorem x_isWithin {z : xZ} {d : Nat} {Q : tQ} {c : tC} {L : tL} {v l m : Int} (hv : inR v) (hl : inR l) (hm : inR m) (k1 : l ≤ v ∧ v ≤ m → Q (some (.int (iI 1))) c L) (k0 : ¬ (l ≤ v ∧ v ≤ m) → Q (some (.int (iI 0))) c L) : En z (d + 1) MX10_isWithin Q 0 [some (.int (iI v)), some (.int (iI l)), some (.int (iI m))] [] c L := by
  refine r_iloadN 1 dX10_isWithin_0 rfl rfl ?_
  refine r_iloadN 2 dX10_isWithin_1 rfl rfl ?_
  refine r_iclt 14 5 dX10_isWithin_2 rfl (by decide) (by omega) (by omega) (fun h2 => ?_) (fun h2 => ?_)
  · refine r_iconst 15 dX10_isWithin_14 rfl ?_
    exact r_zret dX10_isWithin_15 rfl (by decide) (k0 (by omega))
  · refine r_iloadN 6 dX10_isWithin_5 rfl rfl ?_
    refine r_iloadN 7 dX10_isWithin_6 rfl rfl ?_
    refine r_icgt 14 10 dX10_isWithin_7 rfl (by decide) (by omega) (by omega) (fun h7 => ?_) (fun h7 => ?_)
    · refine r_iconst 15 dX10_isWithin_14 rfl ?_
      exact r_zret dX10_isWithin_15 rfl (by decide) (k0 (by omega))
    · refine r_iconst 11 dX10_isWithin_10 rfl ?_
      refine r_goto 15 dX10_isWithin_11 (by decide) ?_
      exact r_zret dX10_isWithin_15 rfl (by decide) (k1 (by omega))
theorem x_isShelf {z : xZ} {d : Nat} {Q : tQ} {c : tC} {L : tL} {v : Int} (hv : inR v) (k1 : 0 ≤ v ∧ v ≤ 7 → Q (some (.int (iI 1))) c L) (k0 : ¬ (0 ≤ v ∧ v ≤ 7) → Q (some (.int (iI 0))) c L) : En z (d + 2) MX10_isShelf Q 0 [some (.int (iI v))] [] c L := by
  refine r_iloadN 1 dX10_isShelf_0 rfl rfl ?_
  refine r_iconst 2 dX10_isShelf_1 rfl ?_
  refine r_bipush 4 dX10_isShelf_2 rfl (by decide) ?_
  refine r_cs3 7 dX10_isShelf_4 rfl gX10_137 (Nat.le_of_ble_eq_true rfl) (Nat.le_of_ble_eq_true rfl) rfl ?_
  refine x_isWithin (by omega) (by omega) (by omega) (fun y4 => ?_) (fun y4 => ?_)
  · exact r_zret dX10_isShelf_7 rfl (by decide) (k1 (by omega))
  · exact r_zret dX10_isShelf_7 rfl (by decide) (k0 (by omega))
theorem x_isSpot {z : xZ} {d : Nat} {Q : tQ} {c : tC} {L : tL} {v : Int} (hv : inR v) (k1 : 0 ≤ v ∧ v ≤ 63 → Q (some (.int (iI 1))) c L) (k0 : ¬ (0 ≤ v ∧ v ≤ 63) → Q (some (.int (iI 0))) c L) : En z (d + 2) MX10_isSpot Q 0 [some (.int (iI v))] [] c L := by
  refine r_iloadN 1 dX10_isSpot_0 rfl rfl ?_
  refine r_iconst 2 dX10_isSpot_1 rfl ?_
  refine r_bipush 4 dX10_isSpot_2 rfl (by decide) ?_
  refine r_cs3 7 dX10_isSpot_4 rfl gX10_137 (Nat.le_of_ble_eq_true rfl) (Nat.le_of_ble_eq_true rfl) rfl ?_
  refine x_isWithin (by omega) (by omega) (by omega) (fun y4 => ?_) (fun y4 => ?_)
  · exact r_zret dX10_isSpot_7 rfl (by decide) (k1 (by omega))
  · exact r_zret dX10_isSpot_7 rfl (by decide) (k0 (by omega))
theorem x_isTone {z : xZ} {d : Nat} {Q : tQ} {c : tC} {L : tL} {v : Int} (hv : inR v) (k1 : 20 ≤ v ∧ v ≤ 99 → Q (some (.int (iI 1))) c L) (k0 : ¬ (20 ≤ v ∧ v ≤ 99) → Q (some (.int (iI 0))) c L) : En z (d + 2) MX10_isTone Q 0 [some (.int (iI v))] [] c L := by
  refine r_iloadN 1 dX10_isTone_0 rfl rfl ?_
  refine r_bipush 3 dX10_isTone_1 rfl (by decide) ?_
  refine r_bipush 5 dX10_isTone_3 rfl (by decide) ?_
  refine r_cs3 8 dX10_isTone_5 rfl gX10_137 (Nat.le_of_ble_eq_true rfl) (Nat.le_of_ble_eq_true rfl) rfl ?_
  refine x_isWithin (by omega) (by omega) (by omega) (fun y5 => ?_) (fun y5 => ?_)
  · exact r_zret dX10_isTone_8 rfl (by decide) (k1 (by omega))
  · exact r_zret dX10_isTone_8 rfl (by decide) (k0 (by omega))
theorem x_isHour {z : xZ} {d : Nat} {Q : tQ} {c : tC} {L : tL} {v : Int} (hv : inR v) (k1 : 0 ≤ v ∧ v ≤ 239 → Q (some (.int (iI 1))) c L) (k0 : ¬ (0 ≤ v ∧ v ≤ 239) → Q (some (.int (iI 0))) c L) : En z (d + 2) MX10_isHour Q 0 [some (.int (iI v))] [] c L := by
  refine r_iloadN 1 dX10_isHour_0 rfl rfl ?_
  refine r_iconst 2 dX10_isHour_1 rfl ?_
  refine r_sipush 5 dX10_isHour_2 rfl (by decide) ?_
  refine r_cs3 8 dX10_isHour_5 rfl gX10_137 (Nat.le_of_ble_eq_true rfl) (Nat.le_of_ble_eq_true rfl) rfl ?_
  refine x_isWithin (by omega) (by omega) (by omega) (fun y5 => ?_) (fun y5 => ?_)
  · exact r_zret dX10_isHour_8 rfl (by decide) (k1 (by omega))
  · exact r_zret dX10_isHour_8 rfl (by decide) (k0 (by omega))
theorem x_areHours {z : xZ} {d : Nat} {Q : tQ} {c : tC} {L : tL} {a b : Int} (ha : inR a) (hb : inR b) (k1 : 0 ≤ a ∧ a ≤ b ∧ b ≤ 239 → Q (some (.int (iI 1))) c L) (k0 : ¬ (0 ≤ a ∧ a ≤ b ∧ b ≤ 239) → Q (some (.int (iI 0))) c L) : En z (d + 3) MX10_areHours Q 0 [some (.int (iI a)), some (.int (iI b))] [] c L := by
  refine r_iloadN 1 dX10_areHours_0 rfl rfl ?_
  refine r_cs1 4 dX10_areHours_1 rfl gX10_195 (Nat.le_of_ble_eq_true rfl) (Nat.le_of_ble_eq_true rfl) rfl ?_
  refine x_isHour (by omega) (fun y1 => ?_) (fun y1 => ?_)
  · refine r_ifeqF 7 dX10_areHours_4 rfl 23 (by decide) (by decide) (by decide) ?_
    refine r_iloadN 8 dX10_areHours_7 rfl rfl ?_
    refine r_cs1 11 dX10_areHours_8 rfl gX10_195 (Nat.le_of_ble_eq_true rfl) (Nat.le_of_ble_eq_true rfl) rfl ?_
    refine x_isHour (by omega) (fun y8 => ?_) (fun y8 => ?_)
    · refine r_ifeqF 14 dX10_areHours_11 rfl 23 (by decide) (by decide) (by decide) ?_
      refine r_iloadN 15 dX10_areHours_14 rfl rfl ?_
      refine r_iloadN 16 dX10_areHours_15 rfl rfl ?_
      refine r_icgt 23 19 dX10_areHours_16 rfl (by decide) (by omega) (by omega) (fun h16 => ?_) (fun h16 => ?_)
      · refine r_iconst 24 dX10_areHours_23 rfl ?_
        exact r_zret dX10_areHours_24 rfl (by decide) (k0 (by omega))
      · refine r_iconst 20 dX10_areHours_19 rfl ?_
        refine r_goto 24 dX10_areHours_20 (by decide) ?_
        exact r_zret dX10_areHours_24 rfl (by decide) (k1 (by omega))
    · refine r_ifeqT 23 0 dX10_areHours_11 (by decide) (by decide) (by decide) ?_
      refine r_iconst 24 dX10_areHours_23 rfl ?_
      exact r_zret dX10_areHours_24 rfl (by decide) (k0 (by omega))
  · refine r_ifeqT 23 0 dX10_areHours_4 (by decide) (by decide) (by decide) ?_
    refine r_iconst 24 dX10_areHours_23 rfl ?_
    exact r_zret dX10_areHours_24 rfl (by decide) (k0 (by omega))
/-! the class's own methods: what is only asked -/
def xRe (c : tC) (k : Nat) : tC := if k = 0 then c else cu c 35 0 k (c 35 0 k + 1)
def mRe (c : tC) (k : Nat) : tC := if k = 0 then c else mRef c k
noncomputable def theN (P : Nat → Prop) : Nat := by
  classical
  exact if h : ∃ x, P x then Classical.choose h else 0
theorem theN_eq {P : Nat → Prop} {x : Nat} (h : P x) (u : ∀ y, P y → y = x) : theN P = x := by
  unfold theN
  rw [dif_pos ⟨x, h⟩]
  exact u _ (Classical.choose_spec (⟨x, h⟩ : ∃ x, P x))
theorem set_ok {x : Int} {n : Nat} (hx : inR x) (hn : n ≤ 14) : iand x (ixor ((mkN (fun _ => true) n : Nat) : Int) (-1)) = 0 ↔ (0 ≤ x ∧ x < ((2 ^ n : Nat) : Int)) := by
  have hp14 : (2 : Nat) ^ n ≤ 2 ^ 14 := Nat.pow_le_pow_right (by decide) hn
  constructor
  · intro h
    have hb : (iI x).toBitVec &&& (iI (ixor ((mkN (fun _ => true) n : Nat) : Int) (-1))).toBitVec = 0#32 := by
      refine BitVec.eq_of_toInt_eq ?_
      rw [← Int32.toBitVec_and]
      exact h
    have e : (iI (ixor ((mkN (fun _ => true) n : Nat) : Int) (-1))).toBitVec = (iI ((mkN (fun _ => true) n : Nat) : Int)).toBitVec ^^^ (iI (-1)).toBitVec := by
      rw [ixor, show iI ((iI ((mkN (fun _ => true) n : Nat) : Int) ^^^ iI (-1)).toInt) = iI ((mkN (fun _ => true) n : Nat) : Int) ^^^ iI (-1) from Int32.ofInt_toInt _, Int32.toBitVec_xor]
    have hlt : (iI x).toBitVec.toNat < 2 ^ n := Nat.lt_pow_two_of_testBit _ fun i hi => by
      by_cases h32 : i < 32
      · have q := congrArg (fun v => v.getLsbD i) hb
        simp only [BitVec.getLsbD_and, BitVec.getLsbD_zero] at q
        rw [e, BitVec.getLsbD_xor, show (iI (-1)).toBitVec = BitVec.allOnes 32 from rfl, BitVec.getLsbD_allOnes, decide_eq_true h32, iI_cast, oN_bv, BitVec.getLsbD_ofNat, mkN_bit, decide_eq_false (show ¬ i < n by omega)] at q
        have q2 : (iI x).toBitVec.getLsbD i = false := by simpa using q
        exact q2
      · exact Nat.testBit_lt_two_pow (Nat.lt_of_lt_of_le (iI x).toBitVec.isLt (Nat.pow_le_pow_right (by decide) (by omega)))
    have hi : (iI x).toInt = x := iI_toInt hx
    have ht : (iI x).toBitVec.toInt = (iI x).toBitVec.toNat := BitVec.toInt_eq_toNat_of_lt (by omega)
    have hi2 : (iI x).toBitVec.toInt = x := hi
    omega
  · intro h
    obtain ⟨m, rfl⟩ := Int.eq_ofNat_of_zero_le h.1
    rw [inot_nat (by omega) (mkN_lt31 _ hn), (nand_zero (by omega)).mpr (sb_iff.mpr fun i hi => ?_)]
    · rfl
    · rw [mkN_bit]
      by_cases e : i < n
      · rw [decide_eq_true e]; rfl
      · have := Nat.testBit_lt_two_pow (Nat.lt_of_lt_of_le (show m < 2 ^ n by omega) (Nat.pow_le_pow_right (show 0 < 2 by decide) (show n ≤ i by omega)))
        rw [hi] at this
        exact absurd this (by decide)
/-! the answers, and the refusal that is counted (0: none) -/
abbrev isPe (S : sS) (p : Int) : Prop := 0 ≤ p ∧ p < S 1
abbrev isSo (S : sS) (s : Int) : Prop := 0 ≤ s ∧ s < S 2
abbrev isHo (h : Int) : Prop := 0 ≤ h ∧ h ≤ 239
abbrev isTo (t : Int) : Prop := 20 ≤ t ∧ t ≤ 99
abbrev isSp (s : Int) : Prop := 0 ≤ s ∧ s ≤ 63
abbrev isHs (a b : Int) : Prop := 0 ≤ a ∧ a ≤ b ∧ b ≤ 239
abbrev gA : Type := Int × Nat
def gSounds (S : sS) (A : sA) (s h : Int) : gA := if isSo S s ∧ isHo h then (if fSnd S A s.toNat h = true then 1 else 0, 0) else (-1, 0)
def gReach (S : sS) (A : sA) (s sp : Int) : gA := if isSo S s ∧ isSp sp then (fLvl A s.toNat sp, 0) else (-1, 0)
def gNeeds (S : sS) (A : sA) (p t : Int) : gA := if isPe S p ∧ isTo t then (fNeed A p.toNat t, 0) else (-1, 0)
def gHears (S : sS) (A : sA) (p h : Int) : gA := if isPe S p ∧ isHo h then (((fHeard S A p.toNat (A 14 p.toNat) h : Nat) : Int), 0) else (-1, 0)
def gLoudest (S : sS) (A : sA) (p h : Int) : gA := if isPe S p ∧ isHo h then (fLd (fun s => fHear A p.toNat s (A 14 p.toNat) && fSnd S A s h) (fun s => fLvl A s (A 14 p.toNat)) (S 2).toNat, 0) else (-1, 0)
def gSure (c : tC) (p t : Int) : gA := if isPe (c 50 0) p ∧ (1 ≤ t ∧ t ≤ 100) then (fSure (fun s => fWor c p.toNat s (c 50 0 9).toNat 16 1) (c 50 0 2).toNat t, 0) else (-1, 0)
def gOdds (c : tC) (p s : Int) : Int := if isPe (c 50 0) p ∧ isSo (c 50 0) s then fWor c p.toNat s.toNat (c 50 0 9).toNat 16 1 else 0
def gCould (S : sS) (A : sA) (p t : Int) : gA := if isPe S p ∧ isTo t then (((mkN (fun s => (!fTalk A s && fNear A t s) && fHear A p.toNat s (A 14 p.toNat)) (S 2).toNat : Nat) : Int), 0) else (-1, 0)
def gLacks (S : sS) (A : sA) (p : Int) : gA := if isPe S p then (fLack A p.toNat (A 14 p.toNat) (S 2).toNat, 0) else (-1, 0)
def gTold (S : sS) (A : sA) (w : Int) : gA := if 0 ≤ w ∧ w ≤ 2 then (((cntN (fLet S A w) (S 5).toNat : Nat) : Int), 0) else (-5, 5)
def gBeats (S : sS) (A : sA) (p h : Int) : gA := if isPe S p ∧ isHo h then (((fBeats A (fun s => fHear A p.toNat s (A 14 p.toNat) && fSnd S A s h) (S 2).toNat : Nat) : Int), 0) else (-1, 0)
def gMask (S : sS) (A : sA) (a b : Int) (s : Nat) : Bool := fSome S A s a (b + 1 - a).toNat
def gRid (S : sS) (A : sA) (x a b : Int) : gA := if ¬ (0 ≤ x ∧ x < ((2 ^ (S 2).toNat : Nat) : Int)) then (-1, 1) else if ¬ isHs a b then (-6, 6) else (((cntN (fRid A (gMask S A a b) x.toNat (S 2).toNat) (S 1).toNat : Nat) : Int), 0)
noncomputable def gBest (S : sS) (A : sA) (u a b : Int) : gA := if ¬ ((0 ≤ u ∧ u ≤ 999) ∧ isHs a b) then (-6, 6) else (((theN (fBestP A (gMask S A a b) (S 2).toNat (S 1).toNat u) : Nat) : Int), 0)
def gMeter (S : sS) (A : sA) (sp lo a b : Int) : gA := if ¬ isSp sp then (-1, 1) else if ¬ ((1 ≤ lo ∧ lo ≤ 99) ∧ isHs a b) then (-6, 6) else (((cntN (fMet A (gMask S A a b) sp lo) (S 2).toNat : Nat) : Int), 0)
def gPlace (S : sS) (A : sA) (lo a b : Int) : gA := if ¬ ((1 ≤ lo ∧ lo ≤ 99) ∧ isHs a b) then (-6, 6) else ((((fFnd (fun sp => cntN (fMet A (gMask S A a b) (sp : Int) lo) (S 2).toNat) 64).1 : Nat) : Int), 0)
def fBedP (A : sA) (G : Nat → Bool) (p n ho r : Nat) : Prop := r < 64 ∧ ∀ s, s < 64 → fBedK A G p n ho r ≤ fBedK A G p n ho s ∧ (fBedK A G p n ho s = fBedK A G p n ho r → r ≤ s)
theorem fBedP_one {A : sA} {G : Nat → Bool} {p n ho r r2 : Nat} (h : fBedP A G p n ho r) (h2 : fBedP A G p n ho r2) : r2 = r := by
  have a := h.2 r2 h2.1
  have b := h2.2 r h.1
  have e : fBedK A G p n ho r2 = fBedK A G p n ho r := by omega
  have := a.2 e
  have := b.2 e.symm
  omega
noncomputable def gBed (S : sS) (A : sA) (p a b : Int) : gA := if ¬ isPe S p then (-1, 1) else if ¬ isHs a b then (-6, 6) else (((theN (fBedP A (gMask S A a b) p.toNat (S 2).toNat (A 14 p.toNat).toNat) : Nat) : Int), 0)
def fDb (v : Int) : Nat := cntN (fun j => decide (((2 ^ j : Nat) : Int) < v)) 30
def gNeed (v : Int) : gA := if 0 ≤ v ∧ v ≤ 1000000 then (((fDb (v + 1) : Nat) : Int), 0) else (-6, 6)
def gHalve (v : Int) : gA := if 1 ≤ v ∧ v ≤ 1000 then (((fDb v : Nat) : Int), 0) else (-6, 6)
def bW (n : Nat) : Nat → Int
  | 0 => 1
  | k + 1 => bW n k * ((n : Int) - k) / (k + 1)
def bS (n : Nat) (q : Int) : Nat → Int
  | 0 => 0
  | k + 1 => bS n q k + (if q ≤ k then bW n k else 0)
def gLots (n q : Int) : gA := if ¬ ((0 ≤ n ∧ n ≤ 30) ∧ 0 ≤ q) then (-6, 6) else (bS n.toNat q (n.toNat + 1), 0)
theorem x_refuse {z : xZ} {d : Nat} {Q : tQ} {c : tC} {L : tL} {w : Int} {k0 : Nat} (hw : w = -(k0 : Int)) (hk : 1 ≤ k0 ∧ k0 ≤ 7) (k : Q (some (.int (iI w))) (xRe c k0) L) : En z (d + 2) MX10_refuse Q 0 [some (.ref (xad z 0 0)), some (.int (iI w))] [] c L := by
  refine r_iloadN 1 dX10_refuse_0 rfl rfl ?_
  refine r_bipush 3 dX10_refuse_1 rfl (by decide) ?_
  refine r_iconst 4 dX10_refuse_3 rfl ?_
  refine r_cs3 7 dX10_refuse_4 rfl gX10_137 (Nat.le_of_ble_eq_true rfl) (Nat.le_of_ble_eq_true rfl) rfl ?_
  refine x_isWithin (by omega) (by omega) (by omega) (fun y4 => ?_) (fun y4 => ?_)
  · refine r_ifeqF 10 dX10_refuse_7 rfl 21 (by decide) (by decide) (by decide) ?_
    refine r_aloadN 11 dX10_refuse_10 rfl rfl ?_
    refine r_getq 14 dX10_refuse_11 rfl fX10_47 (by decide) (sh_0 z _) rfl ?_
    refine r_iloadN 15 dX10_refuse_14 rfl rfl ?_
    refine r_ineg 16 dX10_refuse_15 rfl ?_
    rw [show -w = (k0 : Int) by omega]
    refine r_dup2 17 dX10_refuse_16 rfl ?_
    refine r_iald 18 dX10_refuse_17 (k0) rfl rfl (by decide) (sh_35 z _) (by decide) (by omega) (by omega) ?_
    refine r_iconst 19 dX10_refuse_18 rfl ?_
    refine r_iadd 20 dX10_refuse_19 rfl ?_
    refine r_iast 21 dX10_refuse_20 (k0) rfl rfl (by decide) (sh_35 z _) (by decide) (by omega) (by omega) ?_
    refine r_iloadN 22 dX10_refuse_21 rfl rfl ?_
    first
      | (exfalso; omega)
      | (unfold xRe at k; rw [if_neg (by omega)] at k; exact r_ret dX10_refuse_22 rfl k)
  · refine r_ifeqT 21 0 dX10_refuse_7 (by decide) (by decide) (by decide) ?_
    refine r_iloadN 22 dX10_refuse_21 rfl rfl ?_
    first
      | (exfalso; omega)
      | (unfold xRe at k; rw [if_neg (by omega)] at k; exact r_ret dX10_refuse_22 rfl k)
theorem x_isPerson {z : xZ} {d : Nat} {Q : tQ} {c : tC} {L : tL} {v : Int} (hR : RX c) (hv : inR v) (k1 : (0 ≤ v ∧ v < c 50 0 1) → Q (some (.int (iI 1))) c L) (k0 : ¬ (0 ≤ v ∧ v < c 50 0 1) → Q (some (.int (iI 0))) c L) : En z (d + 1) MX9_isPerson Q 0 [some (.ref (xad z 8 0)), some (.int (iI v))] [] c L := by
  have hv1 := hv.1
  have hv2 := hv.2
  have hg := R0_rng hR
  have hc := R0_scal hR
  refine r_iloadN 1 dX9_isPerson_0 rfl rfl ?_
  refine r_iflt 16 4 dX9_isPerson_1 rfl (by decide) (by omega) (fun h1 => ?_) (fun h1 => ?_)
  · refine r_iconst 17 dX9_isPerson_16 rfl ?_
    exact r_zret dX9_isPerson_17 rfl (by decide) (k0 (by omega))
  · refine r_iloadN 5 dX9_isPerson_4 rfl rfl ?_
    refine r_aloadN 6 dX9_isPerson_5 rfl rfl ?_
    refine r_geti 9 dX9_isPerson_6 rfl fX9_15 (by decide) (sh_8 z _) rfl ?_
    refine r_icge 16 12 dX9_isPerson_9 rfl (by decide) (by omega) (by omega) (fun h9 => ?_) (fun h9 => ?_)
    · refine r_iconst 17 dX9_isPerson_16 rfl ?_
      exact r_zret dX9_isPerson_17 rfl (by decide) (k0 (by omega))
    · refine r_iconst 13 dX9_isPerson_12 rfl ?_
      refine r_goto 17 dX9_isPerson_13 (by decide) ?_
      exact r_zret dX9_isPerson_17 rfl (by decide) (k1 (by omega))
theorem x_isSource {z : xZ} {d : Nat} {Q : tQ} {c : tC} {L : tL} {v : Int} (hR : RX c) (hv : inR v) (k1 : (0 ≤ v ∧ v < c 50 0 2) → Q (some (.int (iI 1))) c L) (k0 : ¬ (0 ≤ v ∧ v < c 50 0 2) → Q (some (.int (iI 0))) c L) : En z (d + 1) MX9_isSource Q 0 [some (.ref (xad z 8 0)), some (.int (iI v))] [] c L := by
  have hv1 := hv.1
  have hv2 := hv.2
  have hg := R0_rng hR
  have hc := R0_scal hR
  refine r_iloadN 1 dX9_isSource_0 rfl rfl ?_
  refine r_iflt 16 4 dX9_isSource_1 rfl (by decide) (by omega) (fun h1 => ?_) (fun h1 => ?_)
  · refine r_iconst 17 dX9_isSource_16 rfl ?_
    exact r_zret dX9_isSource_17 rfl (by decide) (k0 (by omega))
  · refine r_iloadN 5 dX9_isSource_4 rfl rfl ?_
    refine r_aloadN 6 dX9_isSource_5 rfl rfl ?_
    refine r_geti 9 dX9_isSource_6 rfl fX9_18 (by decide) (sh_8 z _) rfl ?_
    refine r_icge 16 12 dX9_isSource_9 rfl (by decide) (by omega) (by omega) (fun h9 => ?_) (fun h9 => ?_)
    · refine r_iconst 17 dX9_isSource_16 rfl ?_
      exact r_zret dX9_isSource_17 rfl (by decide) (k0 (by omega))
    · refine r_iconst 13 dX9_isSource_12 rfl ?_
      refine r_goto 17 dX9_isSource_13 (by decide) ?_
      exact r_zret dX9_isSource_17 rfl (by decide) (k1 (by omega))
theorem x_sounds {z : xZ} {d : Nat} {Q : tQ} {c : tC} {L : tL} {n : Nat} {s h : Int} (hR : RX c) (hn : c 50 0 2 = (n : Int)) (hs : inR s) (hh : inR h) (k : ∀ r w, (r, w) = gSounds (c 50 0) (c 51) s h → Q (some (.int (iI r))) (xRe c w) L) : En z (d + 20) MX10_sounds Q 0 [some (.ref (xad z 0 0)), some (.int (iI s)), some (.int (iI h))] [] c L := by
  have s1 := hs.1
  have s2 := hs.2
  have h1 := hh.1
  have h2 := hh.2
  have hg := R0_rng hR
  have hc := R0_scal hR
  refine r_aloadN 1 dX10_sounds_0 rfl rfl ?_
  refine r_getq 4 dX10_sounds_1 rfl fX10_26 (by decide) (sh_0 z _) rfl ?_
  refine r_iloadN 5 dX10_sounds_4 rfl rfl ?_
  refine r_cv1 8 dX10_sounds_5 rfl gX10_101 rfl (by decide) (sh_8 z _) rfl rfl (Nat.le_of_ble_eq_true rfl) (Nat.le_of_ble_eq_true rfl) rfl ?_
  refine x_isSource hR (by assumption) (fun y5 => ?_) (fun y5 => ?_)
  · refine r_ifeqF 11 dX10_sounds_8 rfl 18 (by decide) (by decide) (by decide) ?_
    refine r_iloadN 12 dX10_sounds_11 rfl rfl ?_
    refine r_cs1 15 dX10_sounds_12 rfl gX10_195 (Nat.le_of_ble_eq_true rfl) (Nat.le_of_ble_eq_true rfl) rfl ?_
    refine x_isHour (by assumption) (fun y12 => ?_) (fun y12 => ?_)
    · refine r_ifneT 20 0 dX10_sounds_15 (by decide) (by decide) (by decide) ?_
      obtain ⟨s0, hs00⟩ := Int.eq_ofNat_of_zero_le (show 0 ≤ s by omega)
      subst hs00
      refine r_aloadN 21 dX10_sounds_20 rfl rfl ?_
      refine r_getq 24 dX10_sounds_21 rfl fX10_26 (by decide) (sh_0 z _) rfl ?_
      refine r_iloadN 25 dX10_sounds_24 rfl rfl ?_
      refine r_cv1 28 dX10_sounds_25 rfl gX10_238 rfl (by decide) (sh_8 z _) rfl rfl (Nat.le_of_ble_eq_true rfl) (Nat.le_of_ble_eq_true rfl) rfl ?_
      refine x_soundingAt hR hn (by omega) (fun r25 e25 => ?_)
      refine r_iloadN 29 dX10_sounds_28 rfl rfl ?_
      subst e25
      refine r_cs2 32 dX10_sounds_29 rfl gX10_241 (Nat.le_of_ble_eq_true rfl) (Nat.le_of_ble_eq_true rfl) rfl ?_
      refine x_hasBit (mkN_lt31 _ (show n ≤ 14 by omega)) (by omega) (fun y29 => ?_) (fun y29 => ?_)
      · refine r_ifeqF 35 dX10_sounds_32 rfl 39 (by decide) (by decide) (by decide) ?_
        refine r_iconst 36 dX10_sounds_35 rfl ?_
        refine r_goto 40 dX10_sounds_36 (by decide) ?_
        refine r_ret dX10_sounds_40 rfl (k _ 0 ?_)
        unfold gSounds
        rw [if_pos (by omega)]
        rw [mk_bit (by omega)] at y29
        rw [Int.toNat_natCast, y29]
        rfl
      · refine r_ifeqT 39 0 dX10_sounds_32 (by decide) (by decide) (by decide) ?_
        refine r_iconst 40 dX10_sounds_39 rfl ?_
        refine r_ret dX10_sounds_40 rfl (k _ 0 ?_)
        unfold gSounds
        rw [if_pos (by omega)]
        rw [mk_bit (by omega)] at y29
        rw [Int.toNat_natCast, y29]
        rfl
    · refine r_ifneF 18 dX10_sounds_15 rfl 20 (by decide) (by decide) (by decide) ?_
      refine r_iconst 19 dX10_sounds_18 rfl ?_
      refine r_ret dX10_sounds_19 rfl (k _ 0 ?_)
      unfold gSounds
      rw [if_neg (by omega)]
      
  · refine r_ifeqT 18 0 dX10_sounds_8 (by decide) (by decide) (by decide) ?_
    refine r_iconst 19 dX10_sounds_18 rfl ?_
    refine r_ret dX10_sounds_19 rfl (k _ 0 ?_)
    unfold gSounds
    rw [if_neg (by omega)]
    
theorem x_reach {z : xZ} {d : Nat} {Q : tQ} {c : tC} {L : tL} {n : Nat} {s v : Int} (hR : RX c) (hn : c 50 0 2 = (n : Int)) (hs : inR s) (hv : inR v) (k : ∀ r w, (r, w) = gReach (c 50 0) (c 51) s v → Q (some (.int (iI r))) (xRe c w) L) : En z (d + 20) MX10_reach Q 0 [some (.ref (xad z 0 0)), some (.int (iI s)), some (.int (iI v))] [] c L := by
  have s1 := hs.1
  have s2 := hs.2
  have v1 := hv.1
  have v2 := hv.2
  have hg := R0_rng hR
  have hc := R0_scal hR
  refine r_aloadN 1 dX10_reach_0 rfl rfl ?_
  refine r_getq 4 dX10_reach_1 rfl fX10_26 (by decide) (sh_0 z _) rfl ?_
  refine r_iloadN 5 dX10_reach_4 rfl rfl ?_
  refine r_cv1 8 dX10_reach_5 rfl gX10_101 rfl (by decide) (sh_8 z _) rfl rfl (Nat.le_of_ble_eq_true rfl) (Nat.le_of_ble_eq_true rfl) rfl ?_
  refine x_isSource hR (by assumption) (fun y5 => ?_) (fun y5 => ?_)
  · refine r_ifeqF 11 dX10_reach_8 rfl 30 (by decide) (by decide) (by decide) ?_
    refine r_iloadN 12 dX10_reach_11 rfl rfl ?_
    refine r_cs1 15 dX10_reach_12 rfl gX10_131 (Nat.le_of_ble_eq_true rfl) (Nat.le_of_ble_eq_true rfl) rfl ?_
    refine x_isSpot (by assumption) (fun y12 => ?_) (fun y12 => ?_)
    · refine r_ifeqF 18 dX10_reach_15 rfl 30 (by decide) (by decide) (by decide) ?_
      obtain ⟨s0, hs00⟩ := Int.eq_ofNat_of_zero_le (show 0 ≤ s by omega)
      subst hs00
      obtain ⟨v0, hv00⟩ := Int.eq_ofNat_of_zero_le (show 0 ≤ v by omega)
      subst hv00
      refine r_aloadN 19 dX10_reach_18 rfl rfl ?_
      refine r_getq 22 dX10_reach_19 rfl fX10_26 (by decide) (sh_0 z _) rfl ?_
      refine r_iloadN 23 dX10_reach_22 rfl rfl ?_
      refine r_iloadN 24 dX10_reach_23 rfl rfl ?_
      refine r_cv2 27 dX10_reach_24 rfl gX10_244 rfl (by decide) (sh_8 z _) rfl rfl (Nat.le_of_ble_eq_true rfl) (Nat.le_of_ble_eq_true rfl) rfl ?_
      refine x_levelAt hR hn (by omega) (by omega) (fun r24 e24 => ?_)
      refine r_goto 31 dX10_reach_27 (by decide) ?_
      refine r_ret dX10_reach_31 rfl (k _ 0 ?_)
      unfold gReach
      rw [if_pos (by omega)]
      rw [Int.toNat_natCast, e24]
    · refine r_ifeqT 30 0 dX10_reach_15 (by decide) (by decide) (by decide) ?_
      refine r_iconst 31 dX10_reach_30 rfl ?_
      refine r_ret dX10_reach_31 rfl (k _ 0 ?_)
      unfold gReach
      rw [if_neg (by omega)]
      
  · refine r_ifeqT 30 0 dX10_reach_8 (by decide) (by decide) (by decide) ?_
    refine r_iconst 31 dX10_reach_30 rfl ?_
    refine r_ret dX10_reach_31 rfl (k _ 0 ?_)
    unfold gReach
    rw [if_neg (by omega)]
    
theorem x_needs {z : xZ} {d : Nat} {Q : tQ} {c : tC} {L : tL} {n : Nat} {p t : Int} (hR : RX c) (hn : c 50 0 2 = (n : Int)) (hp : inR p) (ht : inR t) (k : ∀ r w, (r, w) = gNeeds (c 50 0) (c 51) p t → Q (some (.int (iI r))) (xRe c w) L) : En z (d + 20) MX10_needs Q 0 [some (.ref (xad z 0 0)), some (.int (iI p)), some (.int (iI t))] [] c L := by
  have p1 := hp.1
  have p2 := hp.2
  have t1 := ht.1
  have t2 := ht.2
  have hg := R0_rng hR
  have hc := R0_scal hR
  refine r_aloadN 1 dX10_needs_0 rfl rfl ?_
  refine r_getq 4 dX10_needs_1 rfl fX10_26 (by decide) (sh_0 z _) rfl ?_
  refine r_iloadN 5 dX10_needs_4 rfl rfl ?_
  refine r_cv1 8 dX10_needs_5 rfl gX10_149 rfl (by decide) (sh_8 z _) rfl rfl (Nat.le_of_ble_eq_true rfl) (Nat.le_of_ble_eq_true rfl) rfl ?_
  refine x_isPerson hR (by assumption) (fun y5 => ?_) (fun y5 => ?_)
  · refine r_ifeqF 11 dX10_needs_8 rfl 34 (by decide) (by decide) (by decide) ?_
    refine r_iloadN 12 dX10_needs_11 rfl rfl ?_
    refine r_cs1 15 dX10_needs_12 rfl gX10_134 (Nat.le_of_ble_eq_true rfl) (Nat.le_of_ble_eq_true rfl) rfl ?_
    refine x_isTone (by assumption) (fun y12 => ?_) (fun y12 => ?_)
    · refine r_ifeqF 18 dX10_needs_15 rfl 34 (by decide) (by decide) (by decide) ?_
      obtain ⟨p0, hp00⟩ := Int.eq_ofNat_of_zero_le (show 0 ≤ p by omega)
      subst hp00
      refine r_aloadN 19 dX10_needs_18 rfl rfl ?_
      refine r_getq 22 dX10_needs_19 rfl fX10_26 (by decide) (sh_0 z _) rfl ?_
      refine r_getq 25 dX10_needs_22 rfl fX10_152 (by decide) (sh_8 z _) rfl ?_
      refine r_iloadN 26 dX10_needs_25 rfl rfl ?_
      refine r_aald 27 dX10_needs_26 (p0) rfl rfl (by decide) (sh_9a z) rfl (by decide) (by omega) (by omega) ?_
      refine r_iloadN 28 dX10_needs_27 rfl rfl ?_
      refine r_cv1 31 dX10_needs_28 rfl gX10_247 rfl (ct_12 (by omega)) (sh_12 z _) rfl rfl (Nat.le_of_ble_eq_true rfl) (Nat.le_of_ble_eq_true rfl) rfl ?_
      refine x_needFor hR (p := p0) (by omega) (by omega) (fun r28 e28 => ?_)
      refine r_goto 35 dX10_needs_31 (by decide) ?_
      refine r_ret dX10_needs_35 rfl (k _ 0 ?_)
      unfold gNeeds
      rw [if_pos (by omega)]
      rw [Int.toNat_natCast, e28]
    · refine r_ifeqT 34 0 dX10_needs_15 (by decide) (by decide) (by decide) ?_
      refine r_iconst 35 dX10_needs_34 rfl ?_
      refine r_ret dX10_needs_35 rfl (k _ 0 ?_)
      unfold gNeeds
      rw [if_neg (by omega)]
      
  · refine r_ifeqT 34 0 dX10_needs_8 (by decide) (by decide) (by decide) ?_
    refine r_iconst 35 dX10_needs_34 rfl ?_
    refine r_ret dX10_needs_35 rfl (k _ 0 ?_)
    unfold gNeeds
    rw [if_neg (by omega)]
    
theorem x_hears {z : xZ} {d : Nat} {Q : tQ} {c : tC} {L : tL} {n : Nat} {p h : Int} (hR : RX c) (hn : c 50 0 2 = (n : Int)) (hp : inR p) (hh : inR h) (k : ∀ r w, (r, w) = gHears (c 50 0) (c 51) p h → Q (some (.int (iI r))) (xRe c w) L) : En z (d + 20) MX10_hears Q 0 [some (.ref (xad z 0 0)), some (.int (iI p)), some (.int (iI h))] [] c L := by
  have p1 := hp.1
  have p2 := hp.2
  have h1 := hh.1
  have h2 := hh.2
  have hg := R0_rng hR
  have hc := R0_scal hR
  refine r_aloadN 1 dX10_hears_0 rfl rfl ?_
  refine r_getq 4 dX10_hears_1 rfl fX10_26 (by decide) (sh_0 z _) rfl ?_
  refine r_iloadN 5 dX10_hears_4 rfl rfl ?_
  refine r_cv1 8 dX10_hears_5 rfl gX10_149 rfl (by decide) (sh_8 z _) rfl rfl (Nat.le_of_ble_eq_true rfl) (Nat.le_of_ble_eq_true rfl) rfl ?_
  refine x_isPerson hR (by assumption) (fun y5 => ?_) (fun y5 => ?_)
  · refine r_ifeqF 11 dX10_hears_8 rfl 30 (by decide) (by decide) (by decide) ?_
    refine r_iloadN 12 dX10_hears_11 rfl rfl ?_
    refine r_cs1 15 dX10_hears_12 rfl gX10_195 (Nat.le_of_ble_eq_true rfl) (Nat.le_of_ble_eq_true rfl) rfl ?_
    refine x_isHour (by assumption) (fun y12 => ?_) (fun y12 => ?_)
    · refine r_ifeqF 18 dX10_hears_15 rfl 30 (by decide) (by decide) (by decide) ?_
      obtain ⟨p0, hp00⟩ := Int.eq_ofNat_of_zero_le (show 0 ≤ p by omega)
      subst hp00
      refine r_aloadN 19 dX10_hears_18 rfl rfl ?_
      refine r_getq 22 dX10_hears_19 rfl fX10_26 (by decide) (sh_0 z _) rfl ?_
      refine r_iloadN 23 dX10_hears_22 rfl rfl ?_
      refine r_iloadN 24 dX10_hears_23 rfl rfl ?_
      refine r_cv2 27 dX10_hears_24 rfl gX10_250 rfl (by decide) (sh_8 z _) rfl rfl (Nat.le_of_ble_eq_true rfl) (Nat.le_of_ble_eq_true rfl) rfl ?_
      refine x_heardBy hR hn (p := p0) (by omega) (by omega) (fun r24 e24 => ?_)
      refine r_goto 31 dX10_hears_27 (by decide) ?_
      refine r_ret dX10_hears_31 rfl (k _ 0 ?_)
      unfold gHears
      rw [if_pos (by omega)]
      rw [Int.toNat_natCast, e24]
    · refine r_ifeqT 30 0 dX10_hears_15 (by decide) (by decide) (by decide) ?_
      refine r_iconst 31 dX10_hears_30 rfl ?_
      refine r_ret dX10_hears_31 rfl (k _ 0 ?_)
      unfold gHears
      rw [if_neg (by omega)]
      
  · refine r_ifeqT 30 0 dX10_hears_8 (by decide) (by decide) (by decide) ?_
    refine r_iconst 31 dX10_hears_30 rfl ?_
    refine r_ret dX10_hears_31 rfl (k _ 0 ?_)
    unfold gHears
    rw [if_neg (by omega)]
    
theorem x_loudest {z : xZ} {d : Nat} {Q : tQ} {c : tC} {L : tL} {n : Nat} {p h : Int} (hR : RX c) (hn : c 50 0 2 = (n : Int)) (hp : inR p) (hh : inR h) (k : ∀ r w, (r, w) = gLoudest (c 50 0) (c 51) p h → Q (some (.int (iI r))) (xRe c w) L) : En z (d + 20) MX10_loudest Q 0 [some (.ref (xad z 0 0)), some (.int (iI p)), some (.int (iI h))] [] c L := by
  have p1 := hp.1
  have p2 := hp.2
  have h1 := hh.1
  have h2 := hh.2
  have hg := R0_rng hR
  have hc := R0_scal hR
  refine r_aloadN 1 dX10_loudest_0 rfl rfl ?_
  refine r_getq 4 dX10_loudest_1 rfl fX10_26 (by decide) (sh_0 z _) rfl ?_
  refine r_iloadN 5 dX10_loudest_4 rfl rfl ?_
  refine r_cv1 8 dX10_loudest_5 rfl gX10_149 rfl (by decide) (sh_8 z _) rfl rfl (Nat.le_of_ble_eq_true rfl) (Nat.le_of_ble_eq_true rfl) rfl ?_
  refine x_isPerson hR (by assumption) (fun y5 => ?_) (fun y5 => ?_)
  · refine r_ifeqF 11 dX10_loudest_8 rfl 30 (by decide) (by decide) (by decide) ?_
    refine r_iloadN 12 dX10_loudest_11 rfl rfl ?_
    refine r_cs1 15 dX10_loudest_12 rfl gX10_195 (Nat.le_of_ble_eq_true rfl) (Nat.le_of_ble_eq_true rfl) rfl ?_
    refine x_isHour (by assumption) (fun y12 => ?_) (fun y12 => ?_)
    · refine r_ifeqF 18 dX10_loudest_15 rfl 30 (by decide) (by decide) (by decide) ?_
      obtain ⟨p0, hp00⟩ := Int.eq_ofNat_of_zero_le (show 0 ≤ p by omega)
      subst hp00
      refine r_aloadN 19 dX10_loudest_18 rfl rfl ?_
      refine r_getq 22 dX10_loudest_19 rfl fX10_26 (by decide) (sh_0 z _) rfl ?_
      refine r_iloadN 23 dX10_loudest_22 rfl rfl ?_
      refine r_iloadN 24 dX10_loudest_23 rfl rfl ?_
      refine r_cv2 27 dX10_loudest_24 rfl gX10_253 rfl (by decide) (sh_8 z _) rfl rfl (Nat.le_of_ble_eq_true rfl) (Nat.le_of_ble_eq_true rfl) rfl ?_
      refine x_loudestFor hR hn (p := p0) (by omega) (by omega) (fun r24 e24 => ?_)
      refine r_goto 31 dX10_loudest_27 (by decide) ?_
      refine r_ret dX10_loudest_31 rfl (k _ 0 ?_)
      unfold gLoudest
      rw [if_pos (by omega)]
      rw [Int.toNat_natCast, e24, hn, Int.toNat_natCast]
    · refine r_ifeqT 30 0 dX10_loudest_15 (by decide) (by decide) (by decide) ?_
      refine r_iconst 31 dX10_loudest_30 rfl ?_
      refine r_ret dX10_loudest_31 rfl (k _ 0 ?_)
      unfold gLoudest
      rw [if_neg (by omega)]
      
  · refine r_ifeqT 30 0 dX10_loudest_8 (by decide) (by decide) (by decide) ?_
    refine r_iconst 31 dX10_loudest_30 rfl ?_
    refine r_ret dX10_loudest_31 rfl (k _ 0 ?_)
    unfold gLoudest
    rw [if_neg (by omega)]
    
theorem x_sure {z : xZ} {d : Nat} {Q : tQ} {c : tC} {L : tL} {n : Nat} {p t : Int} (hR : RX c) (hn : c 50 0 2 = (n : Int)) (hp : inR p) (ht : inR t) (k : ∀ r w (L2 : tL), (∀ g i j, g ≠ 6 → L2 g i j = L g i j) → (r, w) = gSure c p t → Q (some (.int (iI r))) (xRe c w) L2) : En z (d + 20) MX10_sure Q 0 [some (.ref (xad z 0 0)), some (.int (iI p)), some (.int (iI t))] [] c L := by
  have p1 := hp.1
  have p2 := hp.2
  have t1 := ht.1
  have t2 := ht.2
  have hg := R0_rng hR
  have hc := R0_scal hR
  refine r_aloadN 1 dX10_sure_0 rfl rfl ?_
  refine r_getq 4 dX10_sure_1 rfl fX10_26 (by decide) (sh_0 z _) rfl ?_
  refine r_iloadN 5 dX10_sure_4 rfl rfl ?_
  refine r_cv1 8 dX10_sure_5 rfl gX10_149 rfl (by decide) (sh_8 z _) rfl rfl (Nat.le_of_ble_eq_true rfl) (Nat.le_of_ble_eq_true rfl) rfl ?_
  refine x_isPerson hR (by assumption) (fun y5 => ?_) (fun y5 => ?_)
  · refine r_ifeqF 11 dX10_sure_8 rfl 21 (by decide) (by decide) (by decide) ?_
    refine r_iloadN 12 dX10_sure_11 rfl rfl ?_
    refine r_iconst 13 dX10_sure_12 rfl ?_
    refine r_bipush 15 dX10_sure_13 rfl (by decide) ?_
    refine r_cs3 18 dX10_sure_15 rfl gX10_137 (Nat.le_of_ble_eq_true rfl) (Nat.le_of_ble_eq_true rfl) rfl ?_
    refine x_isWithin (by assumption) (by omega) (by omega) (fun y15 => ?_) (fun y15 => ?_)
    · refine r_ifneT 23 0 dX10_sure_18 (by decide) (by decide) (by decide) ?_
      obtain ⟨p0, hp00⟩ := Int.eq_ofNat_of_zero_le (show 0 ≤ p by omega)
      subst hp00
      refine r_aloadN 24 dX10_sure_23 rfl rfl ?_
      refine r_getq 27 dX10_sure_24 rfl fX10_18 (by decide) (sh_0 z _) rfl ?_
      refine r_iloadN 28 dX10_sure_27 rfl rfl ?_
      refine r_cv1 31 dX10_sure_28 rfl gX10_294 rfl (by decide) (sh_5 z _) rfl rfl (Nat.le_of_ble_eq_true rfl) (Nat.le_of_ble_eq_true rfl) rfl ?_
      refine x_weigh hR hn (p := p0) (by omega) (fun L2 hL2 hF2 => ?_)
      refine r_aloadN 32 dX10_sure_31 rfl rfl ?_
      refine r_getq 35 dX10_sure_32 rfl fX10_18 (by decide) (sh_0 z _) rfl ?_
      refine r_iloadN 36 dX10_sure_35 rfl rfl ?_
      refine r_cv1 39 dX10_sure_36 rfl gX10_301 rfl (by decide) (sh_5 z _) rfl rfl (Nat.le_of_ble_eq_true rfl) (Nat.le_of_ble_eq_true rfl) rfl ?_
      refine x_surest hR hn (by omega) hL2 (fun s _ => fWor_rng hR p0 s _ 16 1 (by decide) (by decide)) (fun r36 e36 => ?_)
      refine r_ret dX10_sure_39 rfl (k _ 0 L2 hF2 ?_)
      unfold gSure
      rw [if_pos (by omega)]
      rw [Int.toNat_natCast, e36, hn, Int.toNat_natCast]
    · refine r_ifneF 21 dX10_sure_18 rfl 23 (by decide) (by decide) (by decide) ?_
      refine r_iconst 22 dX10_sure_21 rfl ?_
      refine r_ret dX10_sure_22 rfl (k _ 0 _ (fun _ _ _ _ => rfl) ?_)
      unfold gSure
      rw [if_neg (by omega)]
      
  · refine r_ifeqT 21 0 dX10_sure_8 (by decide) (by decide) (by decide) ?_
    refine r_iconst 22 dX10_sure_21 rfl ?_
    refine r_ret dX10_sure_22 rfl (k _ 0 _ (fun _ _ _ _ => rfl) ?_)
    unfold gSure
    rw [if_neg (by omega)]
    
theorem x_odds {z : xZ} {d : Nat} {Q : tQ} {c : tC} {L : tL} {n : Nat} {p s : Int} (hR : RX c) (hn : c 50 0 2 = (n : Int)) (hp : inR p) (hs : inR s) (k : ∀ r (L2 : tL), (∀ g i j, g ≠ 6 → L2 g i j = L g i j) → r = gOdds c p s → Q (some (.long (lI r))) c L2) : En z (d + 20) MX10_odds Q 0 [some (.ref (xad z 0 0)), some (.int (iI p)), some (.int (iI s))] [] c L := by
  have p1 := hp.1
  have p2 := hp.2
  have s1 := hs.1
  have s2 := hs.2
  have hg := R0_rng hR
  have hc := R0_scal hR
  refine r_aloadN 1 dX10_odds_0 rfl rfl ?_
  refine r_getq 4 dX10_odds_1 rfl fX10_26 (by decide) (sh_0 z _) rfl ?_
  refine r_iloadN 5 dX10_odds_4 rfl rfl ?_
  refine r_cv1 8 dX10_odds_5 rfl gX10_149 rfl (by decide) (sh_8 z _) rfl rfl (Nat.le_of_ble_eq_true rfl) (Nat.le_of_ble_eq_true rfl) rfl ?_
  refine x_isPerson hR (by assumption) (fun y5 => ?_) (fun y5 => ?_)
  · refine r_ifeqF 11 dX10_odds_8 rfl 22 (by decide) (by decide) (by decide) ?_
    refine r_aloadN 12 dX10_odds_11 rfl rfl ?_
    refine r_getq 15 dX10_odds_12 rfl fX10_26 (by decide) (sh_0 z _) rfl ?_
    refine r_iloadN 16 dX10_odds_15 rfl rfl ?_
    refine r_cv1 19 dX10_odds_16 rfl gX10_101 rfl (by decide) (sh_8 z _) rfl rfl (Nat.le_of_ble_eq_true rfl) (Nat.le_of_ble_eq_true rfl) rfl ?_
    refine x_isSource hR (by assumption) (fun y16 => ?_) (fun y16 => ?_)
    · refine r_ifneT 24 0 dX10_odds_19 (by decide) (by decide) (by decide) ?_
      obtain ⟨p0, hp00⟩ := Int.eq_ofNat_of_zero_le (show 0 ≤ p by omega)
      subst hp00
      obtain ⟨s0, hs00⟩ := Int.eq_ofNat_of_zero_le (show 0 ≤ s by omega)
      subst hs00
      refine r_aloadN 25 dX10_odds_24 rfl rfl ?_
      refine r_getq 28 dX10_odds_25 rfl fX10_18 (by decide) (sh_0 z _) rfl ?_
      refine r_iloadN 29 dX10_odds_28 rfl rfl ?_
      refine r_cv1 32 dX10_odds_29 rfl gX10_294 rfl (by decide) (sh_5 z _) rfl rfl (Nat.le_of_ble_eq_true rfl) (Nat.le_of_ble_eq_true rfl) rfl ?_
      refine x_weigh hR hn (p := p0) (by omega) (fun L2 hL2 hF2 => ?_)
      refine r_aloadN 33 dX10_odds_32 rfl rfl ?_
      refine r_getq 36 dX10_odds_33 rfl fX10_18 (by decide) (sh_0 z _) rfl ?_
      refine r_getq 39 dX10_odds_36 rfl fX10_297 (by decide) (sh_5 z _) rfl ?_
      refine r_iloadN 40 dX10_odds_39 rfl rfl ?_
      refine r_lald 41 dX10_odds_40 (s0) rfl rfl (by decide) (sh_6 z _) (by decide) (by omega) (by omega) ?_
      rw [hL2 s0 (by omega)]
      exact r_lret dX10_odds_41 rfl (k _ L2 hF2 (by unfold gOdds; rw [if_pos (by omega)]; rfl))
    · refine r_ifneF 22 dX10_odds_19 rfl 24 (by decide) (by decide) (by decide) ?_
      refine r_lconst 23 dX10_odds_22 rfl ?_
      exact r_lret dX10_odds_23 rfl (k 0 _ (fun _ _ _ _ => rfl) (by unfold gOdds; rw [if_neg (by omega)]))
  · refine r_ifeqT 22 0 dX10_odds_8 (by decide) (by decide) (by decide) ?_
    refine r_lconst 23 dX10_odds_22 rfl ?_
    exact r_lret dX10_odds_23 rfl (k 0 _ (fun _ _ _ _ => rfl) (by unfold gOdds; rw [if_neg (by omega)]))
theorem x_could {z : xZ} {d : Nat} {Q : tQ} {c : tC} {L : tL} {n : Nat} {p t : Int} (hR : RX c) (hn : c 50 0 2 = (n : Int)) (hp : inR p) (ht : inR t) (k : ∀ r w, (r, w) = gCould (c 50 0) (c 51) p t → Q (some (.int (iI r))) (xRe c w) L) : En z (d + 20) MX10_could Q 0 [some (.ref (xad z 0 0)), some (.int (iI p)), some (.int (iI t))] [] c L := by
  have p1 := hp.1
  have p2 := hp.2
  have t1 := ht.1
  have t2 := ht.2
  have hg := R0_rng hR
  have hc := R0_scal hR
  refine r_aloadN 1 dX10_could_0 rfl rfl ?_
  refine r_getq 4 dX10_could_1 rfl fX10_26 (by decide) (sh_0 z _) rfl ?_
  refine r_iloadN 5 dX10_could_4 rfl rfl ?_
  refine r_cv1 8 dX10_could_5 rfl gX10_149 rfl (by decide) (sh_8 z _) rfl rfl (Nat.le_of_ble_eq_true rfl) (Nat.le_of_ble_eq_true rfl) rfl ?_
  refine x_isPerson hR (by assumption) (fun y5 => ?_) (fun y5 => ?_)
  · refine r_ifeqF 11 dX10_could_8 rfl 18 (by decide) (by decide) (by decide) ?_
    refine r_iloadN 12 dX10_could_11 rfl rfl ?_
    refine r_cs1 15 dX10_could_12 rfl gX10_134 (Nat.le_of_ble_eq_true rfl) (Nat.le_of_ble_eq_true rfl) rfl ?_
    refine x_isTone (by assumption) (fun y12 => ?_) (fun y12 => ?_)
    · refine r_ifneT 20 0 dX10_could_15 (by decide) (by decide) (by decide) ?_
      obtain ⟨p0, hp00⟩ := Int.eq_ofNat_of_zero_le (show 0 ≤ p by omega)
      subst hp00
      refine r_aloadN 21 dX10_could_20 rfl rfl ?_
      refine r_getq 24 dX10_could_21 rfl fX10_26 (by decide) (sh_0 z _) rfl ?_
      refine r_cv0 27 dX10_could_24 rfl gX10_304 rfl (by decide) (sh_8 z _) rfl rfl (Nat.le_of_ble_eq_true rfl) (Nat.le_of_ble_eq_true rfl) rfl ?_
      refine x_airborne hR hn (fun r24 e24 => ?_)
      refine r_aloadN 28 dX10_could_27 rfl rfl ?_
      refine r_getq 31 dX10_could_28 rfl fX10_26 (by decide) (sh_0 z _) rfl ?_
      refine r_iloadN 32 dX10_could_31 rfl rfl ?_
      refine r_cv1 35 dX10_could_32 rfl gX10_307 rfl (by decide) (sh_8 z _) rfl rfl (Nat.le_of_ble_eq_true rfl) (Nat.le_of_ble_eq_true rfl) rfl ?_
      refine x_nearTo hR hn (by omega) (fun r32 e32 => ?_)
      have hpp := R0_per hR p0 (by omega)
      obtain ⟨sp, hsp⟩ := Int.eq_ofNat_of_zero_le (show 0 ≤ c 51 14 p0 by omega)
      refine r_iand 36 dX10_could_35 rfl ?_
      refine r_aloadN 37 dX10_could_36 rfl rfl ?_
      refine r_getq 40 dX10_could_37 rfl fX10_26 (by decide) (sh_0 z _) rfl ?_
      refine r_iloadN 41 dX10_could_40 rfl rfl ?_
      refine r_aloadN 42 dX10_could_41 rfl rfl ?_
      refine r_getq 45 dX10_could_42 rfl fX10_26 (by decide) (sh_0 z _) rfl ?_
      refine r_getq 48 dX10_could_45 rfl fX10_152 (by decide) (sh_8 z _) rfl ?_
      refine r_iloadN 49 dX10_could_48 rfl rfl ?_
      refine r_aald 50 dX10_could_49 (p0) rfl rfl (by decide) (sh_9a z) rfl (by decide) (by omega) (by omega) ?_
      refine r_geti 53 dX10_could_50 rfl fX10_156 (ct_12 (by omega)) (sh_12 z _) rfl ?_
      rw [show c 12 p0 0 = (sp : Int) by omega]
      refine r_cv2 56 dX10_could_53 rfl gX10_310 rfl (by decide) (sh_8 z _) rfl rfl (Nat.le_of_ble_eq_true rfl) (Nat.le_of_ble_eq_true rfl) rfl ?_
      refine x_audibleTo hR hn (p := p0) (sp := sp) (by omega) (by omega) (fun r53 e53 => ?_)
      refine r_iand 57 dX10_could_56 rfl ?_
      refine r_ret dX10_could_57 rfl (k _ 0 ?_)
      unfold gCould
      rw [if_pos (by omega)]
      rw [Int.toNat_natCast, hn, Int.toNat_natCast, hsp, iand_mk (by omega) (iand_mk (by omega) e24 e32) e53]
    · refine r_ifneF 18 dX10_could_15 rfl 20 (by decide) (by decide) (by decide) ?_
      refine r_iconst 19 dX10_could_18 rfl ?_
      refine r_ret dX10_could_19 rfl (k _ 0 ?_)
      unfold gCould
      rw [if_neg (by omega)]
      
  · refine r_ifeqT 18 0 dX10_could_8 (by decide) (by decide) (by decide) ?_
    refine r_iconst 19 dX10_could_18 rfl ?_
    refine r_ret dX10_could_19 rfl (k _ 0 ?_)
    unfold gCould
    rw [if_neg (by omega)]
    
theorem x_lacks {z : xZ} {d : Nat} {Q : tQ} {c : tC} {L : tL} {n : Nat} {p : Int} (hR : RX c) (hn : c 50 0 2 = (n : Int)) (hp : inR p) (k : ∀ r w, (r, w) = gLacks (c 50 0) (c 51) p → Q (some (.int (iI r))) (xRe c w) L) : En z (d + 20) MX10_lacks Q 0 [some (.ref (xad z 0 0)), some (.int (iI p))] [] c L := by
  have p1 := hp.1
  have p2 := hp.2
  have hg := R0_rng hR
  have hc := R0_scal hR
  refine r_aloadN 1 dX10_lacks_0 rfl rfl ?_
  refine r_getq 4 dX10_lacks_1 rfl fX10_26 (by decide) (sh_0 z _) rfl ?_
  refine r_iloadN 5 dX10_lacks_4 rfl rfl ?_
  refine r_cv1 8 dX10_lacks_5 rfl gX10_149 rfl (by decide) (sh_8 z _) rfl rfl (Nat.le_of_ble_eq_true rfl) (Nat.le_of_ble_eq_true rfl) rfl ?_
  refine x_isPerson hR (by assumption) (fun y5 => ?_) (fun y5 => ?_)
  · refine r_ifeqF 11 dX10_lacks_8 rfl 22 (by decide) (by decide) (by decide) ?_
    obtain ⟨p0, hp00⟩ := Int.eq_ofNat_of_zero_le (show 0 ≤ p by omega)
    subst hp00
    refine r_aloadN 12 dX10_lacks_11 rfl rfl ?_
    refine r_getq 15 dX10_lacks_12 rfl fX10_26 (by decide) (sh_0 z _) rfl ?_
    refine r_iloadN 16 dX10_lacks_15 rfl rfl ?_
    refine r_cv1 19 dX10_lacks_16 rfl gX10_313 rfl (by decide) (sh_8 z _) rfl rfl (Nat.le_of_ble_eq_true rfl) (Nat.le_of_ble_eq_true rfl) rfl ?_
    refine x_lackOf hR hn (p := p0) (by omega) (fun r16 e16 => ?_)
    refine r_goto 23 dX10_lacks_19 (by decide) ?_
    refine r_ret dX10_lacks_23 rfl (k _ 0 ?_)
    unfold gLacks
    rw [if_pos (by omega)]
    rw [Int.toNat_natCast, e16, hn, Int.toNat_natCast]
  · refine r_ifeqT 22 0 dX10_lacks_8 (by decide) (by decide) (by decide) ?_
    refine r_iconst 23 dX10_lacks_22 rfl ?_
    refine r_ret dX10_lacks_23 rfl (k _ 0 ?_)
    unfold gLacks
    rw [if_neg (by omega)]
    
theorem x_beats {z : xZ} {d : Nat} {Q : tQ} {c : tC} {L : tL} {n : Nat} {p h : Int} (hR : RX c) (hn : c 50 0 2 = (n : Int)) (hp : inR p) (hh : inR h) (k : ∀ r w, (r, w) = gBeats (c 50 0) (c 51) p h → Q (some (.int (iI r))) (xRe c w) L) : En z (d + 20) MX10_beats Q 0 [some (.ref (xad z 0 0)), some (.int (iI p)), some (.int (iI h))] [] c L := by
  have p1 := hp.1
  have p2 := hp.2
  have h1 := hh.1
  have h2 := hh.2
  have hg := R0_rng hR
  have hc := R0_scal hR
  refine r_aloadN 1 dX10_beats_0 rfl rfl ?_
  refine r_getq 4 dX10_beats_1 rfl fX10_26 (by decide) (sh_0 z _) rfl ?_
  refine r_iloadN 5 dX10_beats_4 rfl rfl ?_
  refine r_cv1 8 dX10_beats_5 rfl gX10_149 rfl (by decide) (sh_8 z _) rfl rfl (Nat.le_of_ble_eq_true rfl) (Nat.le_of_ble_eq_true rfl) rfl ?_
  refine x_isPerson hR (by assumption) (fun y5 => ?_) (fun y5 => ?_)
  · refine r_ifeqF 11 dX10_beats_8 rfl 37 (by decide) (by decide) (by decide) ?_
    refine r_iloadN 12 dX10_beats_11 rfl rfl ?_
    refine r_cs1 15 dX10_beats_12 rfl gX10_195 (Nat.le_of_ble_eq_true rfl) (Nat.le_of_ble_eq_true rfl) rfl ?_
    refine x_isHour (by assumption) (fun y12 => ?_) (fun y12 => ?_)
    · refine r_ifeqF 18 dX10_beats_15 rfl 37 (by decide) (by decide) (by decide) ?_
      obtain ⟨p0, hp00⟩ := Int.eq_ofNat_of_zero_le (show 0 ≤ p by omega)
      subst hp00
      refine r_aloadN 19 dX10_beats_18 rfl rfl ?_
      refine r_getq 22 dX10_beats_19 rfl fX10_26 (by decide) (sh_0 z _) rfl ?_
      refine r_aloadN 23 dX10_beats_22 rfl rfl ?_
      refine r_getq 26 dX10_beats_23 rfl fX10_26 (by decide) (sh_0 z _) rfl ?_
      refine r_iloadN 27 dX10_beats_26 rfl rfl ?_
      refine r_iloadN 28 dX10_beats_27 rfl rfl ?_
      refine r_cv2 31 dX10_beats_28 rfl gX10_250 rfl (by decide) (sh_8 z _) rfl rfl (Nat.le_of_ble_eq_true rfl) (Nat.le_of_ble_eq_true rfl) rfl ?_
      refine x_heardBy hR hn (p := p0) (by omega) (by omega) (fun r28 e28 => ?_)
      unfold fHeard at e28
      rw [hn, Int.toNat_natCast] at e28
      subst e28
      refine r_cv1 34 dX10_beats_31 rfl gX10_336 rfl (by decide) (sh_8 z _) rfl rfl (Nat.le_of_ble_eq_true rfl) (Nat.le_of_ble_eq_true rfl) rfl ?_
      refine x_countBeats hR hn (fun r31 e31 => ?_)
      refine r_goto 38 dX10_beats_34 (by decide) ?_
      refine r_ret dX10_beats_38 rfl (k _ 0 ?_)
      unfold gBeats
      rw [if_pos (by omega)]
      rw [Int.toNat_natCast, e31, hn, Int.toNat_natCast]
    · refine r_ifeqT 37 0 dX10_beats_15 (by decide) (by decide) (by decide) ?_
      refine r_iconst 38 dX10_beats_37 rfl ?_
      refine r_ret dX10_beats_38 rfl (k _ 0 ?_)
      unfold gBeats
      rw [if_neg (by omega)]
      
  · refine r_ifeqT 37 0 dX10_beats_8 (by decide) (by decide) (by decide) ?_
    refine r_iconst 38 dX10_beats_37 rfl ?_
    refine r_ret dX10_beats_38 rfl (k _ 0 ?_)
    unfold gBeats
    rw [if_neg (by omega)]
    
theorem x_told {z : xZ} {d : Nat} {Q : tQ} {c : tC} {L : tL} {n : Nat} {w0 : Int} (hR : RX c) (hn : c 50 0 2 = (n : Int)) (hw0 : inR w0) (k : ∀ r w, (r, w) = gTold (c 50 0) (c 51) w0 → Q (some (.int (iI r))) (xRe c w) L) : En z (d + 20) MX10_told Q 0 [some (.ref (xad z 0 0)), some (.int (iI w0))] [] c L := by
  have w01 := hw0.1
  have w02 := hw0.2
  have hg := R0_rng hR
  have hc := R0_scal hR
  refine r_iloadN 1 dX10_told_0 rfl rfl ?_
  refine r_iconst 2 dX10_told_1 rfl ?_
  refine r_iconst 3 dX10_told_2 rfl ?_
  refine r_cs3 6 dX10_told_3 rfl gX10_137 (Nat.le_of_ble_eq_true rfl) (Nat.le_of_ble_eq_true rfl) rfl ?_
  refine x_isWithin (by assumption) (by omega) (by omega) (fun y3 => ?_) (fun y3 => ?_)
  · refine r_ifeqF 9 dX10_told_6 rfl 20 (by decide) (by decide) (by decide) ?_
    refine r_aloadN 10 dX10_told_9 rfl rfl ?_
    refine r_getq 13 dX10_told_10 rfl fX10_26 (by decide) (sh_0 z _) rfl ?_
    refine r_iloadN 14 dX10_told_13 rfl rfl ?_
    refine r_cv1 17 dX10_told_14 rfl gX10_316 rfl (by decide) (sh_8 z _) rfl rfl (Nat.le_of_ble_eq_true rfl) (Nat.le_of_ble_eq_true rfl) rfl ?_
    refine x_countLetters hR hn (by omega) (fun r14 e14 => ?_)
    refine r_goto 26 dX10_told_17 (by decide) ?_
    first
      | (refine r_ret dX10_told_26 rfl (k _ 0 ?_); unfold gTold; rw [if_pos y3, e14])
      | (refine r_ret dX10_told_26 rfl (k _ 5 ?_); unfold gTold; rw [if_neg y3])
  · refine r_ifeqT 20 0 dX10_told_6 (by decide) (by decide) (by decide) ?_
    refine r_aloadN 21 dX10_told_20 rfl rfl ?_
    refine r_bipush 23 dX10_told_21 rfl (by decide) ?_
    refine r_cv1 26 dX10_told_23 rfl gX10_60 rfl (by decide) (sh_0 z _) rfl rfl (Nat.le_of_ble_eq_true rfl) (Nat.le_of_ble_eq_true rfl) rfl ?_
    refine x_refuse (k0 := 5) (by decide) (by decide) ?_
    first
      | (refine r_ret dX10_told_26 rfl (k _ 0 ?_); unfold gTold; rw [if_pos y3, e14])
      | (refine r_ret dX10_told_26 rfl (k _ 5 ?_); unfold gTold; rw [if_neg y3])
theorem i_rng (a b : Int) : -2147483648 ≤ iand a b ∧ iand a b < 2147483648 := ⟨Int32.le_toInt _, Int32.toInt_lt _⟩
theorem x_rid {z : xZ} {d : Nat} {Q : tQ} {c : tC} {L : tL} {n : Nat} {v a b : Int} (hR : RX c) (hn : c 50 0 2 = (n : Int)) (hv : inR v) (ha : inR a) (hb : inR b) (k : ∀ r w, (r, w) = gRid (c 50 0) (c 51) v a b → Q (some (.int (iI r))) (xRe c w) L) : En z (d + 20) MX10_rid Q 0 [some (.ref (xad z 0 0)), some (.int (iI v)), some (.int (iI a)), some (.int (iI b))] [] c L := by
  have v1 := hv.1
  have v2 := hv.2
  have a1 := ha.1
  have a2 := ha.2
  have b1 := hb.1
  have b2 := hb.2
  have hg := R0_rng hR
  have hc := R0_scal hR
  refine r_iloadN 1 dX10_rid_0 rfl rfl ?_
  refine r_aloadN 2 dX10_rid_1 rfl rfl ?_
  refine r_getq 5 dX10_rid_2 rfl fX10_26 (by decide) (sh_0 z _) rfl ?_
  refine r_cv0 8 dX10_rid_5 rfl gX10_319 rfl (by decide) (sh_8 z _) rfl rfl (Nat.le_of_ble_eq_true rfl) (Nat.le_of_ble_eq_true rfl) rfl ?_
  refine x_allSources hR hn (fun r5 e5 => ?_)
  refine r_iconst 9 dX10_rid_8 rfl ?_
  refine r_ixor 10 dX10_rid_9 rfl ?_
  refine r_iand 11 dX10_rid_10 rfl ?_
  rw [e5]
  refine r_ifeq 20 14 dX10_rid_11 rfl (by decide) (i_rng _ _) (fun h11 => ?_) (fun h11 => ?_)
  · refine r_iloadN 21 dX10_rid_20 rfl rfl ?_
    refine r_iloadN 22 dX10_rid_21 rfl rfl ?_
    refine r_cs2 25 dX10_rid_22 rfl gX10_322 (Nat.le_of_ble_eq_true rfl) (Nat.le_of_ble_eq_true rfl) rfl ?_
    refine x_areHours (by assumption) (by assumption) (fun y22 => ?_) (fun y22 => ?_)
    · refine r_ifeqF 28 dX10_rid_25 rfl 41 (by decide) (by decide) (by decide) ?_
      have hset := (set_ok hv (show n ≤ 14 by omega)).mp h11
      have hp14 : (2 : Nat) ^ n ≤ 2 ^ 14 := Nat.pow_le_pow_right (by decide) (by omega)
      obtain ⟨X, hX0⟩ := Int.eq_ofNat_of_zero_le (show 0 ≤ v by omega)
      subst hX0
      refine r_aloadN 29 dX10_rid_28 rfl rfl ?_
      refine r_getq 32 dX10_rid_29 rfl fX10_18 (by decide) (sh_0 z _) rfl ?_
      refine r_iloadN 33 dX10_rid_32 rfl rfl ?_
      refine r_iloadN 34 dX10_rid_33 rfl rfl ?_
      refine r_iloadN 35 dX10_rid_34 rfl rfl ?_
      refine r_cv3 38 dX10_rid_35 rfl gX10_325 rfl (by decide) (sh_5 z _) rfl rfl (Nat.le_of_ble_eq_true rfl) (Nat.le_of_ble_eq_true rfl) rfl ?_
      refine x_countRid hR hn (X := X) (by omega) (by omega) (fun r35 e35 => ?_)
      refine r_goto 47 dX10_rid_38 (by decide) ?_
      first
        | (refine r_ret dX10_rid_47 rfl (k _ 0 ?_); unfold gRid; rw [if_neg (by rw [hn, Int.toNat_natCast]; omega), if_neg (by omega), e35, hn, Int.toNat_natCast, Int.toNat_natCast]; rfl)
        | (refine r_ret dX10_rid_47 rfl (k _ 6 ?_); unfold gRid; rw [if_neg (by rw [hn, Int.toNat_natCast]; exact fun q => q ((set_ok hv (show n ≤ 14 by omega)).mp h11)), if_pos (by omega)])
    · refine r_ifeqT 41 0 dX10_rid_25 (by decide) (by decide) (by decide) ?_
      refine r_aloadN 42 dX10_rid_41 rfl rfl ?_
      refine r_bipush 44 dX10_rid_42 rfl (by decide) ?_
      refine r_cv1 47 dX10_rid_44 rfl gX10_60 rfl (by decide) (sh_0 z _) rfl rfl (Nat.le_of_ble_eq_true rfl) (Nat.le_of_ble_eq_true rfl) rfl ?_
      refine x_refuse (k0 := 6) (by decide) (by decide) ?_
      first
        | (refine r_ret dX10_rid_47 rfl (k _ 0 ?_); unfold gRid; rw [if_neg (by rw [hn, Int.toNat_natCast]; omega), if_neg (by omega), e35, hn, Int.toNat_natCast, Int.toNat_natCast]; rfl)
        | (refine r_ret dX10_rid_47 rfl (k _ 6 ?_); unfold gRid; rw [if_neg (by rw [hn, Int.toNat_natCast]; exact fun q => q ((set_ok hv (show n ≤ 14 by omega)).mp h11)), if_pos (by omega)])
  · refine r_aloadN 15 dX10_rid_14 rfl rfl ?_
    refine r_iconst 16 dX10_rid_15 rfl ?_
    refine r_cv1 19 dX10_rid_16 rfl gX10_60 rfl (by decide) (sh_0 z _) rfl rfl (Nat.le_of_ble_eq_true rfl) (Nat.le_of_ble_eq_true rfl) rfl ?_
    refine x_refuse (k0 := 1) (by decide) (by decide) ?_
    refine r_ret dX10_rid_19 rfl (k _ 1 ?_)
    unfold gRid
    rw [if_pos (fun q => h11 ((set_ok hv (show n ≤ 14 by omega)).mpr (by rw [hn, Int.toNat_natCast] at q; exact q)))]
theorem x_best {z : xZ} {d : Nat} {Q : tQ} {c : tC} {L : tL} {n : Nat} {u a b : Int} (hR : RX c) (hn : c 50 0 2 = (n : Int)) (hu : inR u) (ha : inR a) (hb : inR b) (k : ∀ r w (c2 : tC), kfr c c2 → (r, w) = gBest (c 50 0) (c 51) u a b → Q (some (.int (iI r))) (xRe c2 w) L) : En z (d + 20) MX10_best Q 0 [some (.ref (xad z 0 0)), some (.int (iI u)), some (.int (iI a)), some (.int (iI b))] [] c L := by
  have u1 := hu.1
  have u2 := hu.2
  have a1 := ha.1
  have a2 := ha.2
  have b1 := hb.1
  have b2 := hb.2
  have hg := R0_rng hR
  have hc := R0_scal hR
  refine r_iloadN 1 dX10_best_0 rfl rfl ?_
  refine r_iconst 2 dX10_best_1 rfl ?_
  refine r_sipush 5 dX10_best_2 rfl (by decide) ?_
  refine r_cs3 8 dX10_best_5 rfl gX10_137 (Nat.le_of_ble_eq_true rfl) (Nat.le_of_ble_eq_true rfl) rfl ?_
  refine x_isWithin (by assumption) (by omega) (by omega) (fun y5 => ?_) (fun y5 => ?_)
  · refine r_ifeqF 11 dX10_best_8 rfl 19 (by decide) (by decide) (by decide) ?_
    refine r_iloadN 12 dX10_best_11 rfl rfl ?_
    refine r_iloadN 13 dX10_best_12 rfl rfl ?_
    refine r_cs2 16 dX10_best_13 rfl gX10_322 (Nat.le_of_ble_eq_true rfl) (Nat.le_of_ble_eq_true rfl) rfl ?_
    refine x_areHours (by assumption) (by assumption) (fun y13 => ?_) (fun y13 => ?_)
    · refine r_ifneT 26 0 dX10_best_16 (by decide) (by decide) (by decide) ?_
      obtain ⟨pe, hpe⟩ := Int.eq_ofNat_of_zero_le (show 0 ≤ c 50 0 1 by omega)
      refine r_aloadN 27 dX10_best_26 rfl rfl ?_
      refine r_getq 30 dX10_best_27 rfl fX10_18 (by decide) (sh_0 z _) rfl ?_
      refine r_iloadN 31 dX10_best_30 rfl rfl ?_
      refine r_iloadN 32 dX10_best_31 rfl rfl ?_
      refine r_iloadN 33 dX10_best_32 rfl rfl ?_
      refine r_cv3 36 dX10_best_33 rfl gX10_329 rfl (by decide) (sh_5 z _) rfl rfl (Nat.le_of_ble_eq_true rfl) (Nat.le_of_ble_eq_true rfl) rfl ?_
      refine x_bestSet hR hn hpe (by omega) (by omega) (fun c2 Y f2 P2 => ?_)
      refine r_ret dX10_best_36 rfl (k _ 0 c2 f2 ?_)
      unfold gBest
      rw [if_neg (by omega), hn, hpe, Int.toNat_natCast, Int.toNat_natCast, theN_eq (P := fBestP (c 51) (gMask (c 50 0) (c 51) a b) n pe u) (x := Y) P2 (fun Z hZ => (fBestP_one (by omega) (fun s hs => (R0_src hR s (by omega)).2.2.2.2.2.2.2.2.1) P2 hZ).symm)]
    · refine r_ifneF 19 dX10_best_16 rfl 26 (by decide) (by decide) (by decide) ?_
      refine r_aloadN 20 dX10_best_19 rfl rfl ?_
      refine r_bipush 22 dX10_best_20 rfl (by decide) ?_
      refine r_cv1 25 dX10_best_22 rfl gX10_60 rfl (by decide) (sh_0 z _) rfl rfl (Nat.le_of_ble_eq_true rfl) (Nat.le_of_ble_eq_true rfl) rfl ?_
      refine x_refuse (k0 := 6) (by decide) (by decide) ?_
      refine r_ret dX10_best_25 rfl (k _ 6 _ (kfr_rfl c) ?_)
      unfold gBest
      rw [if_pos (by omega)]
  · refine r_ifeqT 19 0 dX10_best_8 (by decide) (by decide) (by decide) ?_
    refine r_aloadN 20 dX10_best_19 rfl rfl ?_
    refine r_bipush 22 dX10_best_20 rfl (by decide) ?_
    refine r_cv1 25 dX10_best_22 rfl gX10_60 rfl (by decide) (sh_0 z _) rfl rfl (Nat.le_of_ble_eq_true rfl) (Nat.le_of_ble_eq_true rfl) rfl ?_
    refine x_refuse (k0 := 6) (by decide) (by decide) ?_
    refine r_ret dX10_best_25 rfl (k _ 6 _ (kfr_rfl c) ?_)
    unfold gBest
    rw [if_pos (by omega)]
theorem x_meter {z : xZ} {d : Nat} {Q : tQ} {c : tC} {L : tL} {n : Nat} {v lo a b : Int} (hR : RX c) (hn : c 50 0 2 = (n : Int)) (hv : inR v) (hlo : inR lo) (ha : inR a) (hb : inR b) (k : ∀ r w, (r, w) = gMeter (c 50 0) (c 51) v lo a b → Q (some (.int (iI r))) (xRe c w) L) : En z (d + 20) MX10_meter Q 0 [some (.ref (xad z 0 0)), some (.int (iI v)), some (.int (iI lo)), some (.int (iI a)), some (.int (iI b))] [] c L := by
  have v1 := hv.1
  have v2 := hv.2
  have lo1 := hlo.1
  have lo2 := hlo.2
  have a1 := ha.1
  have a2 := ha.2
  have b1 := hb.1
  have b2 := hb.2
  have hg := R0_rng hR
  have hc := R0_scal hR
  refine r_iloadN 1 dX10_meter_0 rfl rfl ?_
  refine r_cs1 4 dX10_meter_1 rfl gX10_131 (Nat.le_of_ble_eq_true rfl) (Nat.le_of_ble_eq_true rfl) rfl ?_
  refine x_isSpot (by assumption) (fun y1 => ?_) (fun y1 => ?_)
  · refine r_ifneT 13 0 dX10_meter_4 (by decide) (by decide) (by decide) ?_
    refine r_iloadN 14 dX10_meter_13 rfl rfl ?_
    refine r_iconst 15 dX10_meter_14 rfl ?_
    refine r_bipush 17 dX10_meter_15 rfl (by decide) ?_
    refine r_cs3 20 dX10_meter_17 rfl gX10_137 (Nat.le_of_ble_eq_true rfl) (Nat.le_of_ble_eq_true rfl) rfl ?_
    refine x_isWithin (by assumption) (by omega) (by omega) (fun y17 => ?_) (fun y17 => ?_)
    · refine r_ifeqF 23 dX10_meter_20 rfl 32 (by decide) (by decide) (by decide) ?_
      refine r_iloadN 24 dX10_meter_23 rfl rfl ?_
      refine r_iload 26 dX10_meter_24 rfl rfl ?_
      refine r_cs2 29 dX10_meter_26 rfl gX10_322 (Nat.le_of_ble_eq_true rfl) (Nat.le_of_ble_eq_true rfl) rfl ?_
      refine x_areHours (by assumption) (by assumption) (fun y26 => ?_) (fun y26 => ?_)
      · refine r_ifneT 39 0 dX10_meter_29 (by decide) (by decide) (by decide) ?_
        obtain ⟨sp, hsp0⟩ := Int.eq_ofNat_of_zero_le (show 0 ≤ v by omega)
        subst hsp0
        refine r_aloadN 40 dX10_meter_39 rfl rfl ?_
        refine r_getq 43 dX10_meter_40 rfl fX10_18 (by decide) (sh_0 z _) rfl ?_
        refine r_iloadN 44 dX10_meter_43 rfl rfl ?_
        refine r_iloadN 45 dX10_meter_44 rfl rfl ?_
        refine r_aloadN 46 dX10_meter_45 rfl rfl ?_
        refine r_getq 49 dX10_meter_46 rfl fX10_26 (by decide) (sh_0 z _) rfl ?_
        refine r_iloadN 50 dX10_meter_49 rfl rfl ?_
        refine r_iload 52 dX10_meter_50 rfl rfl ?_
        refine r_cv2 55 dX10_meter_52 rfl gX10_339 rfl (by decide) (sh_8 z _) rfl rfl (Nat.le_of_ble_eq_true rfl) (Nat.le_of_ble_eq_true rfl) rfl ?_
        refine x_soundingWithin hR hn (by omega) (fun r52 e52 => ?_)
        refine r_cv3 58 dX10_meter_55 rfl gX10_342 rfl (by decide) (sh_5 z _) rfl rfl (Nat.le_of_ble_eq_true rfl) (Nat.le_of_ble_eq_true rfl) rfl ?_
        refine x_countMetered hR hn (sp := sp) (by omega) (by omega) e52 (fun r55 e55 => ?_)
        refine r_ret dX10_meter_58 rfl (k _ 0 ?_)
        unfold gMeter
        rw [if_neg (by omega), if_neg (by omega), e55, hn, Int.toNat_natCast]
        rfl
      · refine r_ifneF 32 dX10_meter_29 rfl 39 (by decide) (by decide) (by decide) ?_
        refine r_aloadN 33 dX10_meter_32 rfl rfl ?_
        refine r_bipush 35 dX10_meter_33 rfl (by decide) ?_
        refine r_cv1 38 dX10_meter_35 rfl gX10_60 rfl (by decide) (sh_0 z _) rfl rfl (Nat.le_of_ble_eq_true rfl) (Nat.le_of_ble_eq_true rfl) rfl ?_
        refine x_refuse (k0 := 6) (by decide) (by decide) ?_
        refine r_ret dX10_meter_38 rfl (k _ 6 ?_)
        unfold gMeter
        rw [if_neg (by omega), if_pos (by omega)]
    · refine r_ifeqT 32 0 dX10_meter_20 (by decide) (by decide) (by decide) ?_
      refine r_aloadN 33 dX10_meter_32 rfl rfl ?_
      refine r_bipush 35 dX10_meter_33 rfl (by decide) ?_
      refine r_cv1 38 dX10_meter_35 rfl gX10_60 rfl (by decide) (sh_0 z _) rfl rfl (Nat.le_of_ble_eq_true rfl) (Nat.le_of_ble_eq_true rfl) rfl ?_
      refine x_refuse (k0 := 6) (by decide) (by decide) ?_
      refine r_ret dX10_meter_38 rfl (k _ 6 ?_)
      unfold gMeter
      rw [if_neg (by omega), if_pos (by omega)]
  · refine r_ifneF 7 dX10_meter_4 rfl 13 (by decide) (by decide) (by decide) ?_
    refine r_aloadN 8 dX10_meter_7 rfl rfl ?_
    refine r_iconst 9 dX10_meter_8 rfl ?_
    refine r_cv1 12 dX10_meter_9 rfl gX10_60 rfl (by decide) (sh_0 z _) rfl rfl (Nat.le_of_ble_eq_true rfl) (Nat.le_of_ble_eq_true rfl) rfl ?_
    refine x_refuse (k0 := 1) (by decide) (by decide) ?_
    refine r_ret dX10_meter_12 rfl (k _ 1 ?_)
    unfold gMeter
    rw [if_pos (by omega)]
theorem x_place {z : xZ} {d : Nat} {Q : tQ} {c : tC} {L : tL} {n : Nat} {lo a b : Int} (hR : RX c) (hn : c 50 0 2 = (n : Int)) (hlo : inR lo) (ha : inR a) (hb : inR b) (k : ∀ r w, (r, w) = gPlace (c 50 0) (c 51) lo a b → Q (some (.int (iI r))) (xRe c w) L) : En z (d + 20) MX10_place Q 0 [some (.ref (xad z 0 0)), some (.int (iI lo)), some (.int (iI a)), some (.int (iI b))] [] c L := by
  have lo1 := hlo.1
  have lo2 := hlo.2
  have a1 := ha.1
  have a2 := ha.2
  have b1 := hb.1
  have b2 := hb.2
  have hg := R0_rng hR
  have hc := R0_scal hR
  refine r_iloadN 1 dX10_place_0 rfl rfl ?_
  refine r_iconst 2 dX10_place_1 rfl ?_
  refine r_bipush 4 dX10_place_2 rfl (by decide) ?_
  refine r_cs3 7 dX10_place_4 rfl gX10_137 (Nat.le_of_ble_eq_true rfl) (Nat.le_of_ble_eq_true rfl) rfl ?_
  refine x_isWithin (by assumption) (by omega) (by omega) (fun y4 => ?_) (fun y4 => ?_)
  · refine r_ifeqF 10 dX10_place_7 rfl 18 (by decide) (by decide) (by decide) ?_
    refine r_iloadN 11 dX10_place_10 rfl rfl ?_
    refine r_iloadN 12 dX10_place_11 rfl rfl ?_
    refine r_cs2 15 dX10_place_12 rfl gX10_322 (Nat.le_of_ble_eq_true rfl) (Nat.le_of_ble_eq_true rfl) rfl ?_
    refine x_areHours (by assumption) (by assumption) (fun y12 => ?_) (fun y12 => ?_)
    · refine r_ifneT 25 0 dX10_place_15 (by decide) (by decide) (by decide) ?_
      refine r_aloadN 26 dX10_place_25 rfl rfl ?_
      refine r_getq 29 dX10_place_26 rfl fX10_18 (by decide) (sh_0 z _) rfl ?_
      refine r_iloadN 30 dX10_place_29 rfl rfl ?_
      refine r_iloadN 31 dX10_place_30 rfl rfl ?_
      refine r_iloadN 32 dX10_place_31 rfl rfl ?_
      refine r_cv3 35 dX10_place_32 rfl gX10_345 rfl (by decide) (sh_5 z _) rfl rfl (Nat.le_of_ble_eq_true rfl) (Nat.le_of_ble_eq_true rfl) rfl ?_
      refine x_spotForMeter hR hn (by omega) (by omega) (fun r32 e32 => ?_)
      refine r_ret dX10_place_35 rfl (k _ 0 ?_)
      unfold gPlace
      rw [if_neg (by omega), e32, hn, Int.toNat_natCast]
      rfl
    · refine r_ifneF 18 dX10_place_15 rfl 25 (by decide) (by decide) (by decide) ?_
      refine r_aloadN 19 dX10_place_18 rfl rfl ?_
      refine r_bipush 21 dX10_place_19 rfl (by decide) ?_
      refine r_cv1 24 dX10_place_21 rfl gX10_60 rfl (by decide) (sh_0 z _) rfl rfl (Nat.le_of_ble_eq_true rfl) (Nat.le_of_ble_eq_true rfl) rfl ?_
      refine x_refuse (k0 := 6) (by decide) (by decide) ?_
      refine r_ret dX10_place_24 rfl (k _ 6 ?_)
      unfold gPlace
      rw [if_pos (by omega)]
  · refine r_ifeqT 18 0 dX10_place_7 (by decide) (by decide) (by decide) ?_
    refine r_aloadN 19 dX10_place_18 rfl rfl ?_
    refine r_bipush 21 dX10_place_19 rfl (by decide) ?_
    refine r_cv1 24 dX10_place_21 rfl gX10_60 rfl (by decide) (sh_0 z _) rfl rfl (Nat.le_of_ble_eq_true rfl) (Nat.le_of_ble_eq_true rfl) rfl ?_
    refine x_refuse (k0 := 6) (by decide) (by decide) ?_
    refine r_ret dX10_place_24 rfl (k _ 6 ?_)
    unfold gPlace
    rw [if_pos (by omega)]
theorem x_bed {z : xZ} {d : Nat} {Q : tQ} {c : tC} {L : tL} {n : Nat} {p a b : Int} (hR : RX c) (hn : c 50 0 2 = (n : Int)) (hp : inR p) (ha : inR a) (hb : inR b) (k : ∀ r w, (r, w) = gBed (c 50 0) (c 51) p a b → Q (some (.int (iI r))) (xRe c w) L) : En z (d + 20) MX10_bed Q 0 [some (.ref (xad z 0 0)), some (.int (iI p)), some (.int (iI a)), some (.int (iI b))] [] c L := by
  have p1 := hp.1
  have p2 := hp.2
  have a1 := ha.1
  have a2 := ha.2
  have b1 := hb.1
  have b2 := hb.2
  have hg := R0_rng hR
  have hc := R0_scal hR
  refine r_aloadN 1 dX10_bed_0 rfl rfl ?_
  refine r_getq 4 dX10_bed_1 rfl fX10_26 (by decide) (sh_0 z _) rfl ?_
  refine r_iloadN 5 dX10_bed_4 rfl rfl ?_
  refine r_cv1 8 dX10_bed_5 rfl gX10_149 rfl (by decide) (sh_8 z _) rfl rfl (Nat.le_of_ble_eq_true rfl) (Nat.le_of_ble_eq_true rfl) rfl ?_
  refine x_isPerson hR (by assumption) (fun y5 => ?_) (fun y5 => ?_)
  · refine r_ifneT 17 0 dX10_bed_8 (by decide) (by decide) (by decide) ?_
    refine r_iloadN 18 dX10_bed_17 rfl rfl ?_
    refine r_iloadN 19 dX10_bed_18 rfl rfl ?_
    refine r_cs2 22 dX10_bed_19 rfl gX10_322 (Nat.le_of_ble_eq_true rfl) (Nat.le_of_ble_eq_true rfl) rfl ?_
    refine x_areHours (by assumption) (by assumption) (fun y19 => ?_) (fun y19 => ?_)
    · refine r_ifeqF 25 dX10_bed_22 rfl 38 (by decide) (by decide) (by decide) ?_
      obtain ⟨p0, hp00⟩ := Int.eq_ofNat_of_zero_le (show 0 ≤ p by omega)
      subst hp00
      have hpp := R0_per hR p0 (by omega)
      obtain ⟨ho, hho⟩ := Int.eq_ofNat_of_zero_le (show 0 ≤ c 51 14 p0 by omega)
      refine r_aloadN 26 dX10_bed_25 rfl rfl ?_
      refine r_getq 29 dX10_bed_26 rfl fX10_18 (by decide) (sh_0 z _) rfl ?_
      refine r_iloadN 30 dX10_bed_29 rfl rfl ?_
      refine r_iloadN 31 dX10_bed_30 rfl rfl ?_
      refine r_iloadN 32 dX10_bed_31 rfl rfl ?_
      refine r_cv3 35 dX10_bed_32 rfl gX10_348 rfl (by decide) (sh_5 z _) rfl rfl (Nat.le_of_ble_eq_true rfl) (Nat.le_of_ble_eq_true rfl) rfl ?_
      refine x_spotForBed hR hn (p := p0) (by omega) hho (by omega) (fun r32 l32 b32 => ?_)
      refine r_goto 44 dX10_bed_35 (by decide) ?_
      first
        | (refine r_ret dX10_bed_44 rfl (k _ 0 ?_); unfold gBed; rw [if_neg (by omega), if_neg (by omega), hn, Int.toNat_natCast, Int.toNat_natCast, hho, Int.toNat_natCast, theN_eq (P := fBedP (c 51) (gMask (c 50 0) (c 51) a b) p0 n ho) (x := r32) ⟨l32, b32⟩ (fun y hy => fBedP_one ⟨l32, b32⟩ hy)])
        | (refine r_ret dX10_bed_44 rfl (k _ 6 ?_); unfold gBed; rw [if_neg (by omega), if_pos (by omega)])
    · refine r_ifeqT 38 0 dX10_bed_22 (by decide) (by decide) (by decide) ?_
      refine r_aloadN 39 dX10_bed_38 rfl rfl ?_
      refine r_bipush 41 dX10_bed_39 rfl (by decide) ?_
      refine r_cv1 44 dX10_bed_41 rfl gX10_60 rfl (by decide) (sh_0 z _) rfl rfl (Nat.le_of_ble_eq_true rfl) (Nat.le_of_ble_eq_true rfl) rfl ?_
      refine x_refuse (k0 := 6) (by decide) (by decide) ?_
      first
        | (refine r_ret dX10_bed_44 rfl (k _ 0 ?_); unfold gBed; rw [if_neg (by omega), if_neg (by omega), hn, Int.toNat_natCast, Int.toNat_natCast, hho, Int.toNat_natCast, theN_eq (P := fBedP (c 51) (gMask (c 50 0) (c 51) a b) p0 n ho) (x := r32) ⟨l32, b32⟩ (fun y hy => fBedP_one ⟨l32, b32⟩ hy)])
        | (refine r_ret dX10_bed_44 rfl (k _ 6 ?_); unfold gBed; rw [if_neg (by omega), if_pos (by omega)])
  · refine r_ifneF 11 dX10_bed_8 rfl 17 (by decide) (by decide) (by decide) ?_
    refine r_aloadN 12 dX10_bed_11 rfl rfl ?_
    refine r_iconst 13 dX10_bed_12 rfl ?_
    refine r_cv1 16 dX10_bed_13 rfl gX10_60 rfl (by decide) (sh_0 z _) rfl rfl (Nat.le_of_ble_eq_true rfl) (Nat.le_of_ble_eq_true rfl) rfl ?_
    refine x_refuse (k0 := 1) (by decide) (by decide) ?_
    refine r_ret dX10_bed_16 rfl (k _ 1 ?_)
    unfold gBed
    rw [if_pos (by omega)]
