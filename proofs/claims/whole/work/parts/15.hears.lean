theorem fSome_mono {S : sS} {A : sA} {s : Nat} {a : Int} {i : Nat} (h : fSome S A s a i = true) : ∀ j, i ≤ j → fSome S A s a j = true := by
  intro j hij
  induction j with
  | zero => rw [show i = 0 by omega] at h; exact h
  | succ j ih =>
    by_cases e : i = j + 1
    · rw [← e]; exact h
    · rw [fSome, ih (by omega), Bool.true_or]
theorem x_sndW_loop {z : xZ} {d : Nat} {Q : tQ} {c : tC} {L : tL} {n : Nat} {a b : Int} (hR : RX c) (hn : c 50 0 2 = (n : Int)) (ha : 0 ≤ a ∧ a ≤ b ∧ b ≤ 239) (kk : ∀ r, r = ((mkN (fun s => fSome (c 50 0) (c 51) s a (b + 1 - a).toNat) n : Nat) : Int) → Q (some (.int (iI r))) c L) : ∀ (k i : Nat) (m x : Int), a + i + k = b + 1 → x = a + i → m = ((mkN (fun s => fSome (c 50 0) (c 51) s a i) n : Nat) : Int) → En z (d + 5) MX9_soundingWithin Q 5 [some (.ref (xad z 8 0)), some (.int (iI a)), some (.int (iI b)), some (.int (iI m)), some (.int (iI x))] [] c L := by
  have hg := R0_rng hR
  have hc := R0_scal hR
  have hlt : ∀ i, mkN (fun s => fSome (c 50 0) (c 51) s a i) n < 2 ^ 31 := fun i => mkN_lt31 _ (by omega)
  have hlt2 : mkN (fun _ => true) n < 2 ^ 31 := mkN_lt31 _ (by omega)
  intro k
  induction k with
  | zero =>
    intro i m x hi hx hm
    have := hlt i
    refine r_iload 7 dX9_soundingWithin_5 rfl rfl ?_
    refine r_iloadN 8 dX9_soundingWithin_7 rfl rfl ?_
    refine r_icgt 34 11 dX9_soundingWithin_8 rfl (by decide) (by omega) (by omega) (fun h8 => ?_) (fun h8 => ?_)
    · refine r_iloadN 35 dX9_soundingWithin_34 rfl rfl ?_
      refine r_ret dX9_soundingWithin_35 rfl (kk _ ?_)
      first
        | (rw [hm, show i = (b + 1 - a).toNat by omega]; done)
        | (exfalso; omega)
        | (rw [h16, e13]
           refine congrArg Nat.cast (mkN_ext fun s hs => ?_)
           have e : mkN (fun s => fSome (c 50 0) (c 51) s a i) n = mkN (fun _ => true) n := by omega
           have e2 := congrArg (fun v => v.testBit s) e
           simp only [mk_bit hs] at e2
           exact (fSome_mono e2 _ (by omega)).symm)
    · exfalso; omega
  | succ k ih =>
    intro i m x hi hx hm
    have := hlt i
    refine r_iload 7 dX9_soundingWithin_5 rfl rfl ?_
    refine r_iloadN 8 dX9_soundingWithin_7 rfl rfl ?_
    refine r_icgt 34 11 dX9_soundingWithin_8 rfl (by decide) (by omega) (by omega) (fun h8 => ?_) (fun h8 => ?_)
    · refine r_iloadN 35 dX9_soundingWithin_34 rfl rfl ?_
      refine r_ret dX9_soundingWithin_35 rfl (kk _ ?_)
      first
        | (rw [hm, show i = (b + 1 - a).toNat by omega]; done)
        | (exfalso; omega)
        | (rw [h16, e13]
           refine congrArg Nat.cast (mkN_ext fun s hs => ?_)
           have e : mkN (fun s => fSome (c 50 0) (c 51) s a i) n = mkN (fun _ => true) n := by omega
           have e2 := congrArg (fun v => v.testBit s) e
           simp only [mk_bit hs] at e2
           exact (fSome_mono e2 _ (by omega)).symm)
    · refine r_iloadN 12 dX9_soundingWithin_11 rfl rfl ?_
      refine r_aloadN 13 dX9_soundingWithin_12 rfl rfl ?_
      refine r_cv0 16 dX9_soundingWithin_13 rfl gX9_147 rfl (by decide) (sh_8 z _) rfl rfl (Nat.le_of_ble_eq_true rfl) (Nat.le_of_ble_eq_true rfl) rfl ?_
      refine x_allSources hR hn (fun r13 e13 => ?_)
      refine r_iceq 34 19 dX9_soundingWithin_16 rfl (by decide) (by have := hlt i; omega) (by omega) (fun h16 => ?_) (fun h16 => ?_)
      · refine r_iloadN 35 dX9_soundingWithin_34 rfl rfl ?_
        refine r_ret dX9_soundingWithin_35 rfl (kk _ ?_)
        first
          | (rw [hm, show i = (b + 1 - a).toNat by omega]; done)
          | (exfalso; omega)
          | (rw [h16, e13]
             refine congrArg Nat.cast (mkN_ext fun s hs => ?_)
             have e : mkN (fun s => fSome (c 50 0) (c 51) s a i) n = mkN (fun _ => true) n := by omega
             have e2 := congrArg (fun v => v.testBit s) e
             simp only [mk_bit hs] at e2
             exact (fSome_mono e2 _ (by omega)).symm)
      · refine r_iloadN 20 dX9_soundingWithin_19 rfl rfl ?_
        refine r_aloadN 21 dX9_soundingWithin_20 rfl rfl ?_
        refine r_iload 23 dX9_soundingWithin_21 rfl rfl ?_
        refine r_cv1 26 dX9_soundingWithin_23 rfl gX9_177 rfl (by decide) (sh_8 z _) rfl rfl (Nat.le_of_ble_eq_true rfl) (Nat.le_of_ble_eq_true rfl) rfl ?_
        refine x_soundingAt hR hn (h := x) (by omega) (fun r23 e23 => ?_)
        refine r_ior 27 dX9_soundingWithin_26 rfl ?_
        refine r_istore3 28 dX9_soundingWithin_27 rfl rfl (by decide) ?_
        refine r_iinc4 31 dX9_soundingWithin_28 rfl rfl (by decide) ?_
        refine r_goto 5 dX9_soundingWithin_31 (by decide) ?_
        refine ih (i + 1) _ _ (by omega) (by omega) ?_
        rw [ior_mk (by omega) hm e23]
        exact congrArg Nat.cast (mkN_ext fun s _ => by rw [fSome, hx])
theorem x_soundingWithin {z : xZ} {d : Nat} {Q : tQ} {c : tC} {L : tL} {n : Nat} {a b : Int} (hR : RX c) (hn : c 50 0 2 = (n : Int)) (ha : 0 ≤ a ∧ a ≤ b ∧ b ≤ 239) (k : ∀ r, r = ((mkN (fun s => fSome (c 50 0) (c 51) s a (b + 1 - a).toNat) n : Nat) : Int) → Q (some (.int (iI r))) c L) : En z (d + 5) MX9_soundingWithin Q 0 [some (.ref (xad z 8 0)), some (.int (iI a)), some (.int (iI b)), none, none] [] c L := by
  refine r_iconst 1 dX9_soundingWithin_0 rfl ?_
  refine r_istore3 2 dX9_soundingWithin_1 rfl rfl (by decide) ?_
  refine r_iloadN 3 dX9_soundingWithin_2 rfl rfl ?_
  refine r_istore4 5 dX9_soundingWithin_3 rfl rfl (by decide) ?_
  exact x_sndW_loop hR hn ha k (b + 1 - a).toNat 0 _ _ (by omega) (by simp) (congrArg Nat.cast (mkN_false n).symm)
def fLW (kd str far loss : Int) (st : Int) : Int := if kd = 2 then max 0 (str - loss * far / 4) else if kd = 3 then (if st = 1 then 2 * max 0 (str - loss * far) else max 0 (str - loss * far)) else if kd = 6 then max 0 (str - loss) else if kd = 7 then (if 0 < max 0 (str - loss * far) then max 0 (str - loss * far) + 6 else 0) else max 0 (str - loss * far)
theorem x_levelWith {z : xZ} {d : Nat} {Q : tQ} {c : tC} {L : tL} {s : Nat} {loss far st : Int} (hR : RX c) (hs : (s : Int) < c 50 0 2) (hlo : 0 ≤ loss ∧ loss ≤ 99) (hlf : 0 ≤ loss * far ∧ loss * far ≤ 100000) (hst : st = 0 ∨ st = 1) (k : ∀ r, r = fLW (c 51 19 s) (c 51 22 s) far loss st → Q (some (.int (iI r))) c L) : En z (d + 1) MX8_levelWith Q 0 [some (.ref (xad z 13 s)), some (.int (iI loss)), some (.int (iI far)), some (.int (iI st)), none] [] c L := by
  have hg := R0_rng hR
  have hq := R0_src hR s hs
  have e3 : c 13 s 3 = c 51 22 s := by omega
  refine r_iconst 1 dX8_levelWith_0 rfl ?_
  refine r_aloadN 2 dX8_levelWith_1 rfl rfl ?_
  refine r_geti 5 dX8_levelWith_2 rfl fX8_21 (ct_13 (by omega)) (sh_13 z _) rfl ?_
  refine r_iloadN 6 dX8_levelWith_5 rfl rfl ?_
  refine r_iloadN 7 dX8_levelWith_6 rfl rfl ?_
  refine r_imul 8 dX8_levelWith_7 rfl ?_
  refine r_isub 9 dX8_levelWith_8 rfl ?_
  refine r_max 12 dX8_levelWith_9 rfl (gX8_40) (Nat.le_of_ble_eq_true rfl) (by omega) (by omega) ?_
  refine r_istore4 14 dX8_levelWith_12 rfl rfl (by decide) ?_
  refine r_aloadN 15 dX8_levelWith_14 rfl rfl ?_
  refine r_geti 18 dX8_levelWith_15 rfl fX8_9 (ct_13 (by omega)) (sh_13 z _) rfl ?_
  rcases (show c 13 s 0 = 1 ∨ c 13 s 0 = 2 ∨ c 13 s 0 = 3 ∨ c 13 s 0 = 4 ∨ c 13 s 0 = 5 ∨ c 13 s 0 = 6 ∨ c 13 s 0 = 7 by omega) with e9 | e9 | e9 | e9 | e9 | e9 | e9
  · have e19 : c 51 19 s = 1 := by omega
    refine r_tout 111 dX8_levelWith_18 (by omega) (by omega) (by decide) ?_
    refine r_iload 113 dX8_levelWith_111 rfl rfl ?_
    refine r_ret dX8_levelWith_113 rfl (k _ ?_)
    unfold fLW
    rw [e19, ← e3]
    first
      | (simp; done)
      | (simp; omega)
      | (rw [if_neg (by decide), if_pos rfl]; split <;> omega)
      | (simp; split <;> omega)
  · have e19 : c 51 19 s = 2 := by omega
    refine r_tin (38) 56 dX8_levelWith_18 (by omega) (by omega) (by omega) (by rw [e9]; rfl) (by decide) ?_
    refine r_iconst 57 dX8_levelWith_56 rfl ?_
    refine r_aloadN 58 dX8_levelWith_57 rfl rfl ?_
    refine r_geti 61 dX8_levelWith_58 rfl fX8_21 (ct_13 (by omega)) (sh_13 z _) rfl ?_
    refine r_iloadN 62 dX8_levelWith_61 rfl rfl ?_
    refine r_iloadN 63 dX8_levelWith_62 rfl rfl ?_
    refine r_imul 64 dX8_levelWith_63 rfl ?_
    refine r_iconst 65 dX8_levelWith_64 rfl ?_
    refine r_idiv 66 dX8_levelWith_65 rfl (by omega) (by omega) ?_
    refine r_isub 67 dX8_levelWith_66 rfl ?_
    refine r_max 70 dX8_levelWith_67 rfl (gX8_40) (Nat.le_of_ble_eq_true rfl) (by omega) (by omega) ?_
    refine r_ret dX8_levelWith_70 rfl (k _ ?_)
    unfold fLW
    rw [e19, ← e3]
    first
      | (simp; done)
      | (simp; omega)
      | (rw [if_neg (by decide), if_pos rfl]; split <;> omega)
      | (simp; split <;> omega)
  · have e19 : c 51 19 s = 3 := by omega
    refine r_tin (53) 71 dX8_levelWith_18 (by omega) (by omega) (by omega) (by rw [e9]; rfl) (by decide) ?_
    refine r_iloadN 72 dX8_levelWith_71 rfl rfl ?_
    refine r_ifeq 82 75 dX8_levelWith_72 rfl (by decide) (by omega) (fun h72 => ?_) (fun h72 => ?_)
    · refine r_iload 84 dX8_levelWith_82 rfl rfl ?_
      refine r_ret dX8_levelWith_84 rfl (k _ ?_)
      unfold fLW
      rw [e19, ← e3]
      first
        | (simp; done)
        | (simp; omega)
        | (rw [if_neg (by decide), if_pos rfl]; split <;> omega)
        | (simp; split <;> omega)
    · refine r_iconst 76 dX8_levelWith_75 rfl ?_
      refine r_iload 78 dX8_levelWith_76 rfl rfl ?_
      refine r_imul 79 dX8_levelWith_78 rfl ?_
      refine r_goto 84 dX8_levelWith_79 (by decide) ?_
      refine r_ret dX8_levelWith_84 rfl (k _ ?_)
      unfold fLW
      rw [e19, ← e3]
      first
        | (simp; done)
        | (simp; omega)
        | (rw [if_neg (by decide), if_pos rfl]; split <;> omega)
        | (simp; split <;> omega)
  · have e19 : c 51 19 s = 4 := by omega
    refine r_tin (93) 111 dX8_levelWith_18 (by omega) (by omega) (by omega) (by rw [e9]; rfl) (by decide) ?_
    refine r_iload 113 dX8_levelWith_111 rfl rfl ?_
    refine r_ret dX8_levelWith_113 rfl (k _ ?_)
    unfold fLW
    rw [e19, ← e3]
    first
      | (simp; done)
      | (simp; omega)
      | (rw [if_neg (by decide), if_pos rfl]; split <;> omega)
      | (simp; split <;> omega)
  · have e19 : c 51 19 s = 5 := by omega
    refine r_tin (93) 111 dX8_levelWith_18 (by omega) (by omega) (by omega) (by rw [e9]; rfl) (by decide) ?_
    refine r_iload 113 dX8_levelWith_111 rfl rfl ?_
    refine r_ret dX8_levelWith_113 rfl (k _ ?_)
    unfold fLW
    rw [e19, ← e3]
    first
      | (simp; done)
      | (simp; omega)
      | (rw [if_neg (by decide), if_pos rfl]; split <;> omega)
      | (simp; split <;> omega)
  · have e19 : c 51 19 s = 6 := by omega
    refine r_tin (67) 85 dX8_levelWith_18 (by omega) (by omega) (by omega) (by rw [e9]; rfl) (by decide) ?_
    refine r_iconst 86 dX8_levelWith_85 rfl ?_
    refine r_aloadN 87 dX8_levelWith_86 rfl rfl ?_
    refine r_geti 90 dX8_levelWith_87 rfl fX8_21 (ct_13 (by omega)) (sh_13 z _) rfl ?_
    refine r_iloadN 91 dX8_levelWith_90 rfl rfl ?_
    refine r_isub 92 dX8_levelWith_91 rfl ?_
    refine r_max 95 dX8_levelWith_92 rfl (gX8_40) (Nat.le_of_ble_eq_true rfl) (by omega) (by omega) ?_
    refine r_ret dX8_levelWith_95 rfl (k _ ?_)
    unfold fLW
    rw [e19, ← e3]
    first
      | (simp; done)
      | (simp; omega)
      | (rw [if_neg (by decide), if_pos rfl]; split <;> omega)
      | (simp; split <;> omega)
  · have e19 : c 51 19 s = 7 := by omega
    refine r_tin (78) 96 dX8_levelWith_18 (by omega) (by omega) (by omega) (by rw [e9]; rfl) (by decide) ?_
    refine r_iload 98 dX8_levelWith_96 rfl rfl ?_
    refine r_ifle 109 101 dX8_levelWith_98 rfl (by decide) (by omega) (fun h98 => ?_) (fun h98 => ?_)
    · refine r_iconst 110 dX8_levelWith_109 rfl ?_
      refine r_ret dX8_levelWith_110 rfl (k _ ?_)
      unfold fLW
      rw [e19, ← e3]
      first
        | (simp; done)
        | (simp; omega)
        | (rw [if_neg (by decide), if_pos rfl]; split <;> omega)
        | (simp; split <;> omega)
    · refine r_iload 103 dX8_levelWith_101 rfl rfl ?_
      refine r_bipush 105 dX8_levelWith_103 rfl (by decide) ?_
      refine r_iadd 106 dX8_levelWith_105 rfl ?_
      refine r_goto 110 dX8_levelWith_106 (by decide) ?_
      refine r_ret dX8_levelWith_110 rfl (k _ ?_)
      unfold fLW
      rw [e19, ← e3]
      first
        | (simp; done)
        | (simp; omega)
        | (rw [if_neg (by decide), if_pos rfl]; split <;> omega)
        | (simp; split <;> omega)
theorem far_bd {A : sA} {s sp : Nat} {f loss : Int} (hw : 0 ≤ A 20 s ∧ A 20 s ≤ 63) (hsp : sp < 64) (hl : 0 ≤ loss ∧ loss ≤ 99) (hf : f = fFar (A 20 s) (sp : Int)) : 0 ≤ loss * f ∧ loss * f ≤ 100000 := by
  have h1 : 0 ≤ f ∧ f ≤ 14 := by rw [hf]; unfold fFar; omega
  constructor
  · exact Int.mul_nonneg hl.1 h1.1
  · have := Int.mul_le_mul hl.2 h1.2 h1.1 (by decide : (0 : Int) ≤ 99)
    omega
theorem lvl_eq {A : sA} {s sp : Nat} {r : Int} {st : Int} (hk : 1 ≤ A 19 s ∧ A 19 s ≤ 7) (ht : fTalk A s = false) (hst : st = if fStd A s (sp : Int) = true then 1 else 0) (hr : r = fLW (A 19 s) (A 22 s) (fFar (A 20 s) (sp : Int)) (A 11 0) st) : fLvl A s (sp : Int) = if st = 1 ∧ 0 < r then r + A 11 1 else r := by
  have h45 : ¬ (A 19 s = 4 ∨ A 19 s = 5) := of_decide_eq_false ht
  unfold fLvl fRaw
  rw [ht, if_neg (by decide)]
  rw [hr, hst]
  unfold fLW
  generalize A 11 0 * fFar (A 20 s) (sp : Int) = P
  cases hS : fStd A s (sp : Int) with
  | true =>
    simp only [if_true, if_pos]
    rcases (show A 19 s = 1 ∨ A 19 s = 2 ∨ A 19 s = 3 ∨ A 19 s = 6 ∨ A 19 s = 7 by omega) with e | e | e | e | e <;> simp only [e] <;> simp <;> (repeat' split) <;> omega
  | false =>
    rcases (show A 19 s = 1 ∨ A 19 s = 2 ∨ A 19 s = 3 ∨ A 19 s = 6 ∨ A 19 s = 7 by omega) with e | e | e | e | e <;> simp only [e] <;> simp <;> (repeat' split) <;> omega
theorem x_levelAt {z : xZ} {d : Nat} {Q : tQ} {c : tC} {L : tL} {n s sp : Nat} (hR : RX c) (hn : c 50 0 2 = (n : Int)) (hs : s < n) (hsp : sp < 64) (k : ∀ r, r = fLvl (c 51) s (sp : Int) → Q (some (.int (iI r))) c L) : En z (d + 3) MX9_levelAt Q 0 [some (.ref (xad z 8 0)), some (.int (iI (s : Int))), some (.int (iI (sp : Int))), none, none, none] [] c L := by
  have hg := R0_rng hR
  have hc := R0_scal hR
  have hq := R0_src hR s (by omega)
  have hlw := R0_law hR
  have hsz := R0_size hR sp hsp
  have hz1 : c 13 s 2 = c 51 21 s := by omega
  have hz2 : c 25 0 sp = c 51 12 sp := by omega
  have hz3 : c 13 s 1 = c 51 20 s := by omega
  have hz0 : c 27 0 0 = c 51 11 0 := by omega
  refine r_aloadN 1 dX9_levelAt_0 rfl rfl ?_
  refine r_getq 4 dX9_levelAt_1 rfl fX9_38 (by decide) (sh_8 z _) rfl ?_
  refine r_iloadN 5 dX9_levelAt_4 rfl rfl ?_
  refine r_aald 6 dX9_levelAt_5 (s) rfl rfl (by decide) (sh_10a z) rfl (by decide) (by omega) (by omega) ?_
  refine r_astore3 7 dX9_levelAt_6 rfl rfl (by decide) ?_
  refine r_aloadN 8 dX9_levelAt_7 rfl rfl ?_
  refine r_cv0 11 dX9_levelAt_8 rfl gX9_180 rfl (ct_13 (by omega)) (sh_13 z _) rfl rfl (Nat.le_of_ble_eq_true rfl) (Nat.le_of_ble_eq_true rfl) rfl ?_
  refine x_isAirborne hR (s := s) (by omega) (fun y8 => ?_) (fun y8 => ?_)
  · refine r_ifneT 19 0 dX9_levelAt_11 (by decide) (by decide) (by decide) ?_
    refine r_aloadN 20 dX9_levelAt_19 rfl rfl ?_
    refine r_getq 23 dX9_levelAt_20 rfl fX9_62 (by decide) (sh_8 z _) rfl ?_
    refine r_iloadN 24 dX9_levelAt_23 rfl rfl ?_
    refine r_iald 25 dX9_levelAt_24 (sp) rfl rfl (by decide) (sh_25 z _) (by decide) (by omega) (by omega) ?_
    refine r_ifle 46 28 dX9_levelAt_25 rfl (by decide) (by omega) (fun h25 => ?_) (fun h25 => ?_)
    · refine r_iconst 47 dX9_levelAt_46 rfl ?_
      refine r_istore4 49 dX9_levelAt_47 rfl rfl (by decide) ?_
      refine r_aloadN 50 dX9_levelAt_49 rfl rfl ?_
      refine r_aloadN 51 dX9_levelAt_50 rfl rfl ?_
      refine r_getq 54 dX9_levelAt_51 rfl fX9_69 (by decide) (sh_8 z _) rfl ?_
      refine r_iconst 55 dX9_levelAt_54 rfl ?_
      refine r_iald 56 dX9_levelAt_55 (0) rfl rfl (by decide) (sh_27 z _) (by decide) (by omega) (by omega) ?_
      refine r_aloadN 57 dX9_levelAt_56 rfl rfl ?_
      refine r_geti 60 dX9_levelAt_57 rfl fX9_144 (ct_13 (by omega)) (sh_13 z _) rfl ?_
      refine r_iloadN 61 dX9_levelAt_60 rfl rfl ?_
      refine r_cs2 64 dX9_levelAt_61 rfl gX9_186 (Nat.le_of_ble_eq_true rfl) (Nat.le_of_ble_eq_true rfl) rfl ?_
      refine x_farApart (by omega) (by omega) (fun r61 e61 => ?_)
      refine r_iload 66 dX9_levelAt_64 rfl rfl ?_
      refine r_cv3 69 dX9_levelAt_66 rfl gX9_189 rfl (ct_13 (by omega)) (sh_13 z _) rfl rfl (Nat.le_of_ble_eq_true rfl) (Nat.le_of_ble_eq_true rfl) rfl ?_
      refine x_levelWith hR (s := s) (by omega) (by omega) (by rw [hz0]; exact far_bd (A := c 51) (s := s) (sp := sp) (by omega) hsp (by omega) (by rw [e61, hz3])) (by omega) (fun r66 e66 => ?_)
      refine r_istore5 71 dX9_levelAt_69 rfl rfl (by decide) ?_
      have hb1 : -1000000 ≤ r66 ∧ r66 ≤ 1000000 := by
        have hP := far_bd (A := c 51) (s := s) (sp := sp) (loss := c 51 11 0) (by omega) hsp (by omega) rfl
        rw [e66, e61, hz3, hz0]
        unfold fLW
        generalize c 51 11 0 * fFar (c 51 20 s) (sp : Int) = P at hP
        (repeat' split) <;> omega
      refine r_iload 73 dX9_levelAt_71 rfl rfl ?_
      refine r_ifeqT 93 0 dX9_levelAt_73 (by decide) (by decide) (by decide) ?_
      refine r_iload 95 dX9_levelAt_93 rfl rfl ?_
      refine r_ret dX9_levelAt_95 rfl (k _ ?_)
      have hS : fStd (c 51) s (sp : Int) = false := by
        unfold fStd
        rw [Int.toNat_natCast]
        first
          | (rw [decide_eq_false (show ¬ 0 < c 51 12 sp by omega)]; rfl)
          | (rw [decide_eq_false (show ¬ c 51 21 s % c 51 12 sp = 0 by rw [← hz1, ← hz2]; omega), Bool.and_false])
      have hE := lvl_eq (A := c 51) (s := s) (sp := sp) (st := 0) (r := r66) (by omega) y8 (by rw [hS]; rfl) (by rw [e66, e61, hz3, hz0])
      rw [hE]
      first
        | (rw [if_pos ⟨rfl, by omega⟩]; omega)
        | (rw [if_neg (fun q => absurd q.2 (by omega))]; done)
        | (rw [if_neg (fun q => absurd q.1 (by decide))]; done)
    · refine r_aloadN 29 dX9_levelAt_28 rfl rfl ?_
      refine r_geti 32 dX9_levelAt_29 rfl fX9_111 (ct_13 (by omega)) (sh_13 z _) rfl ?_
      refine r_aloadN 33 dX9_levelAt_32 rfl rfl ?_
      refine r_getq 36 dX9_levelAt_33 rfl fX9_62 (by decide) (sh_8 z _) rfl ?_
      refine r_iloadN 37 dX9_levelAt_36 rfl rfl ?_
      refine r_iald 38 dX9_levelAt_37 (sp) rfl rfl (by decide) (sh_25 z _) (by decide) (by omega) (by omega) ?_
      refine r_irem 39 dX9_levelAt_38 rfl (by omega) (by omega) ?_
      have hm1 := Int.emod_nonneg (c 13 s 2) (show c 25 0 sp ≠ 0 by omega)
      have hm2 := Int.emod_lt_of_pos (c 13 s 2) (show 0 < c 25 0 sp by omega)
      refine r_ifne 46 42 dX9_levelAt_39 rfl (by decide) (by omega) (fun h39 => ?_) (fun h39 => ?_)
      · refine r_iconst 47 dX9_levelAt_46 rfl ?_
        refine r_istore4 49 dX9_levelAt_47 rfl rfl (by decide) ?_
        refine r_aloadN 50 dX9_levelAt_49 rfl rfl ?_
        refine r_aloadN 51 dX9_levelAt_50 rfl rfl ?_
        refine r_getq 54 dX9_levelAt_51 rfl fX9_69 (by decide) (sh_8 z _) rfl ?_
        refine r_iconst 55 dX9_levelAt_54 rfl ?_
        refine r_iald 56 dX9_levelAt_55 (0) rfl rfl (by decide) (sh_27 z _) (by decide) (by omega) (by omega) ?_
        refine r_aloadN 57 dX9_levelAt_56 rfl rfl ?_
        refine r_geti 60 dX9_levelAt_57 rfl fX9_144 (ct_13 (by omega)) (sh_13 z _) rfl ?_
        refine r_iloadN 61 dX9_levelAt_60 rfl rfl ?_
        refine r_cs2 64 dX9_levelAt_61 rfl gX9_186 (Nat.le_of_ble_eq_true rfl) (Nat.le_of_ble_eq_true rfl) rfl ?_
        refine x_farApart (by omega) (by omega) (fun r61 e61 => ?_)
        refine r_iload 66 dX9_levelAt_64 rfl rfl ?_
        refine r_cv3 69 dX9_levelAt_66 rfl gX9_189 rfl (ct_13 (by omega)) (sh_13 z _) rfl rfl (Nat.le_of_ble_eq_true rfl) (Nat.le_of_ble_eq_true rfl) rfl ?_
        refine x_levelWith hR (s := s) (by omega) (by omega) (by rw [hz0]; exact far_bd (A := c 51) (s := s) (sp := sp) (by omega) hsp (by omega) (by rw [e61, hz3])) (by omega) (fun r66 e66 => ?_)
        refine r_istore5 71 dX9_levelAt_69 rfl rfl (by decide) ?_
        have hb1 : -1000000 ≤ r66 ∧ r66 ≤ 1000000 := by
          have hP := far_bd (A := c 51) (s := s) (sp := sp) (loss := c 51 11 0) (by omega) hsp (by omega) rfl
          rw [e66, e61, hz3, hz0]
          unfold fLW
          generalize c 51 11 0 * fFar (c 51 20 s) (sp : Int) = P at hP
          (repeat' split) <;> omega
        refine r_iload 73 dX9_levelAt_71 rfl rfl ?_
        refine r_ifeqT 93 0 dX9_levelAt_73 (by decide) (by decide) (by decide) ?_
        refine r_iload 95 dX9_levelAt_93 rfl rfl ?_
        refine r_ret dX9_levelAt_95 rfl (k _ ?_)
        have hS : fStd (c 51) s (sp : Int) = false := by
          unfold fStd
          rw [Int.toNat_natCast]
          first
            | (rw [decide_eq_false (show ¬ 0 < c 51 12 sp by omega)]; rfl)
            | (rw [decide_eq_false (show ¬ c 51 21 s % c 51 12 sp = 0 by rw [← hz1, ← hz2]; omega), Bool.and_false])
        have hE := lvl_eq (A := c 51) (s := s) (sp := sp) (st := 0) (r := r66) (by omega) y8 (by rw [hS]; rfl) (by rw [e66, e61, hz3, hz0])
        rw [hE]
        first
          | (rw [if_pos ⟨rfl, by omega⟩]; omega)
          | (rw [if_neg (fun q => absurd q.2 (by omega))]; done)
          | (rw [if_neg (fun q => absurd q.1 (by decide))]; done)
      · refine r_iconst 43 dX9_levelAt_42 rfl ?_
        refine r_goto 47 dX9_levelAt_43 (by decide) ?_
        refine r_istore4 49 dX9_levelAt_47 rfl rfl (by decide) ?_
        refine r_aloadN 50 dX9_levelAt_49 rfl rfl ?_
        refine r_aloadN 51 dX9_levelAt_50 rfl rfl ?_
        refine r_getq 54 dX9_levelAt_51 rfl fX9_69 (by decide) (sh_8 z _) rfl ?_
        refine r_iconst 55 dX9_levelAt_54 rfl ?_
        refine r_iald 56 dX9_levelAt_55 (0) rfl rfl (by decide) (sh_27 z _) (by decide) (by omega) (by omega) ?_
        refine r_aloadN 57 dX9_levelAt_56 rfl rfl ?_
        refine r_geti 60 dX9_levelAt_57 rfl fX9_144 (ct_13 (by omega)) (sh_13 z _) rfl ?_
        refine r_iloadN 61 dX9_levelAt_60 rfl rfl ?_
        refine r_cs2 64 dX9_levelAt_61 rfl gX9_186 (Nat.le_of_ble_eq_true rfl) (Nat.le_of_ble_eq_true rfl) rfl ?_
        refine x_farApart (by omega) (by omega) (fun r61 e61 => ?_)
        refine r_iload 66 dX9_levelAt_64 rfl rfl ?_
        refine r_cv3 69 dX9_levelAt_66 rfl gX9_189 rfl (ct_13 (by omega)) (sh_13 z _) rfl rfl (Nat.le_of_ble_eq_true rfl) (Nat.le_of_ble_eq_true rfl) rfl ?_
        refine x_levelWith hR (s := s) (by omega) (by omega) (by rw [hz0]; exact far_bd (A := c 51) (s := s) (sp := sp) (by omega) hsp (by omega) (by rw [e61, hz3])) (by omega) (fun r66 e66 => ?_)
        refine r_istore5 71 dX9_levelAt_69 rfl rfl (by decide) ?_
        have hb1 : -1000000 ≤ r66 ∧ r66 ≤ 1000000 := by
          have hP := far_bd (A := c 51) (s := s) (sp := sp) (loss := c 51 11 0) (by omega) hsp (by omega) rfl
          rw [e66, e61, hz3, hz0]
          unfold fLW
          generalize c 51 11 0 * fFar (c 51 20 s) (sp : Int) = P at hP
          (repeat' split) <;> omega
        refine r_iload 73 dX9_levelAt_71 rfl rfl ?_
        refine r_ifeqF 76 dX9_levelAt_73 rfl 93 (by decide) (by decide) (by decide) ?_
        refine r_iload 78 dX9_levelAt_76 rfl rfl ?_
        refine r_ifle 93 81 dX9_levelAt_78 rfl (by decide) (by omega) (fun h78 => ?_) (fun h78 => ?_)
        · refine r_iload 95 dX9_levelAt_93 rfl rfl ?_
          refine r_ret dX9_levelAt_95 rfl (k _ ?_)
          have hS : fStd (c 51) s (sp : Int) = true := by
            unfold fStd
            rw [Int.toNat_natCast, decide_eq_true (show 0 < c 51 12 sp by omega), decide_eq_true (show c 51 21 s % c 51 12 sp = 0 by rw [← hz1, ← hz2]; omega)]
            rfl
          have hE := lvl_eq (A := c 51) (s := s) (sp := sp) (st := 1) (r := r66) (by omega) y8 (by rw [hS]; rfl) (by rw [e66, e61, hz3, hz0])
          rw [hE]
          first
            | (rw [if_pos ⟨rfl, by omega⟩]; omega)
            | (rw [if_neg (fun q => absurd q.2 (by omega))]; done)
            | (rw [if_neg (fun q => absurd q.1 (by decide))]; done)
        · refine r_iload 83 dX9_levelAt_81 rfl rfl ?_
          refine r_aloadN 84 dX9_levelAt_83 rfl rfl ?_
          refine r_getq 87 dX9_levelAt_84 rfl fX9_69 (by decide) (sh_8 z _) rfl ?_
          refine r_iconst 88 dX9_levelAt_87 rfl ?_
          refine r_iald 89 dX9_levelAt_88 (1) rfl rfl (by decide) (sh_27 z _) (by decide) (by omega) (by omega) ?_
          refine r_iadd 90 dX9_levelAt_89 rfl ?_
          refine r_goto 95 dX9_levelAt_90 (by decide) ?_
          refine r_ret dX9_levelAt_95 rfl (k _ ?_)
          have hS : fStd (c 51) s (sp : Int) = true := by
            unfold fStd
            rw [Int.toNat_natCast, decide_eq_true (show 0 < c 51 12 sp by omega), decide_eq_true (show c 51 21 s % c 51 12 sp = 0 by rw [← hz1, ← hz2]; omega)]
            rfl
          have hE := lvl_eq (A := c 51) (s := s) (sp := sp) (st := 1) (r := r66) (by omega) y8 (by rw [hS]; rfl) (by rw [e66, e61, hz3, hz0])
          rw [hE]
          first
            | (rw [if_pos ⟨rfl, by omega⟩]; omega)
            | (rw [if_neg (fun q => absurd q.2 (by omega))]; done)
            | (rw [if_neg (fun q => absurd q.1 (by decide))]; done)
  · refine r_ifneF 14 dX9_levelAt_11 rfl 19 (by decide) (by decide) (by decide) ?_
    refine r_aloadN 15 dX9_levelAt_14 rfl rfl ?_
    refine r_geti 18 dX9_levelAt_15 rfl fX9_183 (ct_13 (by omega)) (sh_13 z _) rfl ?_
    refine r_ret dX9_levelAt_18 rfl (k _ ?_)
    unfold fLvl
    rw [if_pos y8]
    omega
theorem x_isForEars {z : xZ} {d : Nat} {Q : tQ} {c : tC} {L : tL} {n s p sp : Nat} {v : Int} (hR : RX c) (hn : c 50 0 2 = (n : Int)) (hs : s < n) (hsp : sp < 64) (hp : (p : Int) < c 50 0 1) (hv : v = fLvl (c 51) s (sp : Int)) (hvb : -1000000 ≤ v ∧ v ≤ 1000000) (k1 : fHear (c 51) p s (sp : Int) = true → Q (some (.int (iI 1))) c L) (k0 : fHear (c 51) p s (sp : Int) = false → Q (some (.int (iI 0))) c L) : En z (d + 2) MX9_isForEars Q 0 [some (.ref (xad z 8 0)), some (.int (iI (p : Int))), some (.int (iI (s : Int))), some (.int (iI v)), none] [] c L := by
  have hg := R0_rng hR
  have hc := R0_scal hR
  have hq := R0_src hR s (by omega)
  have hpp := R0_per hR p hp
  refine r_aloadN 1 dX9_isForEars_0 rfl rfl ?_
  refine r_getq 4 dX9_isForEars_1 rfl fX9_38 (by decide) (sh_8 z _) rfl ?_
  refine r_iloadN 5 dX9_isForEars_4 rfl rfl ?_
  refine r_aald 6 dX9_isForEars_5 (s) rfl rfl (by decide) (sh_10a z) rfl (by decide) (by omega) (by omega) ?_
  refine r_astore4 8 dX9_isForEars_6 rfl rfl (by decide) ?_
  refine r_aload 10 dX9_isForEars_8 rfl rfl ?_
  refine r_geti 13 dX9_isForEars_10 rfl fX9_174 (ct_13 (by omega)) (sh_13 z _) rfl ?_
  rcases (show c 13 s 0 = 4 ∨ c 13 s 0 = 5 ∨ ¬ (c 13 s 0 = 4 ∨ c 13 s 0 = 5) by omega) with e9 | e9 | e9
  · have e19 : c 51 19 s = 4 := by omega
    refine r_look (27) 40 dX9_isForEars_13 (by omega) (by decide) (by rw [e9]; rfl) (by decide) ?_
    refine r_aload 42 dX9_isForEars_40 rfl rfl ?_
    refine r_geti 45 dX9_isForEars_42 rfl fX9_144 (ct_13 (by omega)) (sh_13 z _) rfl ?_
    refine r_iloadN 46 dX9_isForEars_45 rfl rfl ?_
    refine r_icne 53 49 dX9_isForEars_46 rfl (by decide) (by omega) (by omega) (fun h46 => ?_) (fun h46 => ?_)
    · refine r_iconst 54 dX9_isForEars_53 rfl ?_
      refine r_zret dX9_isForEars_54 rfl (by decide) (k0 ?_)
      unfold fHear
      simp [e19]
      omega
    · refine r_iconst 50 dX9_isForEars_49 rfl ?_
      refine r_goto 54 dX9_isForEars_50 (by decide) ?_
      refine r_zret dX9_isForEars_54 rfl (by decide) (k1 ?_)
      unfold fHear
      simp [e19]
      omega
  · have e19 : c 51 19 s = 5 := by omega
    refine r_look (42) 55 dX9_isForEars_13 (by omega) (by decide) (by rw [e9]; rfl) (by decide) ?_
    refine r_aloadN 56 dX9_isForEars_55 rfl rfl ?_
    refine r_getq 59 dX9_isForEars_56 rfl fX9_32 (by decide) (sh_8 z _) rfl ?_
    refine r_iloadN 60 dX9_isForEars_59 rfl rfl ?_
    refine r_aald 61 dX9_isForEars_60 (p) rfl rfl (by decide) (sh_9a z) rfl (by decide) (by omega) (by omega) ?_
    refine r_geti 64 dX9_isForEars_61 rfl fX9_199 (ct_12 (by omega)) (sh_12 z _) rfl ?_
    rcases (show c 12 p 4 = 0 ∨ c 12 p 4 = 1 by omega) with e | e
    · rw [e]; refine r_zret dX9_isForEars_64 rfl (by decide) (k0 ?_); unfold fHear; simp [e19]; omega
    · rw [e]; refine r_zret dX9_isForEars_64 rfl (by decide) (k1 ?_); unfold fHear; simp [e19]; omega
  · have e19 : ¬ (c 51 19 s = 4 ∨ c 51 19 s = 5) := by omega
    refine r_look (52) 65 dX9_isForEars_13 (by omega) (by decide) (by rw [Op.lookupswitch.offset_cons, if_neg (by omega), Op.lookupswitch.offset_cons, if_neg (by omega)]; rfl) (by decide) ?_
    refine r_iloadN 66 dX9_isForEars_65 rfl rfl ?_
    refine r_ifle 91 69 dX9_isForEars_66 rfl (by decide) (by omega) (fun h66 => ?_) (fun h66 => ?_)
    · refine r_iconst 92 dX9_isForEars_91 rfl ?_
      refine r_zret dX9_isForEars_92 rfl (by decide) (k0 ?_)
      unfold fHear
      rw [if_neg (by omega), if_neg (by omega)]
      exact decide_eq_false (by omega)
    · refine r_iloadN 70 dX9_isForEars_69 rfl rfl ?_
      refine r_aloadN 71 dX9_isForEars_70 rfl rfl ?_
      refine r_getq 74 dX9_isForEars_71 rfl fX9_32 (by decide) (sh_8 z _) rfl ?_
      refine r_iloadN 75 dX9_isForEars_74 rfl rfl ?_
      refine r_aald 76 dX9_isForEars_75 (p) rfl rfl (by decide) (sh_9a z) rfl (by decide) (by omega) (by omega) ?_
      refine r_aload 78 dX9_isForEars_76 rfl rfl ?_
      refine r_geti 81 dX9_isForEars_78 rfl fX9_111 (ct_13 (by omega)) (sh_13 z _) rfl ?_
      refine r_cv1 84 dX9_isForEars_81 rfl gX9_203 rfl (ct_12 (by omega)) (sh_12 z _) rfl rfl (Nat.le_of_ble_eq_true rfl) (Nat.le_of_ble_eq_true rfl) rfl ?_
      refine x_needFor hR (p := p) hp (by omega) (fun r81 e81 => ?_)
      have hnb : 0 ≤ r81 ∧ r81 ≤ 100000 := by
        rw [e81]
        unfold fNeed
        have h1 : 0 ≤ max (c 51 15 p - c 13 s 2) (c 13 s 2 - c 51 15 p) ∧ max (c 51 15 p - c 13 s 2) (c 13 s 2 - c 51 15 p) ≤ 100 := by omega
        have h2 := Int.mul_nonneg (show 0 ≤ c 51 17 p by omega) h1.1
        have h3 := Int.mul_le_mul (show c 51 17 p ≤ 9 by omega) h1.2 h1.1 (by decide : (0 : Int) ≤ 9)
        omega
      rw [show c 13 s 2 = c 51 21 s by omega] at e81
      refine r_iclt 91 87 dX9_isForEars_84 rfl (by decide) (by omega) (by omega) (fun h84 => ?_) (fun h84 => ?_)
      · refine r_iconst 92 dX9_isForEars_91 rfl ?_
        refine r_zret dX9_isForEars_92 rfl (by decide) (k0 ?_)
        unfold fHear
        rw [if_neg (by omega), if_neg (by omega)]
        exact decide_eq_false (by omega)
      · refine r_iconst 88 dX9_isForEars_87 rfl ?_
        refine r_goto 92 dX9_isForEars_88 (by decide) ?_
        refine r_zret dX9_isForEars_92 rfl (by decide) (k1 ?_)
        unfold fHear
        rw [if_neg (by omega), if_neg (by omega)]
        exact decide_eq_true (by omega)
theorem fLvl_bd {c : tC} (hR : RX c) {n s sp : Nat} (hn : c 50 0 2 = (n : Int)) (hs : s < n) (hsp : sp < 64) : 0 ≤ fLvl (c 51) s (sp : Int) ∧ fLvl (c 51) s (sp : Int) ≤ 1000000 := by
  have hq := R0_src hR s (by omega)
  have hlw := R0_law hR
  have hP := far_bd (A := c 51) (s := s) (sp := sp) (loss := c 51 11 0) (by omega) hsp (by omega) rfl
  unfold fLvl fRaw
  generalize c 51 11 0 * fFar (c 51 20 s) (sp : Int) = P at hP
  (repeat' split) <;> omega
theorem x_aud_loop {z : xZ} {d : Nat} {Q : tQ} {c : tC} {L : tL} {n p sp : Nat} (hR : RX c) (hn : c 50 0 2 = (n : Int)) (hp : (p : Int) < c 50 0 1) (hsp : sp < 64) (kk : ∀ r, r = ((mkN (fun s => fHear (c 51) p s (sp : Int)) n : Nat) : Int) → Q (some (.int (iI r))) c L) : ∀ (k i : Nat) (m : Int), i + k = n → m = ((mkN (fun s => fHear (c 51) p s (sp : Int)) i : Nat) : Int) → En z (d + 4) MX9_audibleTo Q 5 [some (.ref (xad z 8 0)), some (.int (iI (p : Int))), some (.int (iI (sp : Int))), some (.int (iI m)), some (.int (iI (i : Int)))] [] c L := by
  have hg := R0_rng hR
  have hc := R0_scal hR
  intro k
  induction k with
  | zero =>
    intro i m hi hm
    refine r_iload 7 dX9_audibleTo_5 rfl rfl ?_
    refine r_aloadN 8 dX9_audibleTo_7 rfl rfl ?_
    refine r_geti 11 dX9_audibleTo_8 rfl fX9_18 (by decide) (sh_8 z _) rfl ?_
    refine r_icge 45 14 dX9_audibleTo_11 rfl (by decide) (by omega) (by omega) (fun h11 => ?_) (fun h11 => ?_)
    · refine r_iloadN 46 dX9_audibleTo_45 rfl rfl ?_
      refine r_ret dX9_audibleTo_46 rfl (kk _ ?_)
      rw [hm, show i = n by omega]
    · exfalso; omega
  | succ k ih =>
    intro i m hi hm
    refine r_iload 7 dX9_audibleTo_5 rfl rfl ?_
    refine r_aloadN 8 dX9_audibleTo_7 rfl rfl ?_
    refine r_geti 11 dX9_audibleTo_8 rfl fX9_18 (by decide) (sh_8 z _) rfl ?_
    refine r_icge 45 14 dX9_audibleTo_11 rfl (by decide) (by omega) (by omega) (fun h11 => ?_) (fun h11 => ?_)
    · exfalso; omega
    · refine r_aloadN 15 dX9_audibleTo_14 rfl rfl ?_
      refine r_iloadN 16 dX9_audibleTo_15 rfl rfl ?_
      refine r_iload 18 dX9_audibleTo_16 rfl rfl ?_
      refine r_aloadN 19 dX9_audibleTo_18 rfl rfl ?_
      refine r_iload 21 dX9_audibleTo_19 rfl rfl ?_
      refine r_iloadN 22 dX9_audibleTo_21 rfl rfl ?_
      refine r_cv2 25 dX9_audibleTo_22 rfl gX9_193 rfl (by decide) (sh_8 z _) rfl rfl (Nat.le_of_ble_eq_true rfl) (Nat.le_of_ble_eq_true rfl) rfl ?_
      refine x_levelAt hR hn (s := i) (sp := sp) (by omega) (by omega) (fun r22 e22 => ?_)
      refine r_cv3 28 dX9_audibleTo_25 rfl gX9_196 rfl (by decide) (sh_8 z _) rfl rfl (Nat.le_of_ble_eq_true rfl) (Nat.le_of_ble_eq_true rfl) rfl ?_
      refine x_isForEars hR hn (s := i) (sp := sp) (by omega) (by omega) hp e22 (by rw [e22]; have := fLvl_bd hR hn (show i < n by omega) hsp; omega) (fun y25 => ?_) (fun y25 => ?_)
      · refine r_ifeqF 31 dX9_audibleTo_28 rfl 39 (by decide) (by decide) (by decide) ?_
        refine r_iloadN 32 dX9_audibleTo_31 rfl rfl ?_
        refine r_iload 34 dX9_audibleTo_32 rfl rfl ?_
        refine r_cs1 37 dX9_audibleTo_34 rfl gX9_100 (Nat.le_of_ble_eq_true rfl) (Nat.le_of_ble_eq_true rfl) rfl ?_
        refine x_bit (by omega) ?_
        refine r_ior 38 dX9_audibleTo_37 rfl ?_
        refine r_istore3 39 dX9_audibleTo_38 rfl rfl (by decide) ?_
        refine r_iinc4 42 dX9_audibleTo_39 rfl rfl (by decide) ?_
        refine r_goto 5 dX9_audibleTo_42 (by decide) ?_
        refine ih (i + 1) _ (by omega) ?_
        first
          | exact ior_step (by omega) hm y25
          | exact mkN_skip hm y25
      · refine r_ifeqT 39 0 dX9_audibleTo_28 (by decide) (by decide) (by decide) ?_
        refine r_iinc4 42 dX9_audibleTo_39 rfl rfl (by decide) ?_
        refine r_goto 5 dX9_audibleTo_42 (by decide) ?_
        refine ih (i + 1) _ (by omega) ?_
        first
          | exact ior_step (by omega) hm y25
          | exact mkN_skip hm y25
theorem x_audibleTo {z : xZ} {d : Nat} {Q : tQ} {c : tC} {L : tL} {n p sp : Nat} (hR : RX c) (hn : c 50 0 2 = (n : Int)) (hp : (p : Int) < c 50 0 1) (hsp : sp < 64) (k : ∀ r, r = ((mkN (fun s => fHear (c 51) p s (sp : Int)) n : Nat) : Int) → Q (some (.int (iI r))) c L) : En z (d + 4) MX9_audibleTo Q 0 [some (.ref (xad z 8 0)), some (.int (iI (p : Int))), some (.int (iI (sp : Int))), none, none] [] c L := by
  refine r_iconst 1 dX9_audibleTo_0 rfl ?_
  refine r_istore3 2 dX9_audibleTo_1 rfl rfl (by decide) ?_
  refine r_iconst 3 dX9_audibleTo_2 rfl ?_
  refine r_istore4 5 dX9_audibleTo_3 rfl rfl (by decide) ?_
  exact x_aud_loop hR hn hp hsp k n 0 _ (by omega) rfl
theorem x_heardBy {z : xZ} {d : Nat} {Q : tQ} {c : tC} {L : tL} {n p : Nat} {h : Int} (hR : RX c) (hn : c 50 0 2 = (n : Int)) (hp : (p : Int) < c 50 0 1) (hh : 0 ≤ h ∧ h ≤ 239) (k : ∀ r, r = ((fHeard (c 50 0) (c 51) p (c 51 14 p) h : Nat) : Int) → Q (some (.int (iI r))) c L) : En z (d + 5) MX9_heardBy Q 0 [some (.ref (xad z 8 0)), some (.int (iI (p : Int))), some (.int (iI h))] [] c L := by
  have hg := R0_rng hR
  have hc := R0_scal hR
  have hpp := R0_per hR p hp
  obtain ⟨sp, hsp⟩ := Int.eq_ofNat_of_zero_le (show 0 ≤ c 51 14 p by omega)
  refine r_aloadN 1 dX9_heardBy_0 rfl rfl ?_
  refine r_iloadN 2 dX9_heardBy_1 rfl rfl ?_
  refine r_aloadN 3 dX9_heardBy_2 rfl rfl ?_
  refine r_getq 6 dX9_heardBy_3 rfl fX9_32 (by decide) (sh_8 z _) rfl ?_
  refine r_iloadN 7 dX9_heardBy_6 rfl rfl ?_
  refine r_aald 8 dX9_heardBy_7 (p) rfl rfl (by decide) (sh_9a z) rfl (by decide) (by omega) (by omega) ?_
  refine r_geti 11 dX9_heardBy_8 rfl fX9_127 (ct_12 (by omega)) (sh_12 z _) rfl ?_
  rw [show c 12 p 0 = (sp : Int) by omega]
  refine r_cv2 14 dX9_heardBy_11 rfl gX9_206 rfl (by decide) (sh_8 z _) rfl rfl (Nat.le_of_ble_eq_true rfl) (Nat.le_of_ble_eq_true rfl) rfl ?_
  refine x_audibleTo hR hn hp (sp := sp) (by omega) (fun r11 e11 => ?_)
  refine r_aloadN 15 dX9_heardBy_14 rfl rfl ?_
  refine r_iloadN 16 dX9_heardBy_15 rfl rfl ?_
  refine r_cv1 19 dX9_heardBy_16 rfl gX9_177 rfl (by decide) (sh_8 z _) rfl rfl (Nat.le_of_ble_eq_true rfl) (Nat.le_of_ble_eq_true rfl) rfl ?_
  refine x_soundingAt hR hn (by omega) (fun r16 e16 => ?_)
  refine r_iand 20 dX9_heardBy_19 rfl ?_
  refine r_ret dX9_heardBy_20 rfl (k _ ?_)
  rw [iand_mk (by omega) e11 e16]
  unfold fHeard
  rw [hn, Int.toNat_natCast, hsp]
