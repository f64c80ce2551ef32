def fSto (A : sA) : Nat → Int
  | 0 => 0
  | n + 1 => fSto A n + A 13 n
def fWord (A : sA) (i : Nat) (k : Int) : Int := if k = 0 then A 21 i else if k = 1 ∨ k = 7 then 100 * A 23 i + A 24 i else if k = 5 then A 11 5 else if k = 6 then fSto A 10 else A 20 i
def gSays (A : sA) (s k : Int) : gA := if ¬ ((0 ≤ s ∧ s ≤ 7) ∧ 0 ≤ k ∧ k ≤ 7) then (-1, 1) else if A 44 s.toNat = 1 then (-2, 2) else if A 44 s.toNat = 0 then (-3, 3) else if ¬ (k = 0 ∨ k = A 19 (A 47 s.toNat).toNat ∨ (k = 1 ∧ A 19 (A 47 s.toNat).toNat = 7)) then (-2, 2) else (fWord A (A 47 s.toNat).toNat k, 0)
theorem x_sto_loop {z : xZ} {d : Nat} {Q : tQ} {c : tC} {L : tL}  (hR : RX c) (kk : ∀ r, r = fSto (c 51) 10 → Q (some (.int (iI r))) c L) : ∀ (k i : Nat) (m : Int), i + k = 10 → m = fSto (c 51) i → En z (d + 1) MX9_countStorms Q 4 [some (.ref (xad z 8 0)), some (.int (iI m)), some (.int (iI (i : Int)))] [] c L := by
  intro k
  induction k with
  | zero =>
    intro i m hi hm
    refine r_iloadN 5 dX9_countStorms_4 rfl rfl ?_
    refine r_bipush 7 dX9_countStorms_5 rfl (by decide) ?_
    refine r_icge 25 10 dX9_countStorms_7 rfl (by decide) (by omega) (by omega) (fun h7 => ?_) (fun h7 => ?_)
    · refine r_iloadN 26 dX9_countStorms_25 rfl rfl ?_
      refine r_ret dX9_countStorms_26 rfl (kk _ ?_)
      rw [hm, show i = 10 by omega]
    · exfalso; omega
  | succ k ih =>
    intro i m hi hm
    refine r_iloadN 5 dX9_countStorms_4 rfl rfl ?_
    refine r_bipush 7 dX9_countStorms_5 rfl (by decide) ?_
    refine r_icge 25 10 dX9_countStorms_7 rfl (by decide) (by omega) (by omega) (fun h7 => ?_) (fun h7 => ?_)
    · exfalso; omega
    · refine r_iloadN 11 dX9_countStorms_10 rfl rfl ?_
      refine r_aloadN 12 dX9_countStorms_11 rfl rfl ?_
      refine r_getq 15 dX9_countStorms_12 rfl fX9_66 (by decide) (sh_8 z _) rfl ?_
      refine r_iloadN 16 dX9_countStorms_15 rfl rfl ?_
      refine r_iald 17 dX9_countStorms_16 (i) rfl rfl (by decide) (sh_26 z _) (by decide) (by omega) (by omega) ?_
      refine r_iadd 18 dX9_countStorms_17 rfl ?_
      refine r_istore1 19 dX9_countStorms_18 rfl rfl (by decide) ?_
      refine r_iinc2 22 dX9_countStorms_19 rfl rfl (by decide) ?_
      refine r_goto 4 dX9_countStorms_22 (by decide) ?_
      refine ih (i + 1) _ (by omega) ?_
      rw [fSto, hm, (R0_storm hR i (by omega)).1]
theorem x_sto {z : xZ} {d : Nat} {Q : tQ} {c : tC} {L : tL}  (hR : RX c) (k : ∀ r, r = fSto (c 51) 10 → Q (some (.int (iI r))) c L) : En z (d + 1) MX9_countStorms Q 0 [some (.ref (xad z 8 0)), none, none] [] c L := by
  refine r_iconst 1 dX9_countStorms_0 rfl ?_
  refine r_istore1 2 dX9_countStorms_1 rfl rfl (by decide) ?_
  refine r_iconst 3 dX9_countStorms_2 rfl ?_
  refine r_istore2 4 dX9_countStorms_3 rfl rfl (by decide) ?_
  exact x_sto_loop hR k 10 0 _ rfl rfl
theorem x_isOfKind {z : xZ} {d : Nat} {Q : tQ} {c : tC} {L : tL} {s : Nat} {v : Int} (hR : RX c) (hs : (s : Int) < c 50 0 2) (hv : 0 ≤ v ∧ v ≤ 7) (k1 : (v = 0 ∨ v = c 51 19 s ∨ (v = 1 ∧ c 51 19 s = 7)) → Q (some (.int (iI 1))) c L) (k0 : ¬ (v = 0 ∨ v = c 51 19 s ∨ (v = 1 ∧ c 51 19 s = 7)) → Q (some (.int (iI 0))) c L) : En z (d + 2) MX8_isOfKind Q 0 [some (.ref (xad z 13 s)), some (.int (iI v))] [] c L := by
  have hg := R0_rng hR
  have hq := R0_src hR s hs
  refine r_iloadN 1 dX8_isOfKind_0 rfl rfl ?_
  refine r_ifeq 24 4 dX8_isOfKind_1 rfl (by decide) (by omega) (fun h1 => ?_) (fun h1 => ?_)
  · refine r_iconst 25 dX8_isOfKind_24 rfl ?_
    refine r_goto 29 dX8_isOfKind_25 (by decide) ?_
    first
      | exact r_zret dX8_isOfKind_29 rfl (by decide) (k1 (by omega))
      | (have q := of_decide_eq_true (show decide (c 51 19 s = 1 ∨ c 51 19 s = 7) = true from y18); exact r_zret dX8_isOfKind_29 rfl (by decide) (k1 (by omega)))
  · refine r_iloadN 5 dX8_isOfKind_4 rfl rfl ?_
    refine r_aloadN 6 dX8_isOfKind_5 rfl rfl ?_
    refine r_geti 9 dX8_isOfKind_6 rfl fX8_9 (ct_13 (by omega)) (sh_13 z _) rfl ?_
    refine r_iceq 24 12 dX8_isOfKind_9 rfl (by decide) (by omega) (by omega) (fun h9 => ?_) (fun h9 => ?_)
    · refine r_iconst 25 dX8_isOfKind_24 rfl ?_
      refine r_goto 29 dX8_isOfKind_25 (by decide) ?_
      first
        | exact r_zret dX8_isOfKind_29 rfl (by decide) (k1 (by omega))
        | (have q := of_decide_eq_true (show decide (c 51 19 s = 1 ∨ c 51 19 s = 7) = true from y18); exact r_zret dX8_isOfKind_29 rfl (by decide) (k1 (by omega)))
    · refine r_iloadN 13 dX8_isOfKind_12 rfl rfl ?_
      refine r_iconst 14 dX8_isOfKind_13 rfl ?_
      refine r_icne 28 17 dX8_isOfKind_14 rfl (by decide) (by omega) (by omega) (fun h14 => ?_) (fun h14 => ?_)
      · refine r_iconst 29 dX8_isOfKind_28 rfl ?_
        first
          | exact r_zret dX8_isOfKind_29 rfl (by decide) (k0 (by omega))
          | (have q := of_decide_eq_false (show decide (c 51 19 s = 1 ∨ c 51 19 s = 7) = false from y18); exact r_zret dX8_isOfKind_29 rfl (by decide) (k0 (by omega)))
      · refine r_aloadN 18 dX8_isOfKind_17 rfl rfl ?_
        refine r_cv0 21 dX8_isOfKind_18 rfl gX8_36 rfl (ct_13 (by omega)) (sh_13 z _) rfl rfl (Nat.le_of_ble_eq_true rfl) (Nat.le_of_ble_eq_true rfl) rfl ?_
        refine x_isFan hR (s := s) hs (fun y18 => ?_) (fun y18 => ?_)
        · refine r_ifeqF 24 dX8_isOfKind_21 rfl 28 (by decide) (by decide) (by decide) ?_
          refine r_iconst 25 dX8_isOfKind_24 rfl ?_
          refine r_goto 29 dX8_isOfKind_25 (by decide) ?_
          first
            | exact r_zret dX8_isOfKind_29 rfl (by decide) (k1 (by omega))
            | (have q := of_decide_eq_true (show decide (c 51 19 s = 1 ∨ c 51 19 s = 7) = true from y18); exact r_zret dX8_isOfKind_29 rfl (by decide) (k1 (by omega)))
        · refine r_ifeqT 28 0 dX8_isOfKind_21 (by decide) (by decide) (by decide) ?_
          refine r_iconst 29 dX8_isOfKind_28 rfl ?_
          first
            | exact r_zret dX8_isOfKind_29 rfl (by decide) (k0 (by omega))
            | (have q := of_decide_eq_false (show decide (c 51 19 s = 1 ∨ c 51 19 s = 7) = false from y18); exact r_zret dX8_isOfKind_29 rfl (by decide) (k0 (by omega)))
theorem x_wordOf {z : xZ} {d : Nat} {Q : tQ} {c : tC} {L : tL} {s0 : Nat} {v : Int} (hR : RX c) (hs : (s0 : Int) < c 50 0 2) (hv : 0 ≤ v ∧ v ≤ 7) (k : ∀ r, r = fWord (c 51) s0 v → Q (some (.int (iI r))) c L) : En z (d + 2) MX9_wordOf Q 0 [some (.ref (xad z 8 0)), some (.int (iI (s0 : Int))), some (.int (iI v)), none] [] c L := by
  have hg := R0_rng hR
  have hc := R0_scal hR
  have hq := R0_src hR s0 (by omega)
  have hlw := R0_law hR
  refine r_aloadN 1 dX9_wordOf_0 rfl rfl ?_
  refine r_getq 4 dX9_wordOf_1 rfl fX9_38 (by decide) (sh_8 z _) rfl ?_
  refine r_iloadN 5 dX9_wordOf_4 rfl rfl ?_
  refine r_aald 6 dX9_wordOf_5 (s0) rfl rfl (by decide) (sh_10a z) rfl (by decide) (by omega) (by omega) ?_
  refine r_astore3 7 dX9_wordOf_6 rfl rfl (by decide) ?_
  refine r_iloadN 8 dX9_wordOf_7 rfl rfl ?_
  rcases (show v = 0 ∨ v = 1 ∨ v = 2 ∨ v = 3 ∨ v = 4 ∨ v = 5 ∨ v = 6 ∨ v = 7 by omega) with e9 | e9 | e9 | e9 | e9 | e9 | e9 | e9
  · refine r_tin (48) 56 dX9_wordOf_8 (by omega) (by omega) (by omega) (by rw [e9]; rfl) (by decide) ?_
    refine r_aloadN 57 dX9_wordOf_56 rfl rfl ?_
    refine r_geti 60 dX9_wordOf_57 rfl fX9_111 (ct_13 (by omega)) (sh_13 z _) rfl ?_
    refine r_ret dX9_wordOf_60 rfl (k _ ?_)
    unfold fWord
    rw [e9]
    simp
    omega
  · refine r_tin (53) 61 dX9_wordOf_8 (by omega) (by omega) (by omega) (by rw [e9]; rfl) (by decide) ?_
    refine r_aloadN 62 dX9_wordOf_61 rfl rfl ?_
    refine r_cv0 65 dX9_wordOf_62 rfl gX9_137 rfl (ct_13 (by omega)) (sh_13 z _) rfl rfl (Nat.le_of_ble_eq_true rfl) (Nat.le_of_ble_eq_true rfl) rfl ?_
    refine x_hoursAsNumber hR (s := s0) hs (fun r62 e62 => ?_)
    refine r_ret dX9_wordOf_65 rfl (k _ ?_)
    unfold fWord
    rw [e9]
    simp
    omega
  · refine r_tin (70) 78 dX9_wordOf_8 (by omega) (by omega) (by omega) (by rw [e9]; rfl) (by decide) ?_
    refine r_aloadN 79 dX9_wordOf_78 rfl rfl ?_
    refine r_geti 82 dX9_wordOf_79 rfl fX9_144 (ct_13 (by omega)) (sh_13 z _) rfl ?_
    refine r_ret dX9_wordOf_82 rfl (k _ ?_)
    unfold fWord
    rw [e9]
    simp
    omega
  · refine r_tin (70) 78 dX9_wordOf_8 (by omega) (by omega) (by omega) (by rw [e9]; rfl) (by decide) ?_
    refine r_aloadN 79 dX9_wordOf_78 rfl rfl ?_
    refine r_geti 82 dX9_wordOf_79 rfl fX9_144 (ct_13 (by omega)) (sh_13 z _) rfl ?_
    refine r_ret dX9_wordOf_82 rfl (k _ ?_)
    unfold fWord
    rw [e9]
    simp
    omega
  · refine r_tin (70) 78 dX9_wordOf_8 (by omega) (by omega) (by omega) (by rw [e9]; rfl) (by decide) ?_
    refine r_aloadN 79 dX9_wordOf_78 rfl rfl ?_
    refine r_geti 82 dX9_wordOf_79 rfl fX9_144 (ct_13 (by omega)) (sh_13 z _) rfl ?_
    refine r_ret dX9_wordOf_82 rfl (k _ ?_)
    unfold fWord
    rw [e9]
    simp
    omega
  · refine r_tin (58) 66 dX9_wordOf_8 (by omega) (by omega) (by omega) (by rw [e9]; rfl) (by decide) ?_
    refine r_aloadN 67 dX9_wordOf_66 rfl rfl ?_
    refine r_getq 70 dX9_wordOf_67 rfl fX9_69 (by decide) (sh_8 z _) rfl ?_
    refine r_iconst 71 dX9_wordOf_70 rfl ?_
    refine r_iald 72 dX9_wordOf_71 (5) rfl rfl (by decide) (sh_27 z _) (by decide) (by omega) (by omega) ?_
    refine r_ret dX9_wordOf_72 rfl (k _ ?_)
    unfold fWord
    rw [e9]
    simp
    omega
  · refine r_tin (65) 73 dX9_wordOf_8 (by omega) (by omega) (by omega) (by rw [e9]; rfl) (by decide) ?_
    refine r_aloadN 74 dX9_wordOf_73 rfl rfl ?_
    refine r_cv0 77 dX9_wordOf_74 rfl gX9_141 rfl (by decide) (sh_8 z _) rfl rfl (Nat.le_of_ble_eq_true rfl) (Nat.le_of_ble_eq_true rfl) rfl ?_
    refine x_sto hR (fun r74 e74 => ?_)
    refine r_ret dX9_wordOf_77 rfl (k _ ?_)
    unfold fWord
    rw [e9]
    simp
    omega
  · refine r_tin (53) 61 dX9_wordOf_8 (by omega) (by omega) (by omega) (by rw [e9]; rfl) (by decide) ?_
    refine r_aloadN 62 dX9_wordOf_61 rfl rfl ?_
    refine r_cv0 65 dX9_wordOf_62 rfl gX9_137 rfl (ct_13 (by omega)) (sh_13 z _) rfl rfl (Nat.le_of_ble_eq_true rfl) (Nat.le_of_ble_eq_true rfl) rfl ?_
    refine x_hoursAsNumber hR (s := s0) hs (fun r62 e62 => ?_)
    refine r_ret dX9_wordOf_65 rfl (k _ ?_)
    unfold fWord
    rw [e9]
    simp
    omega
theorem x_says {z : xZ} {d : Nat} {Q : tQ} {c : tC} {L : tL} {s v : Int} (hR : RX c) (hS : SH c L) (hs : inR s) (hv : inR v) (k : ∀ r w, (r, w) = gSays (c 51) s v → Q (some (.int (iI r))) (xRe c w) L) : En z (d + 20) MX10_says Q 0 [some (.ref (xad z 0 0)), some (.int (iI s)), some (.int (iI v)), none, none] [] c L := by
  have s1 := hs.1
  have s2 := hs.2
  have v1 := hv.1
  have v2 := hv.2
  have hg := R0_rng hR
  refine r_iloadN 1 dX10_says_0 rfl rfl ?_
  refine r_cs1 4 dX10_says_1 rfl gX10_56 (Nat.le_of_ble_eq_true rfl) (Nat.le_of_ble_eq_true rfl) rfl ?_
  refine x_isShelf (by assumption) (fun y1 => ?_) (fun y1 => ?_)
  · refine r_ifeqF 7 dX10_says_4 rfl 17 (by decide) (by decide) (by decide) ?_
    refine r_iloadN 8 dX10_says_7 rfl rfl ?_
    refine r_iflt 17 11 dX10_says_8 rfl (by decide) (by omega) (fun h8 => ?_) (fun h8 => ?_)
    · refine r_aloadN 18 dX10_says_17 rfl rfl ?_
      refine r_iconst 19 dX10_says_18 rfl ?_
      refine r_cv1 22 dX10_says_19 rfl gX10_60 rfl (by decide) (sh_0 z _) rfl rfl (Nat.le_of_ble_eq_true rfl) (Nat.le_of_ble_eq_true rfl) rfl ?_
      refine x_refuse (k0 := 1) (by decide) (by decide) ?_
      refine r_ret dX10_says_22 rfl (k _ 1 ?_)
      unfold gSays
      rw [if_pos (by omega)]
    · refine r_iloadN 12 dX10_says_11 rfl rfl ?_
      refine r_bipush 14 dX10_says_12 rfl (by decide) ?_
      refine r_icle 23 17 dX10_says_14 rfl (by decide) (by omega) (by omega) (fun h14 => ?_) (fun h14 => ?_)
      · obtain ⟨sh, hsh0⟩ := Int.eq_ofNat_of_zero_le (show 0 ≤ s by omega)
        subst hsh0
        have hi := SH_i hS sh (by omega)
        have hi2 := hi
        unfold SI at hi2
        refine r_aloadN 24 dX10_says_23 rfl rfl ?_
        refine r_getq 27 dX10_says_24 rfl fX10_11 (by decide) (sh_0 z _) rfl ?_
        refine r_iloadN 28 dX10_says_27 rfl rfl ?_
        refine r_aald 29 dX10_says_28 (sh) rfl rfl (by decide) (sh_1 z _) rfl (by decide) (by omega) (by omega) ?_
        refine r_astore3 30 dX10_says_29 rfl rfl (by decide) ?_
        refine r_aloadN 31 dX10_says_30 rfl rfl ?_
        refine r_cv0 34 dX10_says_31 rfl gX10_115 rfl (ct_2 (by omega)) (sh_2 z _) rfl rfl (Nat.le_of_ble_eq_true rfl) (Nat.le_of_ble_eq_true rfl) rfl ?_
        refine x_holdsRow (RX_MG hR) (by omega) hi (fun y31 => ?_) (fun y31 => ?_)
        · refine r_ifeqF 37 dX10_says_34 rfl 44 (by decide) (by decide) (by decide) ?_
          refine r_aloadN 38 dX10_says_37 rfl rfl ?_
          refine r_bipush 40 dX10_says_38 rfl (by decide) ?_
          refine r_cv1 43 dX10_says_40 rfl gX10_60 rfl (by decide) (sh_0 z _) rfl rfl (Nat.le_of_ble_eq_true rfl) (Nat.le_of_ble_eq_true rfl) rfl ?_
          refine x_refuse (k0 := 2) (by decide) (by decide) ?_
          refine r_ret dX10_says_43 rfl (k _ 2 ?_)
          unfold gSays
          rw [if_neg (by omega), Int.toNat_natCast, if_pos (by omega)]
        · refine r_ifeqT 44 0 dX10_says_34 (by decide) (by decide) (by decide) ?_
          refine r_aloadN 45 dX10_says_44 rfl rfl ?_
          refine r_cv0 48 dX10_says_45 rfl gX10_111 rfl (ct_2 (by omega)) (sh_2 z _) rfl rfl (Nat.le_of_ble_eq_true rfl) (Nat.le_of_ble_eq_true rfl) rfl ?_
          refine x_content (s := sh) (by omega) (fun r45 e45 => ?_)
          refine r_istore4 50 dX10_says_48 rfl rfl (by decide) ?_
          refine r_aloadN 51 dX10_says_50 rfl rfl ?_
          refine r_getq 54 dX10_says_51 rfl fX10_26 (by decide) (sh_0 z _) rfl ?_
          refine r_iload 56 dX10_says_54 rfl rfl ?_
          refine r_cv1 59 dX10_says_56 rfl gX10_101 rfl (by decide) (sh_8 z _) rfl rfl (Nat.le_of_ble_eq_true rfl) (Nat.le_of_ble_eq_true rfl) rfl ?_
          refine x_isSource hR (by constructor <;> omega) (fun y56 => ?_) (fun y56 => ?_)
          · refine r_ifneT 69 0 dX10_says_59 (by decide) (by decide) (by decide) ?_
            obtain ⟨s0, hs0⟩ := Int.eq_ofNat_of_zero_le (show 0 ≤ c 51 47 sh by omega)
            rw [show r45 = (s0 : Int) by omega]
            refine r_aloadN 70 dX10_says_69 rfl rfl ?_
            refine r_getq 73 dX10_says_70 rfl fX10_26 (by decide) (sh_0 z _) rfl ?_
            refine r_getq 76 dX10_says_73 rfl fX10_118 (by decide) (sh_8 z _) rfl ?_
            refine r_iload 78 dX10_says_76 rfl rfl ?_
            refine r_aald 79 dX10_says_78 (s0) rfl rfl (by decide) (sh_10a z) rfl (by decide) (by omega) (by omega) ?_
            refine r_iloadN 80 dX10_says_79 rfl rfl ?_
            refine r_cv1 83 dX10_says_80 rfl gX10_122 rfl (ct_13 (by omega)) (sh_13 z _) rfl rfl (Nat.le_of_ble_eq_true rfl) (Nat.le_of_ble_eq_true rfl) rfl ?_
            refine x_isOfKind hR (s := s0) (by omega) (by omega) (fun y80 => ?_) (fun y80 => ?_)
            · refine r_ifneT 93 0 dX10_says_83 (by decide) (by decide) (by decide) ?_
              refine r_aloadN 94 dX10_says_93 rfl rfl ?_
              refine r_getq 97 dX10_says_94 rfl fX10_26 (by decide) (sh_0 z _) rfl ?_
              refine r_iload 99 dX10_says_97 rfl rfl ?_
              refine r_iloadN 100 dX10_says_99 rfl rfl ?_
              refine r_cv2 103 dX10_says_100 rfl gX10_127 rfl (by decide) (sh_8 z _) rfl rfl (Nat.le_of_ble_eq_true rfl) (Nat.le_of_ble_eq_true rfl) rfl ?_
              refine x_wordOf hR (s0 := s0) (by omega) (by omega) (fun r100 e100 => ?_)
              refine r_ret dX10_says_103 rfl (k _ 0 ?_)
              unfold gSays
              rw [if_neg (by omega), Int.toNat_natCast, if_neg (by omega), if_neg (by omega), hs0, Int.toNat_natCast, if_neg (fun q => q y80)]
              rw [e100]
            · refine r_ifneF 86 dX10_says_83 rfl 93 (by decide) (by decide) (by decide) ?_
              refine r_aloadN 87 dX10_says_86 rfl rfl ?_
              refine r_bipush 89 dX10_says_87 rfl (by decide) ?_
              refine r_cv1 92 dX10_says_89 rfl gX10_60 rfl (by decide) (sh_0 z _) rfl rfl (Nat.le_of_ble_eq_true rfl) (Nat.le_of_ble_eq_true rfl) rfl ?_
              refine x_refuse (k0 := 2) (by decide) (by decide) ?_
              refine r_ret dX10_says_92 rfl (k _ 2 ?_)
              unfold gSays
              rw [if_neg (by omega), Int.toNat_natCast, if_neg (by omega), if_neg (by omega), hs0, Int.toNat_natCast, if_pos y80]
          · refine r_ifneF 62 dX10_says_59 rfl 69 (by decide) (by decide) (by decide) ?_
            refine r_aloadN 63 dX10_says_62 rfl rfl ?_
            refine r_bipush 65 dX10_says_63 rfl (by decide) ?_
            refine r_cv1 68 dX10_says_65 rfl gX10_60 rfl (by decide) (sh_0 z _) rfl rfl (Nat.le_of_ble_eq_true rfl) (Nat.le_of_ble_eq_true rfl) rfl ?_
            refine x_refuse (k0 := 3) (by decide) (by decide) ?_
            refine r_ret dX10_says_68 rfl (k _ 3 ?_)
            unfold gSays
            rw [if_neg (by omega), Int.toNat_natCast, if_neg (by omega), if_pos (by omega)]
      · refine r_aloadN 18 dX10_says_17 rfl rfl ?_
        refine r_iconst 19 dX10_says_18 rfl ?_
        refine r_cv1 22 dX10_says_19 rfl gX10_60 rfl (by decide) (sh_0 z _) rfl rfl (Nat.le_of_ble_eq_true rfl) (Nat.le_of_ble_eq_true rfl) rfl ?_
        refine x_refuse (k0 := 1) (by decide) (by decide) ?_
        refine r_ret dX10_says_22 rfl (k _ 1 ?_)
        unfold gSays
        rw [if_pos (by omega)]
  · refine r_ifeqT 17 0 dX10_says_4 (by decide) (by decide) (by decide) ?_
    refine r_aloadN 18 dX10_says_17 rfl rfl ?_
    refine r_iconst 19 dX10_says_18 rfl ?_
    refine r_cv1 22 dX10_says_19 rfl gX10_60 rfl (by decide) (sh_0 z _) rfl rfl (Nat.le_of_ble_eq_true rfl) (Nat.le_of_ble_eq_true rfl) rfl ?_
    refine x_refuse (k0 := 1) (by decide) (by decide) ?_
    refine r_ret dX10_says_22 rfl (k _ 1 ?_)
    unfold gSays
    rw [if_pos (by omega)]
theorem m_sto_loop {z : xZ} {d : Nat} {Q : tQ} {c : tC} {L : tL} {a b v : Int}  (kk : ∀ r, r = fSto (c 51) 10 → Q (some (.int (iI r))) c L) : ∀ (k i : Nat) (m : Int), i + k = 10 → m = fSto (c 51) i → En z (d + 1) MX11_says Q 171 [some (.ref (xad z 50 0)), some (.int (iI a)), some (.int (iI v)), some (.int (iI b)), some (.int (iI m)), some (.int (iI (i : Int)))] [] c L := by
  intro k
  induction k with
  | zero =>
    intro i m hi hm
    refine r_iload 173 dX11_says_171 rfl rfl ?_
    refine r_bipush 175 dX11_says_173 rfl (by decide) ?_
    refine r_icge 196 178 dX11_says_175 rfl (by decide) (by omega) (by omega) (fun h175 => ?_) (fun h175 => ?_)
    · refine r_iload 198 dX11_says_196 rfl rfl ?_
      refine r_ret dX11_says_198 rfl (kk _ ?_)
      rw [hm, show i = 10 by omega]
    · exfalso; omega
  | succ k ih =>
    intro i m hi hm
    refine r_iload 173 dX11_says_171 rfl rfl ?_
    refine r_bipush 175 dX11_says_173 rfl (by decide) ?_
    refine r_icge 196 178 dX11_says_175 rfl (by decide) (by omega) (by omega) (fun h175 => ?_) (fun h175 => ?_)
    · exfalso; omega
    · refine r_iload 180 dX11_says_178 rfl rfl ?_
      refine r_aloadN 181 dX11_says_180 rfl rfl ?_
      refine r_getq 184 dX11_says_181 rfl fX11_26 (by decide) (sh_50 z _) rfl ?_
      refine r_iload 186 dX11_says_184 rfl rfl ?_
      refine r_iald (n := 10) 187 dX11_says_186 (i) rfl rfl (by decide) (sh_51 z _) (by decide) (by omega) (by omega) ?_
      refine r_iadd 188 dX11_says_187 rfl ?_
      refine r_istore4 190 dX11_says_188 rfl rfl (by decide) ?_
      refine r_iinc5 193 dX11_says_190 rfl rfl (by decide) ?_
      refine r_goto 171 dX11_says_193 (by decide) ?_
      refine ih (i + 1) _ (by omega) ?_
      rw [fSto, hm]
theorem m_says {z : xZ} {d : Nat} {Q : tQ} {c : tC} {L : tL} {s v : Int} (hR : RX c) (hS : SH c L) (hs : inR s) (hv : inR v) (k : ∀ r w, (r, w) = gSays (c 51) s v → Q (some (.int (iI r))) (mRe c w) L) : En z (d + 20) MX11_says Q 0 [some (.ref (xad z 50 0)), some (.int (iI s)), some (.int (iI v)), none, none, none] [] c L := by
  have hg := R0_rng hR
  have hv1 := hv.1
  have hv2 := hv.2
  refine r_aloadN 1 dX11_says_0 rfl rfl ?_
  refine r_iloadN 2 dX11_says_1 rfl rfl ?_
  refine r_cv1 5 dX11_says_2 rfl gX11_181 rfl (by decide) (sh_50 z _) rfl rfl (Nat.le_of_ble_eq_true rfl) (Nat.le_of_ble_eq_true rfl) rfl ?_
  refine m_isShelf (by assumption) (fun y2 => ?_) (fun y2 => ?_)
  · refine r_ifeqF 8 dX11_says_5 rfl 18 (by decide) (by decide) (by decide) ?_
    refine r_iloadN 9 dX11_says_8 rfl rfl ?_
    refine r_iflt 18 12 dX11_says_9 rfl (by decide) (by omega) (fun h9 => ?_) (fun h9 => ?_)
    · refine r_aloadN 19 dX11_says_18 rfl rfl ?_
      refine r_iconst 20 dX11_says_19 rfl ?_
      refine r_cv1 23 dX11_says_20 rfl gX11_184 rfl (by decide) (sh_50 z _) rfl rfl (Nat.le_of_ble_eq_true rfl) (Nat.le_of_ble_eq_true rfl) rfl ?_
      refine m_no (k0 := 1) (by decide) (by decide) ?_
      refine r_ret dX11_says_23 rfl (k _ 1 ?_)
      unfold gSays
      rw [if_pos (by omega)]
    · refine r_iloadN 13 dX11_says_12 rfl rfl ?_
      refine r_bipush 15 dX11_says_13 rfl (by decide) ?_
      refine r_icle 24 18 dX11_says_15 rfl (by decide) (by omega) (by omega) (fun h15 => ?_) (fun h15 => ?_)
      · obtain ⟨sh, hsh0⟩ := Int.eq_ofNat_of_zero_le (show 0 ≤ s by omega)
        subst hsh0
        have hi := SH_i hS sh (by omega)
        have hi2 := hi
        unfold SI at hi2
        refine r_aloadN 25 dX11_says_24 rfl rfl ?_
        refine r_getq 28 dX11_says_25 rfl fX11_119 (by decide) (sh_50 z _) rfl ?_
        refine r_iloadN 29 dX11_says_28 rfl rfl ?_
        refine r_iald (n := 8) 30 dX11_says_29 (sh) rfl rfl (by decide) (sh_51 z _) (by decide) (by omega) (by omega) ?_
        refine r_iconst 31 dX11_says_30 rfl ?_
        refine r_icne 41 34 dX11_says_31 rfl (by decide) (by omega) (by omega) (fun h31 => ?_) (fun h31 => ?_)
        · refine r_aloadN 42 dX11_says_41 rfl rfl ?_
          refine r_getq 45 dX11_says_42 rfl fX11_119 (by decide) (sh_50 z _) rfl ?_
          refine r_iloadN 46 dX11_says_45 rfl rfl ?_
          refine r_iald (n := 8) 47 dX11_says_46 (sh) rfl rfl (by decide) (sh_51 z _) (by decide) (by omega) (by omega) ?_
          refine r_ifne 57 50 dX11_says_47 rfl (by decide) (by omega) (fun h47 => ?_) (fun h47 => ?_)
          · refine r_aloadN 58 dX11_says_57 rfl rfl ?_
            refine r_getq 61 dX11_says_58 rfl fX11_128 (by decide) (sh_50 z _) rfl ?_
            refine r_iloadN 62 dX11_says_61 rfl rfl ?_
            refine r_iald (n := 8) 63 dX11_says_62 (sh) rfl rfl (by decide) (sh_51 z _) (by decide) (by omega) (by omega) ?_
            obtain ⟨s0, hs0⟩ := Int.eq_ofNat_of_zero_le (show 0 ≤ c 51 47 sh by omega)
            rw [hs0]
            have hq := R0_src hR s0 (by omega)
            have hlw := R0_law hR
            refine r_istore3 64 dX11_says_63 rfl rfl (by decide) ?_
            refine r_iloadN 65 dX11_says_64 rfl rfl ?_
            refine r_ifeq 101 68 dX11_says_65 rfl (by decide) (by omega) (fun h65 => ?_) (fun h65 => ?_)
            · refine r_iloadN 102 dX11_says_101 rfl rfl ?_
              refine r_ifne 112 105 dX11_says_102 rfl (by decide) (by omega) (fun h102 => ?_) (fun h102 => ?_)
              · refine r_iloadN 113 dX11_says_112 rfl rfl ?_
                refine r_iconst 114 dX11_says_113 rfl ?_
                refine r_iceq 123 117 dX11_says_114 rfl (by decide) (by omega) (by omega) (fun h114 => ?_) (fun h114 => ?_)
                · refine r_bipush 125 dX11_says_123 rfl (by decide) ?_
                  refine r_aloadN 126 dX11_says_125 rfl rfl ?_
                  refine r_getq 129 dX11_says_126 rfl fX11_56 (by decide) (sh_50 z _) rfl ?_
                  refine r_iloadN 130 dX11_says_129 rfl rfl ?_
                  refine r_iald (n := 14) 131 dX11_says_130 (s0) rfl rfl (by decide) (sh_51 z _) (by decide) (by omega) (by omega) ?_
                  refine r_imul 132 dX11_says_131 rfl ?_
                  refine r_aloadN 133 dX11_says_132 rfl rfl ?_
                  refine r_getq 136 dX11_says_133 rfl fX11_59 (by decide) (sh_50 z _) rfl ?_
                  refine r_iloadN 137 dX11_says_136 rfl rfl ?_
                  refine r_iald (n := 14) 138 dX11_says_137 (s0) rfl rfl (by decide) (sh_51 z _) (by decide) (by omega) (by omega) ?_
                  refine r_iadd 139 dX11_says_138 rfl ?_
                  refine r_ret dX11_says_139 rfl (k _ 0 ?_)
                  unfold gSays
                  first
                    | (exfalso; omega)
                    | (rw [if_neg (by omega), Int.toNat_natCast, if_neg (by omega), if_neg (by omega), hs0, Int.toNat_natCast, if_neg (fun q => q (by omega))]
                       unfold fWord
                       rw [if_neg (by omega), if_pos (by omega)])
                · refine r_iloadN 118 dX11_says_117 rfl rfl ?_
                  refine r_bipush 120 dX11_says_118 rfl (by decide) ?_
                  refine r_icne 140 123 dX11_says_120 rfl (by decide) (by omega) (by omega) (fun h120 => ?_) (fun h120 => ?_)
                  · refine r_iloadN 141 dX11_says_140 rfl rfl ?_
                    refine r_iconst 142 dX11_says_141 rfl ?_
                    refine r_icne 152 145 dX11_says_142 rfl (by decide) (by omega) (by omega) (fun h142 => ?_) (fun h142 => ?_)
                    · refine r_iloadN 153 dX11_says_152 rfl rfl ?_
                      refine r_bipush 155 dX11_says_153 rfl (by decide) ?_
                      refine r_iceq 165 158 dX11_says_155 rfl (by decide) (by omega) (by omega) (fun h155 => ?_) (fun h155 => ?_)
                      · refine r_iconst 166 dX11_says_165 rfl ?_
                        refine r_istore4 168 dX11_says_166 rfl rfl (by decide) ?_
                        refine r_iconst 169 dX11_says_168 rfl ?_
                        refine r_istore5 171 dX11_says_169 rfl rfl (by decide) ?_
                        first
                          | (exfalso; omega)
                          | (refine m_sto_loop (fun r e => k r 0 ?_) 10 0 _ rfl rfl
                             unfold gSays
                             rw [if_neg (by omega), Int.toNat_natCast, if_neg (by omega), if_neg (by omega), hs0, Int.toNat_natCast, if_neg (fun q => q (by omega))]
                             unfold fWord
                             rw [if_neg (by omega), if_neg (by omega), if_neg (by omega), if_pos (by omega), e]
                             rfl)
                      · refine r_aloadN 159 dX11_says_158 rfl rfl ?_
                        refine r_getq 162 dX11_says_159 rfl fX11_47 (by decide) (sh_50 z _) rfl ?_
                        refine r_iloadN 163 dX11_says_162 rfl rfl ?_
                        refine r_iald (n := 14) 164 dX11_says_163 (s0) rfl rfl (by decide) (sh_51 z _) (by decide) (by omega) (by omega) ?_
                        refine r_ret dX11_says_164 rfl (k _ 0 ?_)
                        unfold gSays
                        first
                          | (exfalso; omega)
                          | (rw [if_neg (by omega), Int.toNat_natCast, if_neg (by omega), if_neg (by omega), hs0, Int.toNat_natCast, if_neg (fun q => q (by omega))]
                             unfold fWord
                             rw [if_neg (by omega), if_neg (by omega), if_neg (by omega), if_neg (by omega)])
                    · refine r_aloadN 146 dX11_says_145 rfl rfl ?_
                      refine r_getq 149 dX11_says_146 rfl fX11_20 (by decide) (sh_50 z _) rfl ?_
                      refine r_iconst 150 dX11_says_149 rfl ?_
                      refine r_iald (n := 6) 151 dX11_says_150 (5) rfl rfl (by decide) (sh_51 z _) (by decide) (by omega) (by omega) ?_
                      refine r_ret dX11_says_151 rfl (k _ 0 ?_)
                      unfold gSays
                      first
                        | (exfalso; omega)
                        | (rw [if_neg (by omega), Int.toNat_natCast, if_neg (by omega), if_neg (by omega), hs0, Int.toNat_natCast, if_neg (fun q => q (by omega))]
                           unfold fWord
                           rw [if_neg (by omega), if_neg (by omega), if_pos (by omega)])
                  · refine r_bipush 125 dX11_says_123 rfl (by decide) ?_
                    refine r_aloadN 126 dX11_says_125 rfl rfl ?_
                    refine r_getq 129 dX11_says_126 rfl fX11_56 (by decide) (sh_50 z _) rfl ?_
                    refine r_iloadN 130 dX11_says_129 rfl rfl ?_
                    refine r_iald (n := 14) 131 dX11_says_130 (s0) rfl rfl (by decide) (sh_51 z _) (by decide) (by omega) (by omega) ?_
                    refine r_imul 132 dX11_says_131 rfl ?_
                    refine r_aloadN 133 dX11_says_132 rfl rfl ?_
                    refine r_getq 136 dX11_says_133 rfl fX11_59 (by decide) (sh_50 z _) rfl ?_
                    refine r_iloadN 137 dX11_says_136 rfl rfl ?_
                    refine r_iald (n := 14) 138 dX11_says_137 (s0) rfl rfl (by decide) (sh_51 z _) (by decide) (by omega) (by omega) ?_
                    refine r_iadd 139 dX11_says_138 rfl ?_
                    refine r_ret dX11_says_139 rfl (k _ 0 ?_)
                    unfold gSays
                    first
                      | (exfalso; omega)
                      | (rw [if_neg (by omega), Int.toNat_natCast, if_neg (by omega), if_neg (by omega), hs0, Int.toNat_natCast, if_neg (fun q => q (by omega))]
                         unfold fWord
                         rw [if_neg (by omega), if_pos (by omega)])
              · refine r_aloadN 106 dX11_says_105 rfl rfl ?_
                refine r_getq 109 dX11_says_106 rfl fX11_50 (by decide) (sh_50 z _) rfl ?_
                refine r_iloadN 110 dX11_says_109 rfl rfl ?_
                refine r_iald (n := 14) 111 dX11_says_110 (s0) rfl rfl (by decide) (sh_51 z _) (by decide) (by omega) (by omega) ?_
                refine r_ret dX11_says_111 rfl (k _ 0 ?_)
                unfold gSays
                first
                  | (exfalso; omega)
                  | (rw [if_neg (by omega), Int.toNat_natCast, if_neg (by omega), if_neg (by omega), hs0, Int.toNat_natCast, if_neg (fun q => q (by omega))]
                     unfold fWord
                     rw [if_pos (by omega)])
            · refine r_iloadN 69 dX11_says_68 rfl rfl ?_
              refine r_aloadN 70 dX11_says_69 rfl rfl ?_
              refine r_getq 73 dX11_says_70 rfl fX11_44 (by decide) (sh_50 z _) rfl ?_
              refine r_iloadN 74 dX11_says_73 rfl rfl ?_
              refine r_iald (n := 14) 75 dX11_says_74 (s0) rfl rfl (by decide) (sh_51 z _) (by decide) (by omega) (by omega) ?_
              refine r_iceq 101 78 dX11_says_75 rfl (by decide) (by omega) (by omega) (fun h75 => ?_) (fun h75 => ?_)
              · refine r_iloadN 102 dX11_says_101 rfl rfl ?_
                refine r_ifne 112 105 dX11_says_102 rfl (by decide) (by omega) (fun h102 => ?_) (fun h102 => ?_)
                · refine r_iloadN 113 dX11_says_112 rfl rfl ?_
                  refine r_iconst 114 dX11_says_113 rfl ?_
                  refine r_iceq 123 117 dX11_says_114 rfl (by decide) (by omega) (by omega) (fun h114 => ?_) (fun h114 => ?_)
                  · refine r_bipush 125 dX11_says_123 rfl (by decide) ?_
                    refine r_aloadN 126 dX11_says_125 rfl rfl ?_
                    refine r_getq 129 dX11_says_126 rfl fX11_56 (by decide) (sh_50 z _) rfl ?_
                    refine r_iloadN 130 dX11_says_129 rfl rfl ?_
                    refine r_iald (n := 14) 131 dX11_says_130 (s0) rfl rfl (by decide) (sh_51 z _) (by decide) (by omega) (by omega) ?_
                    refine r_imul 132 dX11_says_131 rfl ?_
                    refine r_aloadN 133 dX11_says_132 rfl rfl ?_
                    refine r_getq 136 dX11_says_133 rfl fX11_59 (by decide) (sh_50 z _) rfl ?_
                    refine r_iloadN 137 dX11_says_136 rfl rfl ?_
                    refine r_iald (n := 14) 138 dX11_says_137 (s0) rfl rfl (by decide) (sh_51 z _) (by decide) (by omega) (by omega) ?_
                    refine r_iadd 139 dX11_says_138 rfl ?_
                    refine r_ret dX11_says_139 rfl (k _ 0 ?_)
                    unfold gSays
                    first
                      | (exfalso; omega)
                      | (rw [if_neg (by omega), Int.toNat_natCast, if_neg (by omega), if_neg (by omega), hs0, Int.toNat_natCast, if_neg (fun q => q (by omega))]
                         unfold fWord
                         rw [if_neg (by omega), if_pos (by omega)])
                  · refine r_iloadN 118 dX11_says_117 rfl rfl ?_
                    refine r_bipush 120 dX11_says_118 rfl (by decide) ?_
                    refine r_icne 140 123 dX11_says_120 rfl (by decide) (by omega) (by omega) (fun h120 => ?_) (fun h120 => ?_)
                    · refine r_iloadN 141 dX11_says_140 rfl rfl ?_
                      refine r_iconst 142 dX11_says_141 rfl ?_
                      refine r_icne 152 145 dX11_says_142 rfl (by decide) (by omega) (by omega) (fun h142 => ?_) (fun h142 => ?_)
                      · refine r_iloadN 153 dX11_says_152 rfl rfl ?_
                        refine r_bipush 155 dX11_says_153 rfl (by decide) ?_
                        refine r_iceq 165 158 dX11_says_155 rfl (by decide) (by omega) (by omega) (fun h155 => ?_) (fun h155 => ?_)
                        · refine r_iconst 166 dX11_says_165 rfl ?_
                          refine r_istore4 168 dX11_says_166 rfl rfl (by decide) ?_
                          refine r_iconst 169 dX11_says_168 rfl ?_
                          refine r_istore5 171 dX11_says_169 rfl rfl (by decide) ?_
                          first
                            | (exfalso; omega)
                            | (refine m_sto_loop (fun r e => k r 0 ?_) 10 0 _ rfl rfl
                               unfold gSays
                               rw [if_neg (by omega), Int.toNat_natCast, if_neg (by omega), if_neg (by omega), hs0, Int.toNat_natCast, if_neg (fun q => q (by omega))]
                               unfold fWord
                               rw [if_neg (by omega), if_neg (by omega), if_neg (by omega), if_pos (by omega), e]
                               rfl)
                        · refine r_aloadN 159 dX11_says_158 rfl rfl ?_
                          refine r_getq 162 dX11_says_159 rfl fX11_47 (by decide) (sh_50 z _) rfl ?_
                          refine r_iloadN 163 dX11_says_162 rfl rfl ?_
                          refine r_iald (n := 14) 164 dX11_says_163 (s0) rfl rfl (by decide) (sh_51 z _) (by decide) (by omega) (by omega) ?_
                          refine r_ret dX11_says_164 rfl (k _ 0 ?_)
                          unfold gSays
                          first
                            | (exfalso; omega)
                            | (rw [if_neg (by omega), Int.toNat_natCast, if_neg (by omega), if_neg (by omega), hs0, Int.toNat_natCast, if_neg (fun q => q (by omega))]
                               unfold fWord
                               rw [if_neg (by omega), if_neg (by omega), if_neg (by omega), if_neg (by omega)])
                      · refine r_aloadN 146 dX11_says_145 rfl rfl ?_
                        refine r_getq 149 dX11_says_146 rfl fX11_20 (by decide) (sh_50 z _) rfl ?_
                        refine r_iconst 150 dX11_says_149 rfl ?_
                        refine r_iald (n := 6) 151 dX11_says_150 (5) rfl rfl (by decide) (sh_51 z _) (by decide) (by omega) (by omega) ?_
                        refine r_ret dX11_says_151 rfl (k _ 0 ?_)
                        unfold gSays
                        first
                          | (exfalso; omega)
                          | (rw [if_neg (by omega), Int.toNat_natCast, if_neg (by omega), if_neg (by omega), hs0, Int.toNat_natCast, if_neg (fun q => q (by omega))]
                             unfold fWord
                             rw [if_neg (by omega), if_neg (by omega), if_pos (by omega)])
                    · refine r_bipush 125 dX11_says_123 rfl (by decide) ?_
                      refine r_aloadN 126 dX11_says_125 rfl rfl ?_
                      refine r_getq 129 dX11_says_126 rfl fX11_56 (by decide) (sh_50 z _) rfl ?_
                      refine r_iloadN 130 dX11_says_129 rfl rfl ?_
                      refine r_iald (n := 14) 131 dX11_says_130 (s0) rfl rfl (by decide) (sh_51 z _) (by decide) (by omega) (by omega) ?_
                      refine r_imul 132 dX11_says_131 rfl ?_
                      refine r_aloadN 133 dX11_says_132 rfl rfl ?_
                      refine r_getq 136 dX11_says_133 rfl fX11_59 (by decide) (sh_50 z _) rfl ?_
                      refine r_iloadN 137 dX11_says_136 rfl rfl ?_
                      refine r_iald (n := 14) 138 dX11_says_137 (s0) rfl rfl (by decide) (sh_51 z _) (by decide) (by omega) (by omega) ?_
                      refine r_iadd 139 dX11_says_138 rfl ?_
                      refine r_ret dX11_says_139 rfl (k _ 0 ?_)
                      unfold gSays
                      first
                        | (exfalso; omega)
                        | (rw [if_neg (by omega), Int.toNat_natCast, if_neg (by omega), if_neg (by omega), hs0, Int.toNat_natCast, if_neg (fun q => q (by omega))]
                           unfold fWord
                           rw [if_neg (by omega), if_pos (by omega)])
                · refine r_aloadN 106 dX11_says_105 rfl rfl ?_
                  refine r_getq 109 dX11_says_106 rfl fX11_50 (by decide) (sh_50 z _) rfl ?_
                  refine r_iloadN 110 dX11_says_109 rfl rfl ?_
                  refine r_iald (n := 14) 111 dX11_says_110 (s0) rfl rfl (by decide) (sh_51 z _) (by decide) (by omega) (by omega) ?_
                  refine r_ret dX11_says_111 rfl (k _ 0 ?_)
                  unfold gSays
                  first
                    | (exfalso; omega)
                    | (rw [if_neg (by omega), Int.toNat_natCast, if_neg (by omega), if_neg (by omega), hs0, Int.toNat_natCast, if_neg (fun q => q (by omega))]
                       unfold fWord
                       rw [if_pos (by omega)])
              · refine r_iloadN 79 dX11_says_78 rfl rfl ?_
                refine r_iconst 80 dX11_says_79 rfl ?_
                refine r_icne 94 83 dX11_says_80 rfl (by decide) (by omega) (by omega) (fun h80 => ?_) (fun h80 => ?_)
                · refine r_aloadN 95 dX11_says_94 rfl rfl ?_
                  refine r_bipush 97 dX11_says_95 rfl (by decide) ?_
                  refine r_cv1 100 dX11_says_97 rfl gX11_184 rfl (by decide) (sh_50 z _) rfl rfl (Nat.le_of_ble_eq_true rfl) (Nat.le_of_ble_eq_true rfl) rfl ?_
                  refine m_no (k0 := 2) (by decide) (by decide) ?_
                  refine r_ret dX11_says_100 rfl (k _ 2 ?_)
                  unfold gSays
                  rw [if_neg (by omega), Int.toNat_natCast, if_neg (by omega), if_neg (by omega), hs0, Int.toNat_natCast, if_pos (by omega)]
                · refine r_aloadN 84 dX11_says_83 rfl rfl ?_
                  refine r_getq 87 dX11_says_84 rfl fX11_44 (by decide) (sh_50 z _) rfl ?_
                  refine r_iloadN 88 dX11_says_87 rfl rfl ?_
                  refine r_iald (n := 14) 89 dX11_says_88 (s0) rfl rfl (by decide) (sh_51 z _) (by decide) (by omega) (by omega) ?_
                  refine r_bipush 91 dX11_says_89 rfl (by decide) ?_
                  refine r_iceq 101 94 dX11_says_91 rfl (by decide) (by omega) (by omega) (fun h91 => ?_) (fun h91 => ?_)
                  · refine r_iloadN 102 dX11_says_101 rfl rfl ?_
                    refine r_ifne 112 105 dX11_says_102 rfl (by decide) (by omega) (fun h102 => ?_) (fun h102 => ?_)
                    · refine r_iloadN 113 dX11_says_112 rfl rfl ?_
                      refine r_iconst 114 dX11_says_113 rfl ?_
                      refine r_iceq 123 117 dX11_says_114 rfl (by decide) (by omega) (by omega) (fun h114 => ?_) (fun h114 => ?_)
                      · refine r_bipush 125 dX11_says_123 rfl (by decide) ?_
                        refine r_aloadN 126 dX11_says_125 rfl rfl ?_
                        refine r_getq 129 dX11_says_126 rfl fX11_56 (by decide) (sh_50 z _) rfl ?_
                        refine r_iloadN 130 dX11_says_129 rfl rfl ?_
                        refine r_iald (n := 14) 131 dX11_says_130 (s0) rfl rfl (by decide) (sh_51 z _) (by decide) (by omega) (by omega) ?_
                        refine r_imul 132 dX11_says_131 rfl ?_
                        refine r_aloadN 133 dX11_says_132 rfl rfl ?_
                        refine r_getq 136 dX11_says_133 rfl fX11_59 (by decide) (sh_50 z _) rfl ?_
                        refine r_iloadN 137 dX11_says_136 rfl rfl ?_
                        refine r_iald (n := 14) 138 dX11_says_137 (s0) rfl rfl (by decide) (sh_51 z _) (by decide) (by omega) (by omega) ?_
                        refine r_iadd 139 dX11_says_138 rfl ?_
                        refine r_ret dX11_says_139 rfl (k _ 0 ?_)
                        unfold gSays
                        first
                          | (exfalso; omega)
                          | (rw [if_neg (by omega), Int.toNat_natCast, if_neg (by omega), if_neg (by omega), hs0, Int.toNat_natCast, if_neg (fun q => q (by omega))]
                             unfold fWord
                             rw [if_neg (by omega), if_pos (by omega)])
                      · refine r_iloadN 118 dX11_says_117 rfl rfl ?_
                        refine r_bipush 120 dX11_says_118 rfl (by decide) ?_
                        refine r_icne 140 123 dX11_says_120 rfl (by decide) (by omega) (by omega) (fun h120 => ?_) (fun h120 => ?_)
                        · refine r_iloadN 141 dX11_says_140 rfl rfl ?_
                          refine r_iconst 142 dX11_says_141 rfl ?_
                          refine r_icne 152 145 dX11_says_142 rfl (by decide) (by omega) (by omega) (fun h142 => ?_) (fun h142 => ?_)
                          · refine r_iloadN 153 dX11_says_152 rfl rfl ?_
                            refine r_bipush 155 dX11_says_153 rfl (by decide) ?_
                            refine r_iceq 165 158 dX11_says_155 rfl (by decide) (by omega) (by omega) (fun h155 => ?_) (fun h155 => ?_)
                            · refine r_iconst 166 dX11_says_165 rfl ?_
                              refine r_istore4 168 dX11_says_166 rfl rfl (by decide) ?_
                              refine r_iconst 169 dX11_says_168 rfl ?_
                              refine r_istore5 171 dX11_says_169 rfl rfl (by decide) ?_
                              first
                                | (exfalso; omega)
                                | (refine m_sto_loop (fun r e => k r 0 ?_) 10 0 _ rfl rfl
                                   unfold gSays
                                   rw [if_neg (by omega), Int.toNat_natCast, if_neg (by omega), if_neg (by omega), hs0, Int.toNat_natCast, if_neg (fun q => q (by omega))]
                                   unfold fWord
                                   rw [if_neg (by omega), if_neg (by omega), if_neg (by omega), if_pos (by omega), e]
                                   rfl)
                            · refine r_aloadN 159 dX11_says_158 rfl rfl ?_
                              refine r_getq 162 dX11_says_159 rfl fX11_47 (by decide) (sh_50 z _) rfl ?_
                              refine r_iloadN 163 dX11_says_162 rfl rfl ?_
                              refine r_iald (n := 14) 164 dX11_says_163 (s0) rfl rfl (by decide) (sh_51 z _) (by decide) (by omega) (by omega) ?_
                              refine r_ret dX11_says_164 rfl (k _ 0 ?_)
                              unfold gSays
                              first
                                | (exfalso; omega)
                                | (rw [if_neg (by omega), Int.toNat_natCast, if_neg (by omega), if_neg (by omega), hs0, Int.toNat_natCast, if_neg (fun q => q (by omega))]
                                   unfold fWord
                                   rw [if_neg (by omega), if_neg (by omega), if_neg (by omega), if_neg (by omega)])
                          · refine r_aloadN 146 dX11_says_145 rfl rfl ?_
                            refine r_getq 149 dX11_says_146 rfl fX11_20 (by decide) (sh_50 z _) rfl ?_
                            refine r_iconst 150 dX11_says_149 rfl ?_
                            refine r_iald (n := 6) 151 dX11_says_150 (5) rfl rfl (by decide) (sh_51 z _) (by decide) (by omega) (by omega) ?_
                            refine r_ret dX11_says_151 rfl (k _ 0 ?_)
                            unfold gSays
                            first
                              | (exfalso; omega)
                              | (rw [if_neg (by omega), Int.toNat_natCast, if_neg (by omega), if_neg (by omega), hs0, Int.toNat_natCast, if_neg (fun q => q (by omega))]
                                 unfold fWord
                                 rw [if_neg (by omega), if_neg (by omega), if_pos (by omega)])
                        · refine r_bipush 125 dX11_says_123 rfl (by decide) ?_
                          refine r_aloadN 126 dX11_says_125 rfl rfl ?_
                          refine r_getq 129 dX11_says_126 rfl fX11_56 (by decide) (sh_50 z _) rfl ?_
                          refine r_iloadN 130 dX11_says_129 rfl rfl ?_
                          refine r_iald (n := 14) 131 dX11_says_130 (s0) rfl rfl (by decide) (sh_51 z _) (by decide) (by omega) (by omega) ?_
                          refine r_imul 132 dX11_says_131 rfl ?_
                          refine r_aloadN 133 dX11_says_132 rfl rfl ?_
                          refine r_getq 136 dX11_says_133 rfl fX11_59 (by decide) (sh_50 z _) rfl ?_
                          refine r_iloadN 137 dX11_says_136 rfl rfl ?_
                          refine r_iald (n := 14) 138 dX11_says_137 (s0) rfl rfl (by decide) (sh_51 z _) (by decide) (by omega) (by omega) ?_
                          refine r_iadd 139 dX11_says_138 rfl ?_
                          refine r_ret dX11_says_139 rfl (k _ 0 ?_)
                          unfold gSays
                          first
                            | (exfalso; omega)
                            | (rw [if_neg (by omega), Int.toNat_natCast, if_neg (by omega), if_neg (by omega), hs0, Int.toNat_natCast, if_neg (fun q => q (by omega))]
                               unfold fWord
                               rw [if_neg (by omega), if_pos (by omega)])
                    · refine r_aloadN 106 dX11_says_105 rfl rfl ?_
                      refine r_getq 109 dX11_says_106 rfl fX11_50 (by decide) (sh_50 z _) rfl ?_
                      refine r_iloadN 110 dX11_says_109 rfl rfl ?_
                      refine r_iald (n := 14) 111 dX11_says_110 (s0) rfl rfl (by decide) (sh_51 z _) (by decide) (by omega) (by omega) ?_
                      refine r_ret dX11_says_111 rfl (k _ 0 ?_)
                      unfold gSays
                      first
                        | (exfalso; omega)
                        | (rw [if_neg (by omega), Int.toNat_natCast, if_neg (by omega), if_neg (by omega), hs0, Int.toNat_natCast, if_neg (fun q => q (by omega))]
                           unfold fWord
                           rw [if_pos (by omega)])
                  · refine r_aloadN 95 dX11_says_94 rfl rfl ?_
                    refine r_bipush 97 dX11_says_95 rfl (by decide) ?_
                    refine r_cv1 100 dX11_says_97 rfl gX11_184 rfl (by decide) (sh_50 z _) rfl rfl (Nat.le_of_ble_eq_true rfl) (Nat.le_of_ble_eq_true rfl) rfl ?_
                    refine m_no (k0 := 2) (by decide) (by decide) ?_
                    refine r_ret dX11_says_100 rfl (k _ 2 ?_)
                    unfold gSays
                    rw [if_neg (by omega), Int.toNat_natCast, if_neg (by omega), if_neg (by omega), hs0, Int.toNat_natCast, if_pos (by omega)]
          · refine r_aloadN 51 dX11_says_50 rfl rfl ?_
            refine r_bipush 53 dX11_says_51 rfl (by decide) ?_
            refine r_cv1 56 dX11_says_53 rfl gX11_184 rfl (by decide) (sh_50 z _) rfl rfl (Nat.le_of_ble_eq_true rfl) (Nat.le_of_ble_eq_true rfl) rfl ?_
            refine m_no (k0 := 3) (by decide) (by decide) ?_
            refine r_ret dX11_says_56 rfl (k _ 3 ?_)
            unfold gSays
            rw [if_neg (by omega), Int.toNat_natCast, if_neg (by omega), if_pos (by omega)]
        · refine r_aloadN 35 dX11_says_34 rfl rfl ?_
          refine r_bipush 37 dX11_says_35 rfl (by decide) ?_
          refine r_cv1 40 dX11_says_37 rfl gX11_184 rfl (by decide) (sh_50 z _) rfl rfl (Nat.le_of_ble_eq_true rfl) (Nat.le_of_ble_eq_true rfl) rfl ?_
          refine m_no (k0 := 2) (by decide) (by decide) ?_
          refine r_ret dX11_says_40 rfl (k _ 2 ?_)
          unfold gSays
          rw [if_neg (by omega), Int.toNat_natCast, if_pos (by omega)]
      · refine r_aloadN 19 dX11_says_18 rfl rfl ?_
        refine r_iconst 20 dX11_says_19 rfl ?_
        refine r_cv1 23 dX11_says_20 rfl gX11_184 rfl (by decide) (sh_50 z _) rfl rfl (Nat.le_of_ble_eq_true rfl) (Nat.le_of_ble_eq_true rfl) rfl ?_
        refine m_no (k0 := 1) (by decide) (by decide) ?_
        refine r_ret dX11_says_23 rfl (k _ 1 ?_)
        unfold gSays
        rw [if_pos (by omega)]
  · refine r_ifeqT 18 0 dX11_says_5 (by decide) (by decide) (by decide) ?_
    refine r_aloadN 19 dX11_says_18 rfl rfl ?_
    refine r_iconst 20 dX11_says_19 rfl ?_
    refine r_cv1 23 dX11_says_20 rfl gX11_184 rfl (by decide) (sh_50 z _) rfl rfl (Nat.le_of_ble_eq_true rfl) (Nat.le_of_ble_eq_true rfl) rfl ?_
    refine m_no (k0 := 1) (by decide) (by decide) ?_
    refine r_ret dX11_says_23 rfl (k _ 1 ?_)
    unfold gSays
    rw [if_pos (by omega)]
