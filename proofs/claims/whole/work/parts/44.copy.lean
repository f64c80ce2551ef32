def gCopy (A : sA) (p q i j n : Int) : gA := if ¬ ((0 ≤ p ∧ p ≤ 7) ∧ 0 ≤ q ∧ q ≤ 7) then (-1, 1) else if A 44 p.toNat = 2 ∨ A 44 q.toNat = 2 ∨ (A 44 p.toNat = 1 ∧ A 44 q.toNat = 1 ∧ A 45 p.toNat ≠ A 45 q.toNat) then (-2, 2) else if A 44 p.toNat = 0 ∨ A 44 q.toNat = 0 then (-3, 3) else if n < 0 then (-4, 4) else if ¬ (0 ≤ i ∧ 0 ≤ j ∧ i + n ≤ A 46 p.toNat ∧ j + n ≤ A 46 q.toNat) then (-5, 5) else (1, 0)
theorem x_hasElements {z : xZ} {d : Nat} {Q : tQ} {c : tC} {L : tL} {s : Nat} {v n : Int} (hs : s < 8) (hi : SI c s) (hv : inR v) (hn : inR n) (k1 : (0 ≤ v ∧ 0 ≤ n ∧ v + n ≤ c 2 s 1) → Q (some (.int (iI 1))) c L) (k0 : ¬ (0 ≤ v ∧ 0 ≤ n ∧ v + n ≤ c 2 s 1) → Q (some (.int (iI 0))) c L) : En z (d + 1) MX7_hasElements Q 0 [some (.ref (xad z 2 s)), some (.int (iI v)), some (.int (iI n))] [] c L := by
  unfold SI at hi
  have hv1 := hv.1
  have hv2 := hv.2
  have hn1 := hn.1
  have hn2 := hn.2
  refine r_iloadN 1 dX7_hasElements_0 rfl rfl ?_
  refine r_iflt 30 4 dX7_hasElements_1 rfl (by decide) (by omega) (fun h1 => ?_) (fun h1 => ?_)
  · refine r_iconst 31 dX7_hasElements_30 rfl ?_
    exact r_zret dX7_hasElements_31 rfl (by decide) (k0 (by omega))
  · refine r_iloadN 5 dX7_hasElements_4 rfl rfl ?_
    refine r_aloadN 6 dX7_hasElements_5 rfl rfl ?_
    refine r_geti 9 dX7_hasElements_6 rfl fX7_15 (ct_2 (by omega)) (sh_2 z _) rfl ?_
    refine r_icgt 30 12 dX7_hasElements_9 rfl (by decide) (by omega) (by omega) (fun h9 => ?_) (fun h9 => ?_)
    · refine r_iconst 31 dX7_hasElements_30 rfl ?_
      exact r_zret dX7_hasElements_31 rfl (by decide) (k0 (by omega))
    · refine r_iloadN 13 dX7_hasElements_12 rfl rfl ?_
      refine r_iflt 30 16 dX7_hasElements_13 rfl (by decide) (by omega) (fun h13 => ?_) (fun h13 => ?_)
      · refine r_iconst 31 dX7_hasElements_30 rfl ?_
        exact r_zret dX7_hasElements_31 rfl (by decide) (k0 (by omega))
      · refine r_iloadN 17 dX7_hasElements_16 rfl rfl ?_
        refine r_aloadN 18 dX7_hasElements_17 rfl rfl ?_
        refine r_geti 21 dX7_hasElements_18 rfl fX7_15 (ct_2 (by omega)) (sh_2 z _) rfl ?_
        refine r_iloadN 22 dX7_hasElements_21 rfl rfl ?_
        refine r_isub 23 dX7_hasElements_22 rfl ?_
        refine r_icgt 30 26 dX7_hasElements_23 rfl (by decide) (by omega) (by omega) (fun h23 => ?_) (fun h23 => ?_)
        · refine r_iconst 31 dX7_hasElements_30 rfl ?_
          exact r_zret dX7_hasElements_31 rfl (by decide) (k0 (by omega))
        · refine r_iconst 27 dX7_hasElements_26 rfl ?_
          refine r_goto 31 dX7_hasElements_27 (by decide) ?_
          exact r_zret dX7_hasElements_31 rfl (by decide) (k1 (by omega))
theorem x_isOtherSort {z : xZ} {d : Nat} {Q : tQ} {c : tC} {L : tL} {s t : Nat} (hg : MG c) (hs : s < 8) (hi : SI c s) (ht : t < 8) (hj : SI c t) (k1 : (c 51 44 s = 1 ∧ c 51 44 t = 1 ∧ c 51 45 s ≠ c 51 45 t) → Q (some (.int (iI 1))) c L) (k0 : ¬ (c 51 44 s = 1 ∧ c 51 44 t = 1 ∧ c 51 45 s ≠ c 51 45 t) → Q (some (.int (iI 0))) c L) : En z (d + 2) MX7_isOfOtherSort Q 0 [some (.ref (xad z 2 s)), some (.ref (xad z 2 t))] [] c L := by
  have hi2 := hi
  have hj2 := hj
  unfold SI at hi2 hj2
  refine r_aloadN 1 dX7_isOfOtherSort_0 rfl rfl ?_
  refine r_cv0 4 dX7_isOfOtherSort_1 rfl gX7_26 rfl (ct_2 (by omega)) (sh_2 z _) rfl rfl (Nat.le_of_ble_eq_true rfl) (Nat.le_of_ble_eq_true rfl) rfl ?_
  refine x_holdsRow hg hs hi (fun y1 => ?_) (fun y1 => ?_)
  · refine r_ifeqF 7 dX7_isOfOtherSort_4 rfl 29 (by decide) (by decide) (by decide) ?_
    refine r_aloadN 8 dX7_isOfOtherSort_7 rfl rfl ?_
    refine r_cv0 11 dX7_isOfOtherSort_8 rfl gX7_26 rfl (ct_2 (by omega)) (sh_2 z _) rfl rfl (Nat.le_of_ble_eq_true rfl) (Nat.le_of_ble_eq_true rfl) rfl ?_
    refine x_holdsRow hg ht hj (fun y8 => ?_) (fun y8 => ?_)
    · refine r_ifeqF 14 dX7_isOfOtherSort_11 rfl 29 (by decide) (by decide) (by decide) ?_
      refine r_aloadN 15 dX7_isOfOtherSort_14 rfl rfl ?_
      refine r_geti 18 dX7_isOfOtherSort_15 rfl fX7_9 (ct_2 (by omega)) (sh_2 z _) rfl ?_
      refine r_aloadN 19 dX7_isOfOtherSort_18 rfl rfl ?_
      refine r_geti 22 dX7_isOfOtherSort_19 rfl fX7_9 (ct_2 (by omega)) (sh_2 z _) rfl ?_
      refine r_iceq 29 25 dX7_isOfOtherSort_22 rfl (by decide) (by omega) (by omega) (fun h22 => ?_) (fun h22 => ?_)
      · refine r_iconst 30 dX7_isOfOtherSort_29 rfl ?_
        exact r_zret dX7_isOfOtherSort_30 rfl (by decide) (k0 (by omega))
      · refine r_iconst 26 dX7_isOfOtherSort_25 rfl ?_
        refine r_goto 30 dX7_isOfOtherSort_26 (by decide) ?_
        exact r_zret dX7_isOfOtherSort_30 rfl (by decide) (k1 (by omega))
    · refine r_ifeqT 29 0 dX7_isOfOtherSort_11 (by decide) (by decide) (by decide) ?_
      refine r_iconst 30 dX7_isOfOtherSort_29 rfl ?_
      exact r_zret dX7_isOfOtherSort_30 rfl (by decide) (k0 (by omega))
  · refine r_ifeqT 29 0 dX7_isOfOtherSort_4 (by decide) (by decide) (by decide) ?_
    refine r_iconst 30 dX7_isOfOtherSort_29 rfl ?_
    exact r_zret dX7_isOfOtherSort_30 rfl (by decide) (k0 (by omega))
theorem x_copyElements {z : xZ} {d : Nat} {Q : tQ} {c : tC} {L : tL} {s t v j n : Nat} (hs : s < 8) (hi : SI c s) (ht : t < 8) (hj : SI c t) (h1 : (v : Int) + n ≤ c 2 s 1) (h2 : (j : Int) + n ≤ c 2 t 1) (k : Q none c (Lset L 3 t (va_cpy (L 3 s) (L 3 t) v j n))) : En z (d + 2) MX7_copyElements Q 0 [some (.ref (xad z 2 s)), some (.int (iI (v : Int))), some (.ref (xad z 2 t)), some (.int (iI (j : Int))), some (.int (iI (n : Int)))] [] c L := by
  have hi2 := hi
  have hj2 := hj
  unfold SI at hi2 hj2
  refine r_aloadN 1 dX7_copyElements_0 rfl rfl ?_
  refine r_iloadN 2 dX7_copyElements_1 rfl rfl ?_
  refine r_iload 4 dX7_copyElements_2 rfl rfl ?_
  refine r_cv2 7 dX7_copyElements_4 rfl gX7_41 rfl (ct_2 (by omega)) (sh_2 z _) rfl rfl (Nat.le_of_ble_eq_true rfl) (Nat.le_of_ble_eq_true rfl) rfl ?_
  refine x_hasElements hs hi (by constructor <;> omega) (by constructor <;> omega) (fun y4 => ?_) (fun y4 => ?_)
  · refine r_ifeqF 10 dX7_copyElements_7 rfl 35 (by decide) (by decide) (by decide) ?_
    refine r_aloadN 11 dX7_copyElements_10 rfl rfl ?_
    refine r_iloadN 12 dX7_copyElements_11 rfl rfl ?_
    refine r_iload 14 dX7_copyElements_12 rfl rfl ?_
    refine r_cv2 17 dX7_copyElements_14 rfl gX7_41 rfl (ct_2 (by omega)) (sh_2 z _) rfl rfl (Nat.le_of_ble_eq_true rfl) (Nat.le_of_ble_eq_true rfl) rfl ?_
    refine x_hasElements ht hj (by constructor <;> omega) (by constructor <;> omega) (fun y14 => ?_) (fun y14 => ?_)
    · refine r_ifeqF 20 dX7_copyElements_17 rfl 35 (by decide) (by decide) (by decide) ?_
      refine r_aloadN 21 dX7_copyElements_20 rfl rfl ?_
      refine r_getq 24 dX7_copyElements_21 rfl fX7_18 (ct_2 (by omega)) (sh_2 z _) rfl ?_
      refine r_iloadN 25 dX7_copyElements_24 rfl rfl ?_
      refine r_aloadN 26 dX7_copyElements_25 rfl rfl ?_
      refine r_getq 29 dX7_copyElements_26 rfl fX7_18 (ct_2 (by omega)) (sh_2 z _) rfl ?_
      refine r_iloadN 30 dX7_copyElements_29 rfl rfl ?_
      refine r_iload 32 dX7_copyElements_30 rfl rfl ?_
      refine r_cpyl 35 dX7_copyElements_32 rfl gX7_45 (ct_3 (by omega)) (sh_3 z _) (ct_3 (by omega)) (sh_3 z _) (by decide) (by omega) (by omega) (by omega) (by omega) (by omega) ?_
      first
        | (exfalso; omega)
        | (simp only [Int.toNat_natCast]; exact r_vret dX7_copyElements_35 rfl k)
    · refine r_ifeqT 35 0 dX7_copyElements_17 (by decide) (by decide) (by decide) ?_
      first
        | (exfalso; omega)
        | (simp only [Int.toNat_natCast]; exact r_vret dX7_copyElements_35 rfl k)
  · refine r_ifeqT 35 0 dX7_copyElements_7 (by decide) (by decide) (by decide) ?_
    first
      | (exfalso; omega)
      | (simp only [Int.toNat_natCast]; exact r_vret dX7_copyElements_35 rfl k)
theorem x_copy {z : xZ} {d : Nat} {Q : tQ} {c : tC} {L : tL} {p q i j n : Int} (hg : MG c) (hS : SH c L) (hp : inR p) (hq : inR q) (hi : inR i) (hj : inR j) (hn : inR n) (kb : ∀ r w, w ≠ 0 → (r, w) = gCopy (c 51) p q i j n → Q (some (.int (iI r))) (xRe c w) L) (k : ∀ r, (r, 0) = gCopy (c 51) p q i j n → Q (some (.int (iI r))) (c) (Lset L 3 q.toNat (va_cpy (L 3 p.toNat) (L 3 q.toNat) i.toNat j.toNat n.toNat))) : En z (d + 20) MX10_copy Q 0 [some (.ref (xad z 0 0)), some (.int (iI p)), some (.int (iI q)), some (.int (iI i)), some (.int (iI j)), some (.int (iI n)), none, none] [] c L := by
  have p1 := hp.1
  have p2 := hp.2
  have q1 := hq.1
  have q2 := hq.2
  have i1 := hi.1
  have i2 := hi.2
  have j1 := hj.1
  have j2 := hj.2
  have n1 := hn.1
  have n2 := hn.2
  refine r_iloadN 1 dX10_copy_0 rfl rfl ?_
  refine r_cs1 4 dX10_copy_1 rfl gX10_56 (Nat.le_of_ble_eq_true rfl) (Nat.le_of_ble_eq_true rfl) rfl ?_
  refine x_isShelf (by assumption) (fun y1 => ?_) (fun y1 => ?_)
  · refine r_ifeqF 7 dX10_copy_4 rfl 14 (by decide) (by decide) (by decide) ?_
    refine r_iloadN 8 dX10_copy_7 rfl rfl ?_
    refine r_cs1 11 dX10_copy_8 rfl gX10_56 (Nat.le_of_ble_eq_true rfl) (Nat.le_of_ble_eq_true rfl) rfl ?_
    refine x_isShelf (by assumption) (fun y8 => ?_) (fun y8 => ?_)
    · refine r_ifneT 20 0 dX10_copy_11 (by decide) (by decide) (by decide) ?_
      obtain ⟨sp, hsp0⟩ := Int.eq_ofNat_of_zero_le (show 0 ≤ p by omega)
      subst hsp0
      obtain ⟨sq, hsq0⟩ := Int.eq_ofNat_of_zero_le (show 0 ≤ q by omega)
      subst hsq0
      have hi8 := SH_i hS sp (by omega)
      have hj9 := SH_i hS sq (by omega)
      have hi2 := hi8
      have hj2 := hj9
      unfold SI at hi2 hj2
      refine r_aloadN 21 dX10_copy_20 rfl rfl ?_
      refine r_getq 24 dX10_copy_21 rfl fX10_11 (by decide) (sh_0 z _) rfl ?_
      refine r_iloadN 25 dX10_copy_24 rfl rfl ?_
      refine r_aald 26 dX10_copy_25 (sp) rfl rfl (by decide) (sh_1 z _) rfl (by decide) (by omega) (by omega) ?_
      refine r_astore6 28 dX10_copy_26 rfl rfl (by decide) ?_
      refine r_aloadN 29 dX10_copy_28 rfl rfl ?_
      refine r_getq 32 dX10_copy_29 rfl fX10_11 (by decide) (sh_0 z _) rfl ?_
      refine r_iloadN 33 dX10_copy_32 rfl rfl ?_
      refine r_aald 34 dX10_copy_33 (sq) rfl rfl (by decide) (sh_1 z _) rfl (by decide) (by omega) (by omega) ?_
      refine r_astore7 36 dX10_copy_34 rfl rfl (by decide) ?_
      refine r_aload 38 dX10_copy_36 rfl rfl ?_
      refine r_cv0 41 dX10_copy_38 rfl gX10_78 rfl (ct_2 (by omega)) (sh_2 z _) rfl rfl (Nat.le_of_ble_eq_true rfl) (Nat.le_of_ble_eq_true rfl) rfl ?_
      refine x_holdsSource hg (s := sp) (by omega) hi8 (fun y38 => ?_) (fun y38 => ?_)
      · refine r_ifneT 62 0 dX10_copy_41 (by decide) (by decide) (by decide) ?_
        refine r_aloadN 63 dX10_copy_62 rfl rfl ?_
        refine r_bipush 65 dX10_copy_63 rfl (by decide) ?_
        refine r_cv1 68 dX10_copy_65 rfl gX10_60 rfl (by decide) (sh_0 z _) rfl rfl (Nat.le_of_ble_eq_true rfl) (Nat.le_of_ble_eq_true rfl) rfl ?_
        refine x_refuse (k0 := 2) (by decide) (by decide) ?_
        refine r_ret dX10_copy_68 rfl (kb _ 2 (by decide) ?_)
        unfold gCopy
        simp only [Int.toNat_natCast]
        rw [if_neg (by omega), if_pos (by omega)]
      · refine r_ifneF 44 dX10_copy_41 rfl 62 (by decide) (by decide) (by decide) ?_
        refine r_aload 46 dX10_copy_44 rfl rfl ?_
        refine r_cv0 49 dX10_copy_46 rfl gX10_78 rfl (ct_2 (by omega)) (sh_2 z _) rfl rfl (Nat.le_of_ble_eq_true rfl) (Nat.le_of_ble_eq_true rfl) rfl ?_
        refine x_holdsSource hg (s := sq) (by omega) hj9 (fun y46 => ?_) (fun y46 => ?_)
        · refine r_ifneT 62 0 dX10_copy_49 (by decide) (by decide) (by decide) ?_
          refine r_aloadN 63 dX10_copy_62 rfl rfl ?_
          refine r_bipush 65 dX10_copy_63 rfl (by decide) ?_
          refine r_cv1 68 dX10_copy_65 rfl gX10_60 rfl (by decide) (sh_0 z _) rfl rfl (Nat.le_of_ble_eq_true rfl) (Nat.le_of_ble_eq_true rfl) rfl ?_
          refine x_refuse (k0 := 2) (by decide) (by decide) ?_
          refine r_ret dX10_copy_68 rfl (kb _ 2 (by decide) ?_)
          unfold gCopy
          simp only [Int.toNat_natCast]
          rw [if_neg (by omega), if_pos (by omega)]
        · refine r_ifneF 52 dX10_copy_49 rfl 62 (by decide) (by decide) (by decide) ?_
          refine r_aload 54 dX10_copy_52 rfl rfl ?_
          refine r_aload 56 dX10_copy_54 rfl rfl ?_
          refine r_cv1 59 dX10_copy_56 rfl gX10_82 rfl (ct_2 (by omega)) (sh_2 z _) rfl rfl (Nat.le_of_ble_eq_true rfl) (Nat.le_of_ble_eq_true rfl) rfl ?_
          refine x_isOtherSort hg (s := sp) (t := sq) (by omega) hi8 (by omega) hj9 (fun y56 => ?_) (fun y56 => ?_)
          · refine r_ifeqF 62 dX10_copy_59 rfl 69 (by decide) (by decide) (by decide) ?_
            refine r_aloadN 63 dX10_copy_62 rfl rfl ?_
            refine r_bipush 65 dX10_copy_63 rfl (by decide) ?_
            refine r_cv1 68 dX10_copy_65 rfl gX10_60 rfl (by decide) (sh_0 z _) rfl rfl (Nat.le_of_ble_eq_true rfl) (Nat.le_of_ble_eq_true rfl) rfl ?_
            refine x_refuse (k0 := 2) (by decide) (by decide) ?_
            refine r_ret dX10_copy_68 rfl (kb _ 2 (by decide) ?_)
            unfold gCopy
            simp only [Int.toNat_natCast]
            rw [if_neg (by omega), if_pos (by omega)]
          · refine r_ifeqT 69 0 dX10_copy_59 (by decide) (by decide) (by decide) ?_
            refine r_aload 71 dX10_copy_69 rfl rfl ?_
            refine r_cv0 74 dX10_copy_71 rfl gX10_86 rfl (ct_2 (by omega)) (sh_2 z _) rfl rfl (Nat.le_of_ble_eq_true rfl) (Nat.le_of_ble_eq_true rfl) rfl ?_
            refine x_holdsNothing hg (s := sp) (by omega) hi8 (fun y71 => ?_) (fun y71 => ?_)
            · refine r_ifneT 85 0 dX10_copy_74 (by decide) (by decide) (by decide) ?_
              refine r_aloadN 86 dX10_copy_85 rfl rfl ?_
              refine r_bipush 88 dX10_copy_86 rfl (by decide) ?_
              refine r_cv1 91 dX10_copy_88 rfl gX10_60 rfl (by decide) (sh_0 z _) rfl rfl (Nat.le_of_ble_eq_true rfl) (Nat.le_of_ble_eq_true rfl) rfl ?_
              refine x_refuse (k0 := 3) (by decide) (by decide) ?_
              refine r_ret dX10_copy_91 rfl (kb _ 3 (by decide) ?_)
              unfold gCopy
              simp only [Int.toNat_natCast]
              rw [if_neg (by omega), if_neg (by omega), if_pos (by omega)]
            · refine r_ifneF 77 dX10_copy_74 rfl 85 (by decide) (by decide) (by decide) ?_
              refine r_aload 79 dX10_copy_77 rfl rfl ?_
              refine r_cv0 82 dX10_copy_79 rfl gX10_86 rfl (ct_2 (by omega)) (sh_2 z _) rfl rfl (Nat.le_of_ble_eq_true rfl) (Nat.le_of_ble_eq_true rfl) rfl ?_
              refine x_holdsNothing hg (s := sq) (by omega) hj9 (fun y79 => ?_) (fun y79 => ?_)
              · refine r_ifeqF 85 dX10_copy_82 rfl 92 (by decide) (by decide) (by decide) ?_
                refine r_aloadN 86 dX10_copy_85 rfl rfl ?_
                refine r_bipush 88 dX10_copy_86 rfl (by decide) ?_
                refine r_cv1 91 dX10_copy_88 rfl gX10_60 rfl (by decide) (sh_0 z _) rfl rfl (Nat.le_of_ble_eq_true rfl) (Nat.le_of_ble_eq_true rfl) rfl ?_
                refine x_refuse (k0 := 3) (by decide) (by decide) ?_
                refine r_ret dX10_copy_91 rfl (kb _ 3 (by decide) ?_)
                unfold gCopy
                simp only [Int.toNat_natCast]
                rw [if_neg (by omega), if_neg (by omega), if_pos (by omega)]
              · refine r_ifeqT 92 0 dX10_copy_82 (by decide) (by decide) (by decide) ?_
                refine r_iload 94 dX10_copy_92 rfl rfl ?_
                refine r_ifge 104 97 dX10_copy_94 rfl (by decide) (by omega) (fun h94 => ?_) (fun h94 => ?_)
                · refine r_aload 106 dX10_copy_104 rfl rfl ?_
                  refine r_iloadN 107 dX10_copy_106 rfl rfl ?_
                  refine r_iload 109 dX10_copy_107 rfl rfl ?_
                  refine r_cv2 112 dX10_copy_109 rfl gX10_89 rfl (ct_2 (by omega)) (sh_2 z _) rfl rfl (Nat.le_of_ble_eq_true rfl) (Nat.le_of_ble_eq_true rfl) rfl ?_
                  refine x_hasElements (s := sp) (by omega) hi8 (by assumption) (by assumption) (fun y109 => ?_) (fun y109 => ?_)
                  · refine r_ifeqF 115 dX10_copy_112 rfl 127 (by decide) (by decide) (by decide) ?_
                    refine r_aload 117 dX10_copy_115 rfl rfl ?_
                    refine r_iload 119 dX10_copy_117 rfl rfl ?_
                    refine r_iload 121 dX10_copy_119 rfl rfl ?_
                    refine r_cv2 124 dX10_copy_121 rfl gX10_89 rfl (ct_2 (by omega)) (sh_2 z _) rfl rfl (Nat.le_of_ble_eq_true rfl) (Nat.le_of_ble_eq_true rfl) rfl ?_
                    refine x_hasElements (s := sq) (by omega) hj9 (by assumption) (by assumption) (fun y121 => ?_) (fun y121 => ?_)
                    · refine r_ifneT 134 0 dX10_copy_124 (by decide) (by decide) (by decide) ?_
                      obtain ⟨i0, hi00⟩ := Int.eq_ofNat_of_zero_le (show 0 ≤ i by omega)
                      subst hi00
                      obtain ⟨j0, hj00⟩ := Int.eq_ofNat_of_zero_le (show 0 ≤ j by omega)
                      subst hj00
                      obtain ⟨n0, hn00⟩ := Int.eq_ofNat_of_zero_le (show 0 ≤ n by omega)
                      subst hn00
                      simp only [Int.toNat_natCast] at k
                      refine r_aload 136 dX10_copy_134 rfl rfl ?_
                      refine r_iloadN 137 dX10_copy_136 rfl rfl ?_
                      refine r_aload 139 dX10_copy_137 rfl rfl ?_
                      refine r_iload 141 dX10_copy_139 rfl rfl ?_
                      refine r_iload 143 dX10_copy_141 rfl rfl ?_
                      refine r_cv4 146 dX10_copy_143 rfl gX10_93 rfl (ct_2 (by omega)) (sh_2 z _) rfl rfl (Nat.le_of_ble_eq_true rfl) (Nat.le_of_ble_eq_true rfl) rfl ?_
                      refine x_copyElements (s := sp) (t := sq) (v := i0) (j := j0) (n := n0) (by omega) hi8 (by omega) hj9 (by omega) (by omega) ?_
                      refine r_iconst 147 dX10_copy_146 rfl ?_
                      refine r_ret dX10_copy_147 rfl (k _ ?_)
                      unfold gCopy
                      simp only [Int.toNat_natCast]
                      rw [if_neg (by omega), if_neg (by omega), if_neg (by omega), if_neg (by omega), if_neg (by omega)]
                    · refine r_ifneF 127 dX10_copy_124 rfl 134 (by decide) (by decide) (by decide) ?_
                      refine r_aloadN 128 dX10_copy_127 rfl rfl ?_
                      refine r_bipush 130 dX10_copy_128 rfl (by decide) ?_
                      refine r_cv1 133 dX10_copy_130 rfl gX10_60 rfl (by decide) (sh_0 z _) rfl rfl (Nat.le_of_ble_eq_true rfl) (Nat.le_of_ble_eq_true rfl) rfl ?_
                      refine x_refuse (k0 := 5) (by decide) (by decide) ?_
                      refine r_ret dX10_copy_133 rfl (kb _ 5 (by decide) ?_)
                      unfold gCopy
                      simp only [Int.toNat_natCast]
                      rw [if_neg (by omega), if_neg (by omega), if_neg (by omega), if_neg (by omega), if_pos (by omega)]
                  · refine r_ifeqT 127 0 dX10_copy_112 (by decide) (by decide) (by decide) ?_
                    refine r_aloadN 128 dX10_copy_127 rfl rfl ?_
                    refine r_bipush 130 dX10_copy_128 rfl (by decide) ?_
                    refine r_cv1 133 dX10_copy_130 rfl gX10_60 rfl (by decide) (sh_0 z _) rfl rfl (Nat.le_of_ble_eq_true rfl) (Nat.le_of_ble_eq_true rfl) rfl ?_
                    refine x_refuse (k0 := 5) (by decide) (by decide) ?_
                    refine r_ret dX10_copy_133 rfl (kb _ 5 (by decide) ?_)
                    unfold gCopy
                    simp only [Int.toNat_natCast]
                    rw [if_neg (by omega), if_neg (by omega), if_neg (by omega), if_neg (by omega), if_pos (by omega)]
                · refine r_aloadN 98 dX10_copy_97 rfl rfl ?_
                  refine r_bipush 100 dX10_copy_98 rfl (by decide) ?_
                  refine r_cv1 103 dX10_copy_100 rfl gX10_60 rfl (by decide) (sh_0 z _) rfl rfl (Nat.le_of_ble_eq_true rfl) (Nat.le_of_ble_eq_true rfl) rfl ?_
                  refine x_refuse (k0 := 4) (by decide) (by decide) ?_
                  refine r_ret dX10_copy_103 rfl (kb _ 4 (by decide) ?_)
                  unfold gCopy
                  simp only [Int.toNat_natCast]
                  rw [if_neg (by omega), if_neg (by omega), if_neg (by omega), if_pos (by omega)]
    · refine r_ifneF 14 dX10_copy_11 rfl 20 (by decide) (by decide) (by decide) ?_
      refine r_aloadN 15 dX10_copy_14 rfl rfl ?_
      refine r_iconst 16 dX10_copy_15 rfl ?_
      refine r_cv1 19 dX10_copy_16 rfl gX10_60 rfl (by decide) (sh_0 z _) rfl rfl (Nat.le_of_ble_eq_true rfl) (Nat.le_of_ble_eq_true rfl) rfl ?_
      refine x_refuse (k0 := 1) (by decide) (by decide) ?_
      refine r_ret dX10_copy_19 rfl (kb _ 1 (by decide) ?_)
      unfold gCopy
      rw [if_pos (by omega)]
  · refine r_ifeqT 14 0 dX10_copy_4 (by decide) (by decide) (by decide) ?_
    refine r_aloadN 15 dX10_copy_14 rfl rfl ?_
    refine r_iconst 16 dX10_copy_15 rfl ?_
    refine r_cv1 19 dX10_copy_16 rfl gX10_60 rfl (by decide) (sh_0 z _) rfl rfl (Nat.le_of_ble_eq_true rfl) (Nat.le_of_ble_eq_true rfl) rfl ?_
    refine x_refuse (k0 := 1) (by decide) (by decide) ?_
    refine r_ret dX10_copy_19 rfl (kb _ 1 (by decide) ?_)
    unfold gCopy
    rw [if_pos (by omega)]
theorem m_copy_loop2 {z : xZ} {d : Nat} {Q : tQ} {c : tC} {p q i0 j n : Nat} {L0 : tL} (hq : q < 8) (hj : j + n ≤ 60) (kk : ∀ L2 : tL, (∀ b : Nat, b < n → L2 52 48 (60 * q + j + b) = L0 52 49 b) → (∀ g a b, ¬ (g = 52 ∧ a = 48 ∧ 60 * q + j ≤ b ∧ b < 60 * q + j + n) → L2 g a b = L0 g a b) → Q (some (.int (iI 1))) c L2) : ∀ (k i : Nat) (L : tL), i + k = n → (∀ b : Nat, b < i → L 52 48 (60 * q + j + b) = L0 52 49 b) → (∀ g a b, ¬ (g = 52 ∧ a = 48 ∧ 60 * q + j ≤ b ∧ b < 60 * q + j + n) → L g a b = L0 g a b) → En z (d + 1) MX11_copy Q 204 [some (.ref (xad z 50 0)), some (.int (iI (p : Int))), some (.int (iI (q : Int))), some (.int (iI (i0 : Int))), some (.int (iI (j : Int))), some (.int (iI (n : Int))), some (.int (iI (i : Int)))] [] c L := by
  intro k
  induction k with
  | zero =>
    intro i L hi hL hF
    refine r_iload 206 dX11_copy_204 rfl rfl ?_
    refine r_iload 208 dX11_copy_206 rfl rfl ?_
    refine r_icge 239 211 dX11_copy_208 rfl (by decide) (by omega) (by omega) (fun h208 => ?_) (fun h208 => ?_)
    · refine r_iconst 240 dX11_copy_239 rfl ?_
      exact r_ret dX11_copy_240 rfl (kk _ (fun b hb => hL b (by omega)) hF)
    · exfalso; omega
  | succ k ih =>
    intro i L hi hL hF
    refine r_iload 206 dX11_copy_204 rfl rfl ?_
    refine r_iload 208 dX11_copy_206 rfl rfl ?_
    refine r_icge 239 211 dX11_copy_208 rfl (by decide) (by omega) (by omega) (fun h208 => ?_) (fun h208 => ?_)
    · exfalso; omega
    · refine r_aloadN 212 dX11_copy_211 rfl rfl ?_
      refine r_getq 215 dX11_copy_212 rfl fX11_131 (by decide) (sh_50 z _) rfl ?_
      refine r_bipush 217 dX11_copy_215 rfl (by decide) ?_
      refine r_iloadN 218 dX11_copy_217 rfl rfl ?_
      refine r_imul 219 dX11_copy_218 rfl ?_
      refine r_iload 221 dX11_copy_219 rfl rfl ?_
      refine r_iadd 222 dX11_copy_221 rfl ?_
      refine r_iload 224 dX11_copy_222 rfl rfl ?_
      refine r_iadd 225 dX11_copy_224 rfl ?_
      rw [show (60 * (q : Int) + (j : Int) + (i : Int)) = ((60 * q + j + i : Nat) : Int) by omega]
      refine r_aloadN 226 dX11_copy_225 rfl rfl ?_
      refine r_getq 229 dX11_copy_226 rfl fX11_135 (by decide) (sh_50 z _) rfl ?_
      refine r_iload 231 dX11_copy_229 rfl rfl ?_
      refine r_lald (n := 60) 232 dX11_copy_231 (i) rfl rfl (by decide) (sh_52 z _) (by decide) (by omega) (by omega) ?_
      refine r_last (n := 480) 233 dX11_copy_232 (60 * q + j + i) rfl rfl (by decide) (sh_52 z _) (by decide) (by omega) (by omega) ?_
      refine r_iinc6 236 dX11_copy_233 rfl rfl (by decide) ?_
      refine r_goto 204 dX11_copy_236 (by decide) ?_
      refine ih (i + 1) _ (by omega) ?_ ?_
      · intro b hb
        by_cases e : b = i
        · rw [Lu, if_pos ⟨rfl, rfl, by rw [e]⟩, hF 52 49 i (by omega), e]
        · rw [Lu, if_neg (fun q => e (by omega))]
          exact hL b (by omega)
      · intro g a b hg
        rw [Lu, if_neg (fun q => hg ⟨q.1, q.2.1, by omega, by omega⟩)]
        exact hF g a b hg
theorem m_copy_loop1 {z : xZ} {d : Nat} {Q : tQ} {c : tC} {p q i0 j n : Nat} {L0 : tL} (hp : p < 8) (hj : i0 + n ≤ 60) (kk : ∀ L2 : tL, (∀ b : Nat, b < n → L2 52 49 b = L0 52 48 (60 * p + i0 + b)) → (∀ g a b, ¬ (g = 52 ∧ a = 49) → L2 g a b = L0 g a b) → En z (d + 1) MX11_copy Q 201 [some (.ref (xad z 50 0)), some (.int (iI (p : Int))), some (.int (iI (q : Int))), some (.int (iI (i0 : Int))), some (.int (iI (j : Int))), some (.int (iI (n : Int))), some (.int (iI (n : Int)))] [] c L2) : ∀ (k i : Nat) (L : tL), i + k = n → (∀ b : Nat, b < i → L 52 49 b = L0 52 48 (60 * p + i0 + b)) → (∀ g a b, ¬ (g = 52 ∧ a = 49) → L g a b = L0 g a b) → En z (d + 1) MX11_copy Q 167 [some (.ref (xad z 50 0)), some (.int (iI (p : Int))), some (.int (iI (q : Int))), some (.int (iI (i0 : Int))), some (.int (iI (j : Int))), some (.int (iI (n : Int))), some (.int (iI (i : Int)))] [] c L := by
  intro k
  induction k with
  | zero =>
    intro i L hi hL hF
    refine r_iload 169 dX11_copy_167 rfl rfl ?_
    refine r_iload 171 dX11_copy_169 rfl rfl ?_
    refine r_icge 201 174 dX11_copy_171 rfl (by decide) (by omega) (by omega) (fun h171 => ?_) (fun h171 => ?_)
    · rw [show (i : Int) = (n : Int) by omega]
      exact kk _ (fun b hb => hL b (by omega)) hF
    · exfalso; omega
  | succ k ih =>
    intro i L hi hL hF
    refine r_iload 169 dX11_copy_167 rfl rfl ?_
    refine r_iload 171 dX11_copy_169 rfl rfl ?_
    refine r_icge 201 174 dX11_copy_171 rfl (by decide) (by omega) (by omega) (fun h171 => ?_) (fun h171 => ?_)
    · exfalso; omega
    · refine r_aloadN 175 dX11_copy_174 rfl rfl ?_
      refine r_getq 178 dX11_copy_175 rfl fX11_135 (by decide) (sh_50 z _) rfl ?_
      refine r_iload 180 dX11_copy_178 rfl rfl ?_
      refine r_aloadN 181 dX11_copy_180 rfl rfl ?_
      refine r_getq 184 dX11_copy_181 rfl fX11_131 (by decide) (sh_50 z _) rfl ?_
      refine r_bipush 186 dX11_copy_184 rfl (by decide) ?_
      refine r_iloadN 187 dX11_copy_186 rfl rfl ?_
      refine r_imul 188 dX11_copy_187 rfl ?_
      refine r_iloadN 189 dX11_copy_188 rfl rfl ?_
      refine r_iadd 190 dX11_copy_189 rfl ?_
      refine r_iload 192 dX11_copy_190 rfl rfl ?_
      refine r_iadd 193 dX11_copy_192 rfl ?_
      rw [show (60 * (p : Int) + (i0 : Int) + (i : Int)) = ((60 * p + i0 + i : Nat) : Int) by omega]
      refine r_lald (n := 480) 194 dX11_copy_193 (60 * p + i0 + i) rfl rfl (by decide) (sh_52 z _) (by decide) (by omega) (by omega) ?_
      refine r_last (n := 60) 195 dX11_copy_194 (i) rfl rfl (by decide) (sh_52 z _) (by decide) (by omega) (by omega) ?_
      refine r_iinc6 198 dX11_copy_195 rfl rfl (by decide) ?_
      refine r_goto 167 dX11_copy_198 (by decide) ?_
      refine ih (i + 1) _ (by omega) ?_ ?_
      · intro b hb
        by_cases e : b = i
        · rw [Lu, if_pos ⟨rfl, rfl, e⟩, hF 52 48 _ (by omega), e]
        · rw [Lu, if_neg (fun q => e q.2.2)]
          exact hL b (by omega)
      · intro g a b hg
        rw [Lu, if_neg (fun q => hg ⟨q.1, q.2.1⟩)]
        exact hF g a b hg
theorem m_copy {z : xZ} {d : Nat} {Q : tQ} {c : tC} {L : tL} {p q i j n : Int} (hg : MG c) (hS : ∀ s : Nat, s < 8 → SI c s) (hp : inR p) (hq : inR q) (hi : inR i) (hj : inR j) (hn : inR n) (kb : ∀ r w, w ≠ 0 → (r, w) = gCopy (c 51) p q i j n → Q (some (.int (iI r))) (mRe c w) L) (k : ∀ r (L2 : tL), (∀ b : Nat, (b : Int) < n → L2 52 48 (60 * q.toNat + j.toNat + b) = L 52 48 (60 * p.toNat + i.toNat + b)) → (∀ g a b, ¬ (g = 52 ∧ a = 49) → ¬ (g = 52 ∧ a = 48 ∧ 60 * q.toNat + j.toNat ≤ b ∧ (b : Int) < 60 * q.toNat + j.toNat + n) → L2 g a b = L g a b) → (r, 0) = gCopy (c 51) p q i j n → Q (some (.int (iI r))) c L2) : En z (d + 20) MX11_copy Q 0 [some (.ref (xad z 50 0)), some (.int (iI p)), some (.int (iI q)), some (.int (iI i)), some (.int (iI j)), some (.int (iI n)), none] [] c L := by
  have p1 := hp.1
  have p2 := hp.2
  have q1 := hq.1
  have q2 := hq.2
  have i1 := hi.1
  have i2 := hi.2
  have j1 := hj.1
  have j2 := hj.2
  have n1 := hn.1
  have n2 := hn.2
  refine r_aloadN 1 dX11_copy_0 rfl rfl ?_
  refine r_iloadN 2 dX11_copy_1 rfl rfl ?_
  refine r_cv1 5 dX11_copy_2 rfl gX11_181 rfl (by decide) (sh_50 z _) rfl rfl (Nat.le_of_ble_eq_true rfl) (Nat.le_of_ble_eq_true rfl) rfl ?_
  refine m_isShelf (by assumption) (fun y2 => ?_) (fun y2 => ?_)
  · refine r_ifeqF 8 dX11_copy_5 rfl 16 (by decide) (by decide) (by decide) ?_
    refine r_aloadN 9 dX11_copy_8 rfl rfl ?_
    refine r_iloadN 10 dX11_copy_9 rfl rfl ?_
    refine r_cv1 13 dX11_copy_10 rfl gX11_181 rfl (by decide) (sh_50 z _) rfl rfl (Nat.le_of_ble_eq_true rfl) (Nat.le_of_ble_eq_true rfl) rfl ?_
    refine m_isShelf (by assumption) (fun y10 => ?_) (fun y10 => ?_)
    · refine r_ifneT 22 0 dX11_copy_13 (by decide) (by decide) (by decide) ?_
      obtain ⟨sp, hsp0⟩ := Int.eq_ofNat_of_zero_le (show 0 ≤ p by omega)
      subst hsp0
      obtain ⟨sq, hsq0⟩ := Int.eq_ofNat_of_zero_le (show 0 ≤ q by omega)
      subst hsq0
      have hi8 := hS sp (by omega)
      have hj9 := hS sq (by omega)
      have hi2 := hi8
      have hj2 := hj9
      unfold SI at hi2 hj2
      refine r_aloadN 23 dX11_copy_22 rfl rfl ?_
      refine r_getq 26 dX11_copy_23 rfl fX11_119 (by decide) (sh_50 z _) rfl ?_
      refine r_iloadN 27 dX11_copy_26 rfl rfl ?_
      refine r_iald (n := 8) 28 dX11_copy_27 (sp) rfl rfl (by decide) (sh_51 z _) (by decide) (by omega) (by omega) ?_
      refine r_iconst 29 dX11_copy_28 rfl ?_
      refine r_iceq 77 32 dX11_copy_29 rfl (by decide) (by omega) (by omega) (fun h29 => ?_) (fun h29 => ?_)
      · refine r_aloadN 78 dX11_copy_77 rfl rfl ?_
        refine r_bipush 80 dX11_copy_78 rfl (by decide) ?_
        refine r_cv1 83 dX11_copy_80 rfl gX11_184 rfl (by decide) (sh_50 z _) rfl rfl (Nat.le_of_ble_eq_true rfl) (Nat.le_of_ble_eq_true rfl) rfl ?_
        refine m_no (k0 := 2) (by decide) (by decide) ?_
        refine r_ret dX11_copy_83 rfl (kb _ 2 (by decide) ?_)
        unfold gCopy
        simp only [Int.toNat_natCast]
        rw [if_neg (by omega), if_pos (by omega)]
      · refine r_aloadN 33 dX11_copy_32 rfl rfl ?_
        refine r_getq 36 dX11_copy_33 rfl fX11_119 (by decide) (sh_50 z _) rfl ?_
        refine r_iloadN 37 dX11_copy_36 rfl rfl ?_
        refine r_iald (n := 8) 38 dX11_copy_37 (sq) rfl rfl (by decide) (sh_51 z _) (by decide) (by omega) (by omega) ?_
        refine r_iconst 39 dX11_copy_38 rfl ?_
        refine r_iceq 77 42 dX11_copy_39 rfl (by decide) (by omega) (by omega) (fun h39 => ?_) (fun h39 => ?_)
        · refine r_aloadN 78 dX11_copy_77 rfl rfl ?_
          refine r_bipush 80 dX11_copy_78 rfl (by decide) ?_
          refine r_cv1 83 dX11_copy_80 rfl gX11_184 rfl (by decide) (sh_50 z _) rfl rfl (Nat.le_of_ble_eq_true rfl) (Nat.le_of_ble_eq_true rfl) rfl ?_
          refine m_no (k0 := 2) (by decide) (by decide) ?_
          refine r_ret dX11_copy_83 rfl (kb _ 2 (by decide) ?_)
          unfold gCopy
          simp only [Int.toNat_natCast]
          rw [if_neg (by omega), if_pos (by omega)]
        · refine r_aloadN 43 dX11_copy_42 rfl rfl ?_
          refine r_getq 46 dX11_copy_43 rfl fX11_119 (by decide) (sh_50 z _) rfl ?_
          refine r_iloadN 47 dX11_copy_46 rfl rfl ?_
          refine r_iald (n := 8) 48 dX11_copy_47 (sp) rfl rfl (by decide) (sh_51 z _) (by decide) (by omega) (by omega) ?_
          refine r_iconst 49 dX11_copy_48 rfl ?_
          refine r_icne 84 52 dX11_copy_49 rfl (by decide) (by omega) (by omega) (fun h49 => ?_) (fun h49 => ?_)
          · refine r_aloadN 85 dX11_copy_84 rfl rfl ?_
            refine r_getq 88 dX11_copy_85 rfl fX11_119 (by decide) (sh_50 z _) rfl ?_
            refine r_iloadN 89 dX11_copy_88 rfl rfl ?_
            refine r_iald (n := 8) 90 dX11_copy_89 (sp) rfl rfl (by decide) (sh_51 z _) (by decide) (by omega) (by omega) ?_
            refine r_ifeq 102 93 dX11_copy_90 rfl (by decide) (by omega) (fun h90 => ?_) (fun h90 => ?_)
            · refine r_aloadN 103 dX11_copy_102 rfl rfl ?_
              refine r_bipush 105 dX11_copy_103 rfl (by decide) ?_
              refine r_cv1 108 dX11_copy_105 rfl gX11_184 rfl (by decide) (sh_50 z _) rfl rfl (Nat.le_of_ble_eq_true rfl) (Nat.le_of_ble_eq_true rfl) rfl ?_
              refine m_no (k0 := 3) (by decide) (by decide) ?_
              refine r_ret dX11_copy_108 rfl (kb _ 3 (by decide) ?_)
              unfold gCopy
              simp only [Int.toNat_natCast]
              rw [if_neg (by omega), if_neg (by omega), if_pos (by omega)]
            · refine r_aloadN 94 dX11_copy_93 rfl rfl ?_
              refine r_getq 97 dX11_copy_94 rfl fX11_119 (by decide) (sh_50 z _) rfl ?_
              refine r_iloadN 98 dX11_copy_97 rfl rfl ?_
              refine r_iald (n := 8) 99 dX11_copy_98 (sq) rfl rfl (by decide) (sh_51 z _) (by decide) (by omega) (by omega) ?_
              refine r_ifne 109 102 dX11_copy_99 rfl (by decide) (by omega) (fun h99 => ?_) (fun h99 => ?_)
              · refine r_iload 111 dX11_copy_109 rfl rfl ?_
                refine r_ifge 121 114 dX11_copy_111 rfl (by decide) (by omega) (fun h111 => ?_) (fun h111 => ?_)
                · refine r_iloadN 122 dX11_copy_121 rfl rfl ?_
                  refine r_iflt 157 125 dX11_copy_122 rfl (by decide) (by omega) (fun h122 => ?_) (fun h122 => ?_)
                  · refine r_aloadN 158 dX11_copy_157 rfl rfl ?_
                    refine r_bipush 160 dX11_copy_158 rfl (by decide) ?_
                    refine r_cv1 163 dX11_copy_160 rfl gX11_184 rfl (by decide) (sh_50 z _) rfl rfl (Nat.le_of_ble_eq_true rfl) (Nat.le_of_ble_eq_true rfl) rfl ?_
                    refine m_no (k0 := 5) (by decide) (by decide) ?_
                    refine r_ret dX11_copy_163 rfl (kb _ 5 (by decide) ?_)
                    unfold gCopy
                    simp only [Int.toNat_natCast]
                    rw [if_neg (by omega), if_neg (by omega), if_neg (by omega), if_neg (by omega), if_pos (by omega)]
                  · refine r_iload 127 dX11_copy_125 rfl rfl ?_
                    refine r_iflt 157 130 dX11_copy_127 rfl (by decide) (by omega) (fun h127 => ?_) (fun h127 => ?_)
                    · refine r_aloadN 158 dX11_copy_157 rfl rfl ?_
                      refine r_bipush 160 dX11_copy_158 rfl (by decide) ?_
                      refine r_cv1 163 dX11_copy_160 rfl gX11_184 rfl (by decide) (sh_50 z _) rfl rfl (Nat.le_of_ble_eq_true rfl) (Nat.le_of_ble_eq_true rfl) rfl ?_
                      refine m_no (k0 := 5) (by decide) (by decide) ?_
                      refine r_ret dX11_copy_163 rfl (kb _ 5 (by decide) ?_)
                      unfold gCopy
                      simp only [Int.toNat_natCast]
                      rw [if_neg (by omega), if_neg (by omega), if_neg (by omega), if_neg (by omega), if_pos (by omega)]
                    · refine r_iloadN 131 dX11_copy_130 rfl rfl ?_
                      refine r_aloadN 132 dX11_copy_131 rfl rfl ?_
                      refine r_getq 135 dX11_copy_132 rfl fX11_125 (by decide) (sh_50 z _) rfl ?_
                      refine r_iloadN 136 dX11_copy_135 rfl rfl ?_
                      refine r_iald (n := 8) 137 dX11_copy_136 (sp) rfl rfl (by decide) (sh_51 z _) (by decide) (by omega) (by omega) ?_
                      refine r_iload 139 dX11_copy_137 rfl rfl ?_
                      refine r_isub 140 dX11_copy_139 rfl ?_
                      refine r_icgt 157 143 dX11_copy_140 rfl (by decide) (by omega) (by omega) (fun h140 => ?_) (fun h140 => ?_)
                      · refine r_aloadN 158 dX11_copy_157 rfl rfl ?_
                        refine r_bipush 160 dX11_copy_158 rfl (by decide) ?_
                        refine r_cv1 163 dX11_copy_160 rfl gX11_184 rfl (by decide) (sh_50 z _) rfl rfl (Nat.le_of_ble_eq_true rfl) (Nat.le_of_ble_eq_true rfl) rfl ?_
                        refine m_no (k0 := 5) (by decide) (by decide) ?_
                        refine r_ret dX11_copy_163 rfl (kb _ 5 (by decide) ?_)
                        unfold gCopy
                        simp only [Int.toNat_natCast]
                        rw [if_neg (by omega), if_neg (by omega), if_neg (by omega), if_neg (by omega), if_pos (by omega)]
                      · refine r_iload 145 dX11_copy_143 rfl rfl ?_
                        refine r_aloadN 146 dX11_copy_145 rfl rfl ?_
                        refine r_getq 149 dX11_copy_146 rfl fX11_125 (by decide) (sh_50 z _) rfl ?_
                        refine r_iloadN 150 dX11_copy_149 rfl rfl ?_
                        refine r_iald (n := 8) 151 dX11_copy_150 (sq) rfl rfl (by decide) (sh_51 z _) (by decide) (by omega) (by omega) ?_
                        refine r_iload 153 dX11_copy_151 rfl rfl ?_
                        refine r_isub 154 dX11_copy_153 rfl ?_
                        refine r_icle 164 157 dX11_copy_154 rfl (by decide) (by omega) (by omega) (fun h154 => ?_) (fun h154 => ?_)
                        · obtain ⟨i0, hi00⟩ := Int.eq_ofNat_of_zero_le (show 0 ≤ i by omega)
                          subst hi00
                          obtain ⟨j0, hj00⟩ := Int.eq_ofNat_of_zero_le (show 0 ≤ j by omega)
                          subst hj00
                          obtain ⟨n0, hn00⟩ := Int.eq_ofNat_of_zero_le (show 0 ≤ n by omega)
                          subst hn00
                          simp only [Int.toNat_natCast] at k
                          refine r_iconst 165 dX11_copy_164 rfl ?_
                          refine r_istore6 167 dX11_copy_165 rfl rfl (by decide) ?_
                          refine m_copy_loop1 (p := sp) (q := sq) (i0 := i0) (j := j0) (n := n0) (L0 := L) (by omega) (by omega) (fun L2 hL2 hF2 => ?_) n0 0 L (by omega) (fun b hb => absurd hb (Nat.not_lt_zero _)) (fun _ _ _ _ => rfl)
                          refine r_iconst 202 dX11_copy_201 rfl ?_
                          refine r_istore6 204 dX11_copy_202 rfl rfl (by decide) ?_
                          refine m_copy_loop2 (p := sp) (q := sq) (i0 := i0) (j := j0) (n := n0) (L0 := L2) (by omega) (by omega) (fun L3 hL3 hF3 => ?_) n0 0 L2 (by omega) (fun b hb => absurd hb (Nat.not_lt_zero _)) (fun _ _ _ _ => rfl)
                          refine k 1 L3 (fun b hb => ?_) (fun g a b h1 h2 => ?_) ?_
                          · rw [hL3 b (by omega), hL2 b (by omega)]
                          · rw [hF3 g a b (fun h => h2 ⟨h.1, h.2.1, by omega, by omega⟩), hF2 g a b h1]
                          · unfold gCopy
                            simp only [Int.toNat_natCast]
                            rw [if_neg (by omega), if_neg (by omega), if_neg (by omega), if_neg (by omega), if_neg (by omega)]
                        · refine r_aloadN 158 dX11_copy_157 rfl rfl ?_
                          refine r_bipush 160 dX11_copy_158 rfl (by decide) ?_
                          refine r_cv1 163 dX11_copy_160 rfl gX11_184 rfl (by decide) (sh_50 z _) rfl rfl (Nat.le_of_ble_eq_true rfl) (Nat.le_of_ble_eq_true rfl) rfl ?_
                          refine m_no (k0 := 5) (by decide) (by decide) ?_
                          refine r_ret dX11_copy_163 rfl (kb _ 5 (by decide) ?_)
                          unfold gCopy
                          simp only [Int.toNat_natCast]
                          rw [if_neg (by omega), if_neg (by omega), if_neg (by omega), if_neg (by omega), if_pos (by omega)]
                · refine r_aloadN 115 dX11_copy_114 rfl rfl ?_
                  refine r_bipush 117 dX11_copy_115 rfl (by decide) ?_
                  refine r_cv1 120 dX11_copy_117 rfl gX11_184 rfl (by decide) (sh_50 z _) rfl rfl (Nat.le_of_ble_eq_true rfl) (Nat.le_of_ble_eq_true rfl) rfl ?_
                  refine m_no (k0 := 4) (by decide) (by decide) ?_
                  refine r_ret dX11_copy_120 rfl (kb _ 4 (by decide) ?_)
                  unfold gCopy
                  simp only [Int.toNat_natCast]
                  rw [if_neg (by omega), if_neg (by omega), if_neg (by omega), if_pos (by omega)]
              · refine r_aloadN 103 dX11_copy_102 rfl rfl ?_
                refine r_bipush 105 dX11_copy_103 rfl (by decide) ?_
                refine r_cv1 108 dX11_copy_105 rfl gX11_184 rfl (by decide) (sh_50 z _) rfl rfl (Nat.le_of_ble_eq_true rfl) (Nat.le_of_ble_eq_true rfl) rfl ?_
                refine m_no (k0 := 3) (by decide) (by decide) ?_
                refine r_ret dX11_copy_108 rfl (kb _ 3 (by decide) ?_)
                unfold gCopy
                simp only [Int.toNat_natCast]
                rw [if_neg (by omega), if_neg (by omega), if_pos (by omega)]
          · refine r_aloadN 53 dX11_copy_52 rfl rfl ?_
            refine r_getq 56 dX11_copy_53 rfl fX11_119 (by decide) (sh_50 z _) rfl ?_
            refine r_iloadN 57 dX11_copy_56 rfl rfl ?_
            refine r_iald (n := 8) 58 dX11_copy_57 (sq) rfl rfl (by decide) (sh_51 z _) (by decide) (by omega) (by omega) ?_
            refine r_iconst 59 dX11_copy_58 rfl ?_
            refine r_icne 84 62 dX11_copy_59 rfl (by decide) (by omega) (by omega) (fun h59 => ?_) (fun h59 => ?_)
            · refine r_aloadN 85 dX11_copy_84 rfl rfl ?_
              refine r_getq 88 dX11_copy_85 rfl fX11_119 (by decide) (sh_50 z _) rfl ?_
              refine r_iloadN 89 dX11_copy_88 rfl rfl ?_
              refine r_iald (n := 8) 90 dX11_copy_89 (sp) rfl rfl (by decide) (sh_51 z _) (by decide) (by omega) (by omega) ?_
              refine r_ifeq 102 93 dX11_copy_90 rfl (by decide) (by omega) (fun h90 => ?_) (fun h90 => ?_)
              · refine r_aloadN 103 dX11_copy_102 rfl rfl ?_
                refine r_bipush 105 dX11_copy_103 rfl (by decide) ?_
                refine r_cv1 108 dX11_copy_105 rfl gX11_184 rfl (by decide) (sh_50 z _) rfl rfl (Nat.le_of_ble_eq_true rfl) (Nat.le_of_ble_eq_true rfl) rfl ?_
                refine m_no (k0 := 3) (by decide) (by decide) ?_
                refine r_ret dX11_copy_108 rfl (kb _ 3 (by decide) ?_)
                unfold gCopy
                simp only [Int.toNat_natCast]
                rw [if_neg (by omega), if_neg (by omega), if_pos (by omega)]
              · refine r_aloadN 94 dX11_copy_93 rfl rfl ?_
                refine r_getq 97 dX11_copy_94 rfl fX11_119 (by decide) (sh_50 z _) rfl ?_
                refine r_iloadN 98 dX11_copy_97 rfl rfl ?_
                refine r_iald (n := 8) 99 dX11_copy_98 (sq) rfl rfl (by decide) (sh_51 z _) (by decide) (by omega) (by omega) ?_
                refine r_ifne 109 102 dX11_copy_99 rfl (by decide) (by omega) (fun h99 => ?_) (fun h99 => ?_)
                · refine r_iload 111 dX11_copy_109 rfl rfl ?_
                  refine r_ifge 121 114 dX11_copy_111 rfl (by decide) (by omega) (fun h111 => ?_) (fun h111 => ?_)
                  · refine r_iloadN 122 dX11_copy_121 rfl rfl ?_
                    refine r_iflt 157 125 dX11_copy_122 rfl (by decide) (by omega) (fun h122 => ?_) (fun h122 => ?_)
                    · refine r_aloadN 158 dX11_copy_157 rfl rfl ?_
                      refine r_bipush 160 dX11_copy_158 rfl (by decide) ?_
                      refine r_cv1 163 dX11_copy_160 rfl gX11_184 rfl (by decide) (sh_50 z _) rfl rfl (Nat.le_of_ble_eq_true rfl) (Nat.le_of_ble_eq_true rfl) rfl ?_
                      refine m_no (k0 := 5) (by decide) (by decide) ?_
                      refine r_ret dX11_copy_163 rfl (kb _ 5 (by decide) ?_)
                      unfold gCopy
                      simp only [Int.toNat_natCast]
                      rw [if_neg (by omega), if_neg (by omega), if_neg (by omega), if_neg (by omega), if_pos (by omega)]
                    · refine r_iload 127 dX11_copy_125 rfl rfl ?_
                      refine r_iflt 157 130 dX11_copy_127 rfl (by decide) (by omega) (fun h127 => ?_) (fun h127 => ?_)
                      · refine r_aloadN 158 dX11_copy_157 rfl rfl ?_
                        refine r_bipush 160 dX11_copy_158 rfl (by decide) ?_
                        refine r_cv1 163 dX11_copy_160 rfl gX11_184 rfl (by decide) (sh_50 z _) rfl rfl (Nat.le_of_ble_eq_true rfl) (Nat.le_of_ble_eq_true rfl) rfl ?_
                        refine m_no (k0 := 5) (by decide) (by decide) ?_
                        refine r_ret dX11_copy_163 rfl (kb _ 5 (by decide) ?_)
                        unfold gCopy
                        simp only [Int.toNat_natCast]
                        rw [if_neg (by omega), if_neg (by omega), if_neg (by omega), if_neg (by omega), if_pos (by omega)]
                      · refine r_iloadN 131 dX11_copy_130 rfl rfl ?_
                        refine r_aloadN 132 dX11_copy_131 rfl rfl ?_
                        refine r_getq 135 dX11_copy_132 rfl fX11_125 (by decide) (sh_50 z _) rfl ?_
                        refine r_iloadN 136 dX11_copy_135 rfl rfl ?_
                        refine r_iald (n := 8) 137 dX11_copy_136 (sp) rfl rfl (by decide) (sh_51 z _) (by decide) (by omega) (by omega) ?_
                        refine r_iload 139 dX11_copy_137 rfl rfl ?_
                        refine r_isub 140 dX11_copy_139 rfl ?_
                        refine r_icgt 157 143 dX11_copy_140 rfl (by decide) (by omega) (by omega) (fun h140 => ?_) (fun h140 => ?_)
                        · refine r_aloadN 158 dX11_copy_157 rfl rfl ?_
                          refine r_bipush 160 dX11_copy_158 rfl (by decide) ?_
                          refine r_cv1 163 dX11_copy_160 rfl gX11_184 rfl (by decide) (sh_50 z _) rfl rfl (Nat.le_of_ble_eq_true rfl) (Nat.le_of_ble_eq_true rfl) rfl ?_
                          refine m_no (k0 := 5) (by decide) (by decide) ?_
                          refine r_ret dX11_copy_163 rfl (kb _ 5 (by decide) ?_)
                          unfold gCopy
                          simp only [Int.toNat_natCast]
                          rw [if_neg (by omega), if_neg (by omega), if_neg (by omega), if_neg (by omega), if_pos (by omega)]
                        · refine r_iload 145 dX11_copy_143 rfl rfl ?_
                          refine r_aloadN 146 dX11_copy_145 rfl rfl ?_
                          refine r_getq 149 dX11_copy_146 rfl fX11_125 (by decide) (sh_50 z _) rfl ?_
                          refine r_iloadN 150 dX11_copy_149 rfl rfl ?_
                          refine r_iald (n := 8) 151 dX11_copy_150 (sq) rfl rfl (by decide) (sh_51 z _) (by decide) (by omega) (by omega) ?_
                          refine r_iload 153 dX11_copy_151 rfl rfl ?_
                          refine r_isub 154 dX11_copy_153 rfl ?_
                          refine r_icle 164 157 dX11_copy_154 rfl (by decide) (by omega) (by omega) (fun h154 => ?_) (fun h154 => ?_)
                          · obtain ⟨i0, hi00⟩ := Int.eq_ofNat_of_zero_le (show 0 ≤ i by omega)
                            subst hi00
                            obtain ⟨j0, hj00⟩ := Int.eq_ofNat_of_zero_le (show 0 ≤ j by omega)
                            subst hj00
                            obtain ⟨n0, hn00⟩ := Int.eq_ofNat_of_zero_le (show 0 ≤ n by omega)
                            subst hn00
                            simp only [Int.toNat_natCast] at k
                            refine r_iconst 165 dX11_copy_164 rfl ?_
                            refine r_istore6 167 dX11_copy_165 rfl rfl (by decide) ?_
                            refine m_copy_loop1 (p := sp) (q := sq) (i0 := i0) (j := j0) (n := n0) (L0 := L) (by omega) (by omega) (fun L2 hL2 hF2 => ?_) n0 0 L (by omega) (fun b hb => absurd hb (Nat.not_lt_zero _)) (fun _ _ _ _ => rfl)
                            refine r_iconst 202 dX11_copy_201 rfl ?_
                            refine r_istore6 204 dX11_copy_202 rfl rfl (by decide) ?_
                            refine m_copy_loop2 (p := sp) (q := sq) (i0 := i0) (j := j0) (n := n0) (L0 := L2) (by omega) (by omega) (fun L3 hL3 hF3 => ?_) n0 0 L2 (by omega) (fun b hb => absurd hb (Nat.not_lt_zero _)) (fun _ _ _ _ => rfl)
                            refine k 1 L3 (fun b hb => ?_) (fun g a b h1 h2 => ?_) ?_
                            · rw [hL3 b (by omega), hL2 b (by omega)]
                            · rw [hF3 g a b (fun h => h2 ⟨h.1, h.2.1, by omega, by omega⟩), hF2 g a b h1]
                            · unfold gCopy
                              simp only [Int.toNat_natCast]
                              rw [if_neg (by omega), if_neg (by omega), if_neg (by omega), if_neg (by omega), if_neg (by omega)]
                          · refine r_aloadN 158 dX11_copy_157 rfl rfl ?_
                            refine r_bipush 160 dX11_copy_158 rfl (by decide) ?_
                            refine r_cv1 163 dX11_copy_160 rfl gX11_184 rfl (by decide) (sh_50 z _) rfl rfl (Nat.le_of_ble_eq_true rfl) (Nat.le_of_ble_eq_true rfl) rfl ?_
                            refine m_no (k0 := 5) (by decide) (by decide) ?_
                            refine r_ret dX11_copy_163 rfl (kb _ 5 (by decide) ?_)
                            unfold gCopy
                            simp only [Int.toNat_natCast]
                            rw [if_neg (by omega), if_neg (by omega), if_neg (by omega), if_neg (by omega), if_pos (by omega)]
                  · refine r_aloadN 115 dX11_copy_114 rfl rfl ?_
                    refine r_bipush 117 dX11_copy_115 rfl (by decide) ?_
                    refine r_cv1 120 dX11_copy_117 rfl gX11_184 rfl (by decide) (sh_50 z _) rfl rfl (Nat.le_of_ble_eq_true rfl) (Nat.le_of_ble_eq_true rfl) rfl ?_
                    refine m_no (k0 := 4) (by decide) (by decide) ?_
                    refine r_ret dX11_copy_120 rfl (kb _ 4 (by decide) ?_)
                    unfold gCopy
                    simp only [Int.toNat_natCast]
                    rw [if_neg (by omega), if_neg (by omega), if_neg (by omega), if_pos (by omega)]
                · refine r_aloadN 103 dX11_copy_102 rfl rfl ?_
                  refine r_bipush 105 dX11_copy_103 rfl (by decide) ?_
                  refine r_cv1 108 dX11_copy_105 rfl gX11_184 rfl (by decide) (sh_50 z _) rfl rfl (Nat.le_of_ble_eq_true rfl) (Nat.le_of_ble_eq_true rfl) rfl ?_
                  refine m_no (k0 := 3) (by decide) (by decide) ?_
                  refine r_ret dX11_copy_108 rfl (kb _ 3 (by decide) ?_)
                  unfold gCopy
                  simp only [Int.toNat_natCast]
                  rw [if_neg (by omega), if_neg (by omega), if_pos (by omega)]
            · refine r_aloadN 63 dX11_copy_62 rfl rfl ?_
              refine r_getq 66 dX11_copy_63 rfl fX11_122 (by decide) (sh_50 z _) rfl ?_
              refine r_iloadN 67 dX11_copy_66 rfl rfl ?_
              refine r_iald (n := 8) 68 dX11_copy_67 (sp) rfl rfl (by decide) (sh_51 z _) (by decide) (by omega) (by omega) ?_
              refine r_aloadN 69 dX11_copy_68 rfl rfl ?_
              refine r_getq 72 dX11_copy_69 rfl fX11_122 (by decide) (sh_50 z _) rfl ?_
              refine r_iloadN 73 dX11_copy_72 rfl rfl ?_
              refine r_iald (n := 8) 74 dX11_copy_73 (sq) rfl rfl (by decide) (sh_51 z _) (by decide) (by omega) (by omega) ?_
              refine r_iceq 84 77 dX11_copy_74 rfl (by decide) (by omega) (by omega) (fun h74 => ?_) (fun h74 => ?_)
              · refine r_aloadN 85 dX11_copy_84 rfl rfl ?_
                refine r_getq 88 dX11_copy_85 rfl fX11_119 (by decide) (sh_50 z _) rfl ?_
                refine r_iloadN 89 dX11_copy_88 rfl rfl ?_
                refine r_iald (n := 8) 90 dX11_copy_89 (sp) rfl rfl (by decide) (sh_51 z _) (by decide) (by omega) (by omega) ?_
                refine r_ifeq 102 93 dX11_copy_90 rfl (by decide) (by omega) (fun h90 => ?_) (fun h90 => ?_)
                · refine r_aloadN 103 dX11_copy_102 rfl rfl ?_
                  refine r_bipush 105 dX11_copy_103 rfl (by decide) ?_
                  refine r_cv1 108 dX11_copy_105 rfl gX11_184 rfl (by decide) (sh_50 z _) rfl rfl (Nat.le_of_ble_eq_true rfl) (Nat.le_of_ble_eq_true rfl) rfl ?_
                  refine m_no (k0 := 3) (by decide) (by decide) ?_
                  refine r_ret dX11_copy_108 rfl (kb _ 3 (by decide) ?_)
                  unfold gCopy
                  simp only [Int.toNat_natCast]
                  rw [if_neg (by omega), if_neg (by omega), if_pos (by omega)]
                · refine r_aloadN 94 dX11_copy_93 rfl rfl ?_
                  refine r_getq 97 dX11_copy_94 rfl fX11_119 (by decide) (sh_50 z _) rfl ?_
                  refine r_iloadN 98 dX11_copy_97 rfl rfl ?_
                  refine r_iald (n := 8) 99 dX11_copy_98 (sq) rfl rfl (by decide) (sh_51 z _) (by decide) (by omega) (by omega) ?_
                  refine r_ifne 109 102 dX11_copy_99 rfl (by decide) (by omega) (fun h99 => ?_) (fun h99 => ?_)
                  · refine r_iload 111 dX11_copy_109 rfl rfl ?_
                    refine r_ifge 121 114 dX11_copy_111 rfl (by decide) (by omega) (fun h111 => ?_) (fun h111 => ?_)
                    · refine r_iloadN 122 dX11_copy_121 rfl rfl ?_
                      refine r_iflt 157 125 dX11_copy_122 rfl (by decide) (by omega) (fun h122 => ?_) (fun h122 => ?_)
                      · refine r_aloadN 158 dX11_copy_157 rfl rfl ?_
                        refine r_bipush 160 dX11_copy_158 rfl (by decide) ?_
                        refine r_cv1 163 dX11_copy_160 rfl gX11_184 rfl (by decide) (sh_50 z _) rfl rfl (Nat.le_of_ble_eq_true rfl) (Nat.le_of_ble_eq_true rfl) rfl ?_
                        refine m_no (k0 := 5) (by decide) (by decide) ?_
                        refine r_ret dX11_copy_163 rfl (kb _ 5 (by decide) ?_)
                        unfold gCopy
                        simp only [Int.toNat_natCast]
                        rw [if_neg (by omega), if_neg (by omega), if_neg (by omega), if_neg (by omega), if_pos (by omega)]
                      · refine r_iload 127 dX11_copy_125 rfl rfl ?_
                        refine r_iflt 157 130 dX11_copy_127 rfl (by decide) (by omega) (fun h127 => ?_) (fun h127 => ?_)
                        · refine r_aloadN 158 dX11_copy_157 rfl rfl ?_
                          refine r_bipush 160 dX11_copy_158 rfl (by decide) ?_
                          refine r_cv1 163 dX11_copy_160 rfl gX11_184 rfl (by decide) (sh_50 z _) rfl rfl (Nat.le_of_ble_eq_true rfl) (Nat.le_of_ble_eq_true rfl) rfl ?_
                          refine m_no (k0 := 5) (by decide) (by decide) ?_
                          refine r_ret dX11_copy_163 rfl (kb _ 5 (by decide) ?_)
                          unfold gCopy
                          simp only [Int.toNat_natCast]
                          rw [if_neg (by omega), if_neg (by omega), if_neg (by omega), if_neg (by omega), if_pos (by omega)]
                        · refine r_iloadN 131 dX11_copy_130 rfl rfl ?_
                          refine r_aloadN 132 dX11_copy_131 rfl rfl ?_
                          refine r_getq 135 dX11_copy_132 rfl fX11_125 (by decide) (sh_50 z _) rfl ?_
                          refine r_iloadN 136 dX11_copy_135 rfl rfl ?_
                          refine r_iald (n := 8) 137 dX11_copy_136 (sp) rfl rfl (by decide) (sh_51 z _) (by decide) (by omega) (by omega) ?_
                          refine r_iload 139 dX11_copy_137 rfl rfl ?_
                          refine r_isub 140 dX11_copy_139 rfl ?_
                          refine r_icgt 157 143 dX11_copy_140 rfl (by decide) (by omega) (by omega) (fun h140 => ?_) (fun h140 => ?_)
                          · refine r_aloadN 158 dX11_copy_157 rfl rfl ?_
                            refine r_bipush 160 dX11_copy_158 rfl (by decide) ?_
                            refine r_cv1 163 dX11_copy_160 rfl gX11_184 rfl (by decide) (sh_50 z _) rfl rfl (Nat.le_of_ble_eq_true rfl) (Nat.le_of_ble_eq_true rfl) rfl ?_
                            refine m_no (k0 := 5) (by decide) (by decide) ?_
                            refine r_ret dX11_copy_163 rfl (kb _ 5 (by decide) ?_)
                            unfold gCopy
                            simp only [Int.toNat_natCast]
                            rw [if_neg (by omega), if_neg (by omega), if_neg (by omega), if_neg (by omega), if_pos (by omega)]
                          · refine r_iload 145 dX11_copy_143 rfl rfl ?_
                            refine r_aloadN 146 dX11_copy_145 rfl rfl ?_
                            refine r_getq 149 dX11_copy_146 rfl fX11_125 (by decide) (sh_50 z _) rfl ?_
                            refine r_iloadN 150 dX11_copy_149 rfl rfl ?_
                            refine r_iald (n := 8) 151 dX11_copy_150 (sq) rfl rfl (by decide) (sh_51 z _) (by decide) (by omega) (by omega) ?_
                            refine r_iload 153 dX11_copy_151 rfl rfl ?_
                            refine r_isub 154 dX11_copy_153 rfl ?_
                            refine r_icle 164 157 dX11_copy_154 rfl (by decide) (by omega) (by omega) (fun h154 => ?_) (fun h154 => ?_)
                            · obtain ⟨i0, hi00⟩ := Int.eq_ofNat_of_zero_le (show 0 ≤ i by omega)
                              subst hi00
                              obtain ⟨j0, hj00⟩ := Int.eq_ofNat_of_zero_le (show 0 ≤ j by omega)
                              subst hj00
                              obtain ⟨n0, hn00⟩ := Int.eq_ofNat_of_zero_le (show 0 ≤ n by omega)
                              subst hn00
                              simp only [Int.toNat_natCast] at k
                              refine r_iconst 165 dX11_copy_164 rfl ?_
                              refine r_istore6 167 dX11_copy_165 rfl rfl (by decide) ?_
                              refine m_copy_loop1 (p := sp) (q := sq) (i0 := i0) (j := j0) (n := n0) (L0 := L) (by omega) (by omega) (fun L2 hL2 hF2 => ?_) n0 0 L (by omega) (fun b hb => absurd hb (Nat.not_lt_zero _)) (fun _ _ _ _ => rfl)
                              refine r_iconst 202 dX11_copy_201 rfl ?_
                              refine r_istore6 204 dX11_copy_202 rfl rfl (by decide) ?_
                              refine m_copy_loop2 (p := sp) (q := sq) (i0 := i0) (j := j0) (n := n0) (L0 := L2) (by omega) (by omega) (fun L3 hL3 hF3 => ?_) n0 0 L2 (by omega) (fun b hb => absurd hb (Nat.not_lt_zero _)) (fun _ _ _ _ => rfl)
                              refine k 1 L3 (fun b hb => ?_) (fun g a b h1 h2 => ?_) ?_
                              · rw [hL3 b (by omega), hL2 b (by omega)]
                              · rw [hF3 g a b (fun h => h2 ⟨h.1, h.2.1, by omega, by omega⟩), hF2 g a b h1]
                              · unfold gCopy
                                simp only [Int.toNat_natCast]
                                rw [if_neg (by omega), if_neg (by omega), if_neg (by omega), if_neg (by omega), if_neg (by omega)]
                            · refine r_aloadN 158 dX11_copy_157 rfl rfl ?_
                              refine r_bipush 160 dX11_copy_158 rfl (by decide) ?_
                              refine r_cv1 163 dX11_copy_160 rfl gX11_184 rfl (by decide) (sh_50 z _) rfl rfl (Nat.le_of_ble_eq_true rfl) (Nat.le_of_ble_eq_true rfl) rfl ?_
                              refine m_no (k0 := 5) (by decide) (by decide) ?_
                              refine r_ret dX11_copy_163 rfl (kb _ 5 (by decide) ?_)
                              unfold gCopy
                              simp only [Int.toNat_natCast]
                              rw [if_neg (by omega), if_neg (by omega), if_neg (by omega), if_neg (by omega), if_pos (by omega)]
                    · refine r_aloadN 115 dX11_copy_114 rfl rfl ?_
                      refine r_bipush 117 dX11_copy_115 rfl (by decide) ?_
                      refine r_cv1 120 dX11_copy_117 rfl gX11_184 rfl (by decide) (sh_50 z _) rfl rfl (Nat.le_of_ble_eq_true rfl) (Nat.le_of_ble_eq_true rfl) rfl ?_
                      refine m_no (k0 := 4) (by decide) (by decide) ?_
                      refine r_ret dX11_copy_120 rfl (kb _ 4 (by decide) ?_)
                      unfold gCopy
                      simp only [Int.toNat_natCast]
                      rw [if_neg (by omega), if_neg (by omega), if_neg (by omega), if_pos (by omega)]
                  · refine r_aloadN 103 dX11_copy_102 rfl rfl ?_
                    refine r_bipush 105 dX11_copy_103 rfl (by decide) ?_
                    refine r_cv1 108 dX11_copy_105 rfl gX11_184 rfl (by decide) (sh_50 z _) rfl rfl (Nat.le_of_ble_eq_true rfl) (Nat.le_of_ble_eq_true rfl) rfl ?_
                    refine m_no (k0 := 3) (by decide) (by decide) ?_
                    refine r_ret dX11_copy_108 rfl (kb _ 3 (by decide) ?_)
                    unfold gCopy
                    simp only [Int.toNat_natCast]
                    rw [if_neg (by omega), if_neg (by omega), if_pos (by omega)]
              · refine r_aloadN 78 dX11_copy_77 rfl rfl ?_
                refine r_bipush 80 dX11_copy_78 rfl (by decide) ?_
                refine r_cv1 83 dX11_copy_80 rfl gX11_184 rfl (by decide) (sh_50 z _) rfl rfl (Nat.le_of_ble_eq_true rfl) (Nat.le_of_ble_eq_true rfl) rfl ?_
                refine m_no (k0 := 2) (by decide) (by decide) ?_
                refine r_ret dX11_copy_83 rfl (kb _ 2 (by decide) ?_)
                unfold gCopy
                simp only [Int.toNat_natCast]
                rw [if_neg (by omega), if_pos (by omega)]
    · refine r_ifneF 16 dX11_copy_13 rfl 22 (by decide) (by decide) (by decide) ?_
      refine r_aloadN 17 dX11_copy_16 rfl rfl ?_
      refine r_iconst 18 dX11_copy_17 rfl ?_
      refine r_cv1 21 dX11_copy_18 rfl gX11_184 rfl (by decide) (sh_50 z _) rfl rfl (Nat.le_of_ble_eq_true rfl) (Nat.le_of_ble_eq_true rfl) rfl ?_
      refine m_no (k0 := 1) (by decide) (by decide) ?_
      refine r_ret dX11_copy_21 rfl (kb _ 1 (by decide) ?_)
      unfold gCopy
      rw [if_pos (by omega)]
  · refine r_ifeqT 16 0 dX11_copy_5 (by decide) (by decide) (by decide) ?_
    refine r_aloadN 17 dX11_copy_16 rfl rfl ?_
    refine r_iconst 18 dX11_copy_17 rfl ?_
    refine r_cv1 21 dX11_copy_18 rfl gX11_184 rfl (by decide) (sh_50 z _) rfl rfl (Nat.le_of_ble_eq_true rfl) (Nat.le_of_ble_eq_true rfl) rfl ?_
    refine m_no (k0 := 1) (by decide) (by decide) ?_
    refine r_ret dX11_copy_21 rfl (kb _ 1 (by decide) ?_)
    unfold gCopy
    rw [if_pos (by omega)]
