theorem fBar_rng (A : sA) (s : Int) : -3 ≤ fBar A s ∧ fBar A s ≤ 0 := by
  unfold fBar
  split
  · omega
  · split
    · omega
    · split <;> omega
theorem fBar_0 {A : sA} {s : Int} (h : fBar A s = 0) : (0 ≤ s ∧ s ≤ 7) ∧ A 44 s.toNat ≠ 2 ∧ A 44 s.toNat ≠ 0 := by
  unfold fBar at h
  split at h
  · omega
  · split at h
    · omega
    · split at h
      · omega
      · refine ⟨by omega, by assumption, by assumption⟩
theorem fBar_n {A : sA} {s : Int} (h : ¬ fBar A s = 0) : ((-(fBar A s)).toNat : Nat) ≠ 0 := by
  have := fBar_rng A s
  omega
def gSet (A : sA) (s i : Int) : gA := if ¬ fBar A s = 0 then (fBar A s, (-(fBar A s)).toNat) else if ¬ (0 ≤ i ∧ i < A 46 s.toNat) then (-5, 5) else (1, 0)
theorem x_put {z : xZ} {d : Nat} {Q : tQ} {c : tC} {L : tL} {s v : Nat} {x : Int64} (hs : s < 8) (hi : SI c s) (h1 : c 51 44 s = 1) (hv : (v : Int) < c 51 46 s) (k : Q none c (Lu L 3 s v (fLow (c 51 45 s) x))) : En z (d + 2) MX7_put Q 0 [some (.ref (xad z 2 s)), some (.int (iI (v : Int))), some (.long x), none] [] c L := by
  have hi2 := hi
  unfold SI at hi2
  refine r_aloadN 1 dX7_put_0 rfl rfl ?_
  refine r_iloadN 2 dX7_put_1 rfl rfl ?_
  refine r_cv1 5 dX7_put_2 rfl gX7_29 rfl (ct_2 (by omega)) (sh_2 z _) rfl rfl (Nat.le_of_ble_eq_true rfl) (Nat.le_of_ble_eq_true rfl) rfl ?_
  refine x_hasElement hs hi (by constructor <;> omega) (fun y2 => ?_) (fun y2 => ?_)
  · refine r_ifeqF 8 dX7_put_5 rfl 19 (by decide) (by decide) (by decide) ?_
    refine r_aloadN 9 dX7_put_8 rfl rfl ?_
    refine r_getq 12 dX7_put_9 rfl fX7_18 (ct_2 (by omega)) (sh_2 z _) rfl ?_
    refine r_iloadN 13 dX7_put_12 rfl rfl ?_
    refine r_aloadN 14 dX7_put_13 rfl rfl ?_
    refine r_lloadN 15 dX7_put_14 rfl rfl ?_
    refine r_cv1 18 dX7_put_15 rfl gX7_37 rfl (ct_2 (by omega)) (sh_2 z _) rfl rfl (Nat.le_of_ble_eq_true rfl) (Nat.le_of_ble_eq_true rfl) rfl ?_
    refine x_low (o := c 51 45 s) hs (by omega) (by omega) (fun r15 e15 => ?_)
    refine r_last 19 dX7_put_18 (v) rfl rfl (ct_3 (by omega)) (sh_3 z _) (by decide) (by omega) (by omega) ?_
    first
      | (exfalso; omega)
      | (subst e15; exact r_vret dX7_put_19 rfl k)
  · refine r_ifeqT 19 0 dX7_put_5 (by decide) (by decide) (by decide) ?_
    first
      | (exfalso; omega)
      | (subst e15; exact r_vret dX7_put_19 rfl k)
theorem x_set {z : xZ} {d : Nat} {Q : tQ} {c : tC} {L : tL} {s i : Int} {x : Int64} (hg : MG c) (hS : SH c L) (hs : inR s) (hi0 : inR i) (kb : ∀ r w, w ≠ 0 → (r, w) = gSet (c 51) s i → Q (some (.int (iI r))) (xRe c w) L) (k : ∀ r, (r, 0) = gSet (c 51) s i → Q (some (.int (iI r))) (c) (Lu L 3 s.toNat i.toNat (fLow (c 51 45 s.toNat) x))) : En z (d + 20) MX10_set Q 0 [some (.ref (xad z 0 0)), some (.int (iI s)), some (.int (iI i)), some (.long x), none, none] [] c L := by
  have hs1 := hs.1
  have hs2 := hs.2
  have hv1 := hi0.1
  have hv2 := hi0.2
  have hb := fBar_rng (c 51) s
  refine r_aloadN 1 dX10_set_0 rfl rfl ?_
  refine r_iloadN 2 dX10_set_1 rfl rfl ?_
  refine r_cv1 5 dX10_set_2 rfl gX10_68 rfl (by decide) (sh_0 z _) rfl rfl (Nat.le_of_ble_eq_true rfl) (Nat.le_of_ble_eq_true rfl) rfl ?_
  refine x_bar hg hS (by assumption) (fun r2 e2 => ?_)
  refine r_istore5 7 dX10_set_5 rfl rfl (by decide) ?_
  refine r_iload 9 dX10_set_7 rfl rfl ?_
  refine r_ifeq 19 12 dX10_set_9 rfl (by decide) (by omega) (fun h9 => ?_) (fun h9 => ?_)
  · have hz := fBar_0 (A := c 51) (s := s) (by omega)
    obtain ⟨sh, hsh0⟩ := Int.eq_ofNat_of_zero_le (show 0 ≤ s by omega)
    subst hsh0
    rw [Int.toNat_natCast] at hz
    have hi := SH_i hS sh (by omega)
    have hi2 := hi
    unfold SI at hi2
    refine r_aloadN 20 dX10_set_19 rfl rfl ?_
    refine r_getq 23 dX10_set_20 rfl fX10_11 (by decide) (sh_0 z _) rfl ?_
    refine r_iloadN 24 dX10_set_23 rfl rfl ?_
    refine r_aald 25 dX10_set_24 (sh) rfl rfl (by decide) (sh_1 z _) rfl (by decide) (by omega) (by omega) ?_
    refine r_iloadN 26 dX10_set_25 rfl rfl ?_
    refine r_cv1 29 dX10_set_26 rfl gX10_71 rfl (ct_2 (by omega)) (sh_2 z _) rfl rfl (Nat.le_of_ble_eq_true rfl) (Nat.le_of_ble_eq_true rfl) rfl ?_
    refine x_hasElement (s := sh) (by omega) hi (by assumption) (fun y26 => ?_) (fun y26 => ?_)
    · refine r_ifneT 39 0 dX10_set_29 (by decide) (by decide) (by decide) ?_
      obtain ⟨i0, hi00⟩ := Int.eq_ofNat_of_zero_le (show 0 ≤ i by omega)
      subst hi00
      rw [Int.toNat_natCast, Int.toNat_natCast] at k
      refine r_aloadN 40 dX10_set_39 rfl rfl ?_
      refine r_getq 43 dX10_set_40 rfl fX10_11 (by decide) (sh_0 z _) rfl ?_
      refine r_iloadN 44 dX10_set_43 rfl rfl ?_
      refine r_aald 45 dX10_set_44 (sh) rfl rfl (by decide) (sh_1 z _) rfl (by decide) (by omega) (by omega) ?_
      refine r_iloadN 46 dX10_set_45 rfl rfl ?_
      refine r_lloadN 47 dX10_set_46 rfl rfl ?_
      refine r_cv2 50 dX10_set_47 rfl gX10_74 rfl (ct_2 (by omega)) (sh_2 z _) rfl rfl (Nat.le_of_ble_eq_true rfl) (Nat.le_of_ble_eq_true rfl) rfl ?_
      refine x_put (s := sh) (v := i0) (by omega) hi (by omega) (by omega) ?_
      refine r_iconst 51 dX10_set_50 rfl ?_
      refine r_ret dX10_set_51 rfl (k _ ?_)
      unfold gSet
      rw [if_neg (by omega), if_neg (by rw [Int.toNat_natCast]; omega)]
    · refine r_ifneF 32 dX10_set_29 rfl 39 (by decide) (by decide) (by decide) ?_
      refine r_aloadN 33 dX10_set_32 rfl rfl ?_
      refine r_bipush 35 dX10_set_33 rfl (by decide) ?_
      refine r_cv1 38 dX10_set_35 rfl gX10_60 rfl (by decide) (sh_0 z _) rfl rfl (Nat.le_of_ble_eq_true rfl) (Nat.le_of_ble_eq_true rfl) rfl ?_
      refine x_refuse (k0 := 5) (by decide) (by decide) ?_
      refine r_ret dX10_set_38 rfl (kb _ 5 (by decide) ?_)
      unfold gSet
      rw [if_neg (by omega), if_pos (by rw [Int.toNat_natCast]; omega)]
  · refine r_aloadN 13 dX10_set_12 rfl rfl ?_
    refine r_iload 15 dX10_set_13 rfl rfl ?_
    refine r_cv1 18 dX10_set_15 rfl gX10_60 rfl (by decide) (sh_0 z _) rfl rfl (Nat.le_of_ble_eq_true rfl) (Nat.le_of_ble_eq_true rfl) rfl ?_
    refine x_refuse (k0 := (-(fBar (c 51) s)).toNat) (by omega) (by omega) ?_
    refine r_ret dX10_set_18 rfl (kb _ (-(fBar (c 51) s)).toNat (fBar_n (by omega)) ?_)
    unfold gSet
    rw [if_pos (by omega), e2]
theorem m_set {z : xZ} {d : Nat} {Q : tQ} {c : tC} {L : tL} {s i : Int} {x : Int64} (hg : MG c) (hS : ∀ s : Nat, s < 8 → SI c s) (hs : inR s) (hi0 : inR i) (kb : ∀ r w, w ≠ 0 → (r, w) = gSet (c 51) s i → Q (some (.int (iI r))) (mRe c w) L) (k : ∀ r, (r, 0) = gSet (c 51) s i → Q (some (.int (iI r))) (c) (Lu L 52 48 (60 * s.toNat + i.toNat) (fLow (c 51 45 s.toNat) x))) : En z (d + 20) MX11_set Q 0 [some (.ref (xad z 50 0)), some (.int (iI s)), some (.int (iI i)), some (.long x), none] [] c L := by
  have hs1 := hs.1
  have hs2 := hs.2
  have hv1 := hi0.1
  have hv2 := hi0.2
  refine r_aloadN 1 dX11_set_0 rfl rfl ?_
  refine r_iloadN 2 dX11_set_1 rfl rfl ?_
  refine r_cv1 5 dX11_set_2 rfl gX11_181 rfl (by decide) (sh_50 z _) rfl rfl (Nat.le_of_ble_eq_true rfl) (Nat.le_of_ble_eq_true rfl) rfl ?_
  refine m_isShelf (by assumption) (fun y2 => ?_) (fun y2 => ?_)
  · refine r_ifneT 14 0 dX11_set_5 (by decide) (by decide) (by decide) ?_
    have hz : 0 ≤ s ∧ s ≤ 7 := by omega
    obtain ⟨sh, hsh0⟩ := Int.eq_ofNat_of_zero_le (show 0 ≤ s by omega)
    subst hsh0
    have hi := hS sh (by omega)
    unfold SI at hi
    refine r_aloadN 15 dX11_set_14 rfl rfl ?_
    refine r_getq 18 dX11_set_15 rfl fX11_119 (by decide) (sh_50 z _) rfl ?_
    refine r_iloadN 19 dX11_set_18 rfl rfl ?_
    refine r_iald (n := 8) 20 dX11_set_19 (sh) rfl rfl (by decide) (sh_51 z _) (by decide) (by omega) (by omega) ?_
    refine r_iconst 21 dX11_set_20 rfl ?_
    refine r_icne 31 24 dX11_set_21 rfl (by decide) (by omega) (by omega) (fun h21 => ?_) (fun h21 => ?_)
    · refine r_aloadN 32 dX11_set_31 rfl rfl ?_
      refine r_getq 35 dX11_set_32 rfl fX11_119 (by decide) (sh_50 z _) rfl ?_
      refine r_iloadN 36 dX11_set_35 rfl rfl ?_
      refine r_iald (n := 8) 37 dX11_set_36 (sh) rfl rfl (by decide) (sh_51 z _) (by decide) (by omega) (by omega) ?_
      refine r_ifne 47 40 dX11_set_37 rfl (by decide) (by omega) (fun h37 => ?_) (fun h37 => ?_)
      · refine r_iloadN 48 dX11_set_47 rfl rfl ?_
        refine r_iflt 61 51 dX11_set_48 rfl (by decide) (by omega) (fun h48 => ?_) (fun h48 => ?_)
        · refine r_aloadN 62 dX11_set_61 rfl rfl ?_
          refine r_bipush 64 dX11_set_62 rfl (by decide) ?_
          refine r_cv1 67 dX11_set_64 rfl gX11_184 rfl (by decide) (sh_50 z _) rfl rfl (Nat.le_of_ble_eq_true rfl) (Nat.le_of_ble_eq_true rfl) rfl ?_
          refine m_no (k0 := 5) (by decide) (by decide) ?_
          refine r_ret dX11_set_67 rfl (kb _ 5 (by decide) ?_)
          unfold gSet
          have e2 : fBar (c 51) (sh : Int) = 0 := by unfold fBar; rw [if_neg (by omega), Int.toNat_natCast, if_neg (by omega), if_neg (by omega)]
          rw [e2, if_neg (by decide)]
          rw [if_pos (by rw [Int.toNat_natCast]; omega)]
        · refine r_iloadN 52 dX11_set_51 rfl rfl ?_
          refine r_aloadN 53 dX11_set_52 rfl rfl ?_
          refine r_getq 56 dX11_set_53 rfl fX11_125 (by decide) (sh_50 z _) rfl ?_
          refine r_iloadN 57 dX11_set_56 rfl rfl ?_
          refine r_iald (n := 8) 58 dX11_set_57 (sh) rfl rfl (by decide) (sh_51 z _) (by decide) (by omega) (by omega) ?_
          refine r_iclt 68 61 dX11_set_58 rfl (by decide) (by omega) (by omega) (fun h58 => ?_) (fun h58 => ?_)
          · obtain ⟨i0, hi00⟩ := Int.eq_ofNat_of_zero_le (show 0 ≤ i by omega)
            subst hi00
            rw [Int.toNat_natCast, Int.toNat_natCast] at k
            have hk : Q (some (.int (iI 1))) c (Lu L 52 48 (60 * sh + i0) (fLow (c 51 45 sh) x)) := k 1 (by
              unfold gSet
              have e2 : fBar (c 51) (sh : Int) = 0 := by unfold fBar; rw [if_neg (by omega), Int.toNat_natCast, if_neg (by omega), if_neg (by omega)]
              rw [e2, if_neg (by decide), if_neg (by rw [Int.toNat_natCast]; omega)])
            refine r_aloadN 69 dX11_set_68 rfl rfl ?_
            refine r_getq 72 dX11_set_69 rfl fX11_131 (by decide) (sh_50 z _) rfl ?_
            refine r_bipush 74 dX11_set_72 rfl (by decide) ?_
            refine r_iloadN 75 dX11_set_74 rfl rfl ?_
            refine r_imul 76 dX11_set_75 rfl ?_
            refine r_iloadN 77 dX11_set_76 rfl rfl ?_
            refine r_iadd 78 dX11_set_77 rfl ?_
            rw [show (60 * (sh : Int) + (i0 : Int)) = ((60 * sh + i0 : Nat) : Int) by omega]
            refine r_aloadN 79 dX11_set_78 rfl rfl ?_
            refine r_getq 82 dX11_set_79 rfl fX11_122 (by decide) (sh_50 z _) rfl ?_
            refine r_iloadN 83 dX11_set_82 rfl rfl ?_
            refine r_iald (n := 8) 84 dX11_set_83 (sh) rfl rfl (by decide) (sh_51 z _) (by decide) (by omega) (by omega) ?_
            refine r_ifne 94 87 dX11_set_84 rfl (by decide) (by omega) (fun h84 => ?_) (fun h84 => ?_)
            · refine r_aloadN 95 dX11_set_94 rfl rfl ?_
              refine r_getq 98 dX11_set_95 rfl fX11_122 (by decide) (sh_50 z _) rfl ?_
              refine r_iloadN 99 dX11_set_98 rfl rfl ?_
              refine r_iald (n := 8) 100 dX11_set_99 (sh) rfl rfl (by decide) (sh_51 z _) (by decide) (by omega) (by omega) ?_
              refine r_iconst 101 dX11_set_100 rfl ?_
              refine r_icne 111 104 dX11_set_101 rfl (by decide) (by omega) (by omega) (fun h101 => ?_) (fun h101 => ?_)
              · refine r_aloadN 112 dX11_set_111 rfl rfl ?_
                refine r_getq 115 dX11_set_112 rfl fX11_122 (by decide) (sh_50 z _) rfl ?_
                refine r_iloadN 116 dX11_set_115 rfl rfl ?_
                refine r_iald (n := 8) 117 dX11_set_116 (sh) rfl rfl (by decide) (sh_51 z _) (by decide) (by omega) (by omega) ?_
                refine r_iconst 118 dX11_set_117 rfl ?_
                refine r_icne 127 121 dX11_set_118 rfl (by decide) (by omega) (by omega) (fun h118 => ?_) (fun h118 => ?_)
                · rw [show fLow (c 51 45 sh) x = x by unfold fLow; rw [if_neg (by omega), if_neg (by omega), if_neg (by omega)]] at hk
                  refine r_lloadN 128 dX11_set_127 rfl rfl ?_
                  refine r_last (n := 480) 129 dX11_set_128 (60 * sh + i0) rfl rfl (by decide) (sh_52 z _) (by decide) (by omega) (by omega) ?_
                  refine r_iconst 130 dX11_set_129 rfl ?_
                  exact r_ret dX11_set_130 rfl hk
                · refine r_lloadN 122 dX11_set_121 rfl rfl ?_
                  refine r_l2iX 123 dX11_set_122 rfl ?_
                  refine r_i2lR 124 dX11_set_123 rfl ?_
                  rw [show fLow (c 51 45 sh) x = x.toInt32.toInt64 by unfold fLow; rw [if_neg (by omega), if_neg (by omega), if_pos (by omega)]] at hk
                  refine r_goto 128 dX11_set_124 (by decide) ?_
                  refine r_last (n := 480) 129 dX11_set_128 (60 * sh + i0) rfl rfl (by decide) (sh_52 z _) (by decide) (by omega) (by omega) ?_
                  refine r_iconst 130 dX11_set_129 rfl ?_
                  exact r_ret dX11_set_130 rfl hk
              · refine r_lloadN 105 dX11_set_104 rfl rfl ?_
                refine r_l2iX 106 dX11_set_105 rfl ?_
                refine r_i2s 107 dX11_set_106 rfl ?_
                refine r_i2lR 108 dX11_set_107 rfl ?_
                rw [show fLow (c 51 45 sh) x = x.toInt32.toInt16.toInt32.toInt64 by unfold fLow; rw [if_neg (by omega), if_pos (by omega)]] at hk
                refine r_goto 128 dX11_set_108 (by decide) ?_
                refine r_last (n := 480) 129 dX11_set_128 (60 * sh + i0) rfl rfl (by decide) (sh_52 z _) (by decide) (by omega) (by omega) ?_
                refine r_iconst 130 dX11_set_129 rfl ?_
                exact r_ret dX11_set_130 rfl hk
            · refine r_lloadN 88 dX11_set_87 rfl rfl ?_
              refine r_l2iX 89 dX11_set_88 rfl ?_
              refine r_i2b 90 dX11_set_89 rfl ?_
              refine r_i2lR 91 dX11_set_90 rfl ?_
              rw [show fLow (c 51 45 sh) x = x.toInt32.toInt8.toInt32.toInt64 by unfold fLow; rw [if_pos (by omega)]] at hk
              refine r_goto 128 dX11_set_91 (by decide) ?_
              refine r_last (n := 480) 129 dX11_set_128 (60 * sh + i0) rfl rfl (by decide) (sh_52 z _) (by decide) (by omega) (by omega) ?_
              refine r_iconst 130 dX11_set_129 rfl ?_
              exact r_ret dX11_set_130 rfl hk
          · refine r_aloadN 62 dX11_set_61 rfl rfl ?_
            refine r_bipush 64 dX11_set_62 rfl (by decide) ?_
            refine r_cv1 67 dX11_set_64 rfl gX11_184 rfl (by decide) (sh_50 z _) rfl rfl (Nat.le_of_ble_eq_true rfl) (Nat.le_of_ble_eq_true rfl) rfl ?_
            refine m_no (k0 := 5) (by decide) (by decide) ?_
            refine r_ret dX11_set_67 rfl (kb _ 5 (by decide) ?_)
            unfold gSet
            have e2 : fBar (c 51) (sh : Int) = 0 := by unfold fBar; rw [if_neg (by omega), Int.toNat_natCast, if_neg (by omega), if_neg (by omega)]
            rw [e2, if_neg (by decide)]
            rw [if_pos (by rw [Int.toNat_natCast]; omega)]
      · refine r_aloadN 41 dX11_set_40 rfl rfl ?_
        refine r_bipush 43 dX11_set_41 rfl (by decide) ?_
        refine r_cv1 46 dX11_set_43 rfl gX11_184 rfl (by decide) (sh_50 z _) rfl rfl (Nat.le_of_ble_eq_true rfl) (Nat.le_of_ble_eq_true rfl) rfl ?_
        refine m_no (k0 := 3) (by decide) (by decide) ?_
        refine r_ret dX11_set_46 rfl (kb _ 3 (by decide) ?_)
        unfold gSet
        have e2 : fBar (c 51) (sh : Int) = -3 := by unfold fBar; rw [if_neg (by omega), Int.toNat_natCast, if_neg (by omega), if_pos (by omega)]
        rw [e2]
        rfl
    · refine r_aloadN 25 dX11_set_24 rfl rfl ?_
      refine r_bipush 27 dX11_set_25 rfl (by decide) ?_
      refine r_cv1 30 dX11_set_27 rfl gX11_184 rfl (by decide) (sh_50 z _) rfl rfl (Nat.le_of_ble_eq_true rfl) (Nat.le_of_ble_eq_true rfl) rfl ?_
      refine m_no (k0 := 2) (by decide) (by decide) ?_
      refine r_ret dX11_set_30 rfl (kb _ 2 (by decide) ?_)
      unfold gSet
      have e2 : fBar (c 51) (sh : Int) = -2 := by unfold fBar; rw [if_neg (by omega), Int.toNat_natCast, if_pos (by omega)]
      rw [e2]
      rfl
  · refine r_ifneF 8 dX11_set_5 rfl 14 (by decide) (by decide) (by decide) ?_
    refine r_aloadN 9 dX11_set_8 rfl rfl ?_
    refine r_iconst 10 dX11_set_9 rfl ?_
    refine r_cv1 13 dX11_set_10 rfl gX11_184 rfl (by decide) (sh_50 z _) rfl rfl (Nat.le_of_ble_eq_true rfl) (Nat.le_of_ble_eq_true rfl) rfl ?_
    refine m_no (k0 := 1) (by decide) (by decide) ?_
    refine r_ret dX11_set_13 rfl (kb _ 1 (by decide) ?_)
    unfold gSet
    rw [if_pos (by unfold fBar; rw [if_pos (by omega)]; decide)]
    unfold fBar
    rw [if_pos (by omega)]
    rfl
