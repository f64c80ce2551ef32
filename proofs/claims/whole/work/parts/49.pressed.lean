def gPrs (c : tC) (L : tL) (s i n : Int) : List (Int × Int) := fPl (fun k => eT L s.toNat (i.toNat + k)) (c 50 0 0 - n) n.toNat
def gPressed (c : tC) (L : tL) (p s i n : Int) : gA := if ¬ isPe (c 50 0) p then (-1, 1) else if ¬ fBar (c 51) s = 0 then (fBar (c 51) s, (-(fBar (c 51) s)).toNat) else if n < 0 then (-4, 4) else if ¬ (0 ≤ i ∧ i + n ≤ c 51 46 s.toNat) then (-5, 5) else if c 50 0 0 < n then (-6, 6) else if 60 < c 50 0 3 + ((gPrs c L s i n).length : Nat) then (-7, 7) else (c 50 0 3 + ((gPrs c L s i n).length : Nat), 0)
theorem x_pressed {z : xZ} {d : Nat} {Q : tQ} {c : tC} {L : tL} {n9 : Nat} {p s i n : Int} (hR : RX c) (hS : SH c L) (h9 : c 50 0 9 = (n9 : Int)) (hp : inR p) (hs : inR s) (hi : inR i) (hn : inR n) (kb : ∀ r w, w ≠ 0 → (r, w) = gPressed c L p s i n → Q (some (.int (iI r))) (xRe c w) L) (k : ∀ r c2, DI c c2 n9 (c 50 0 3) p (c 51 14 p.toNat) (gPrs c L s i n) → (r, 0) = gPressed c L p s i n → Q (some (.int (iI r))) c2 L) : En z (d + 20) MX10_pressed Q 0 [some (.ref (xad z 0 0)), some (.int (iI p)), some (.int (iI s)), some (.int (iI i)), some (.int (iI n)), none, none] [] c L := by
  have p1 := hp.1
  have p2 := hp.2
  have s1 := hs.1
  have s2 := hs.2
  have i1 := hi.1
  have i2 := hi.2
  have n1 := hn.1
  have n2 := hn.2
  have hg := R0_rng hR
  have hc := R0_scal hR
  have hb := fBar_rng (c 51) s
  refine r_aloadN 1 dX10_pressed_0 rfl rfl ?_
  refine r_getq 4 dX10_pressed_1 rfl fX10_26 (by decide) (sh_0 z _) rfl ?_
  refine r_iloadN 5 dX10_pressed_4 rfl rfl ?_
  refine r_cv1 8 dX10_pressed_5 rfl gX10_149 rfl (by decide) (sh_8 z _) rfl rfl (Nat.le_of_ble_eq_true rfl) (Nat.le_of_ble_eq_true rfl) rfl ?_
  refine x_isPerson hR (by assumption) (fun y5 => ?_) (fun y5 => ?_)
  · refine r_ifneT 17 0 dX10_pressed_8 (by decide) (by decide) (by decide) ?_
    refine r_aloadN 18 dX10_pressed_17 rfl rfl ?_
    refine r_iloadN 19 dX10_pressed_18 rfl rfl ?_
    refine r_cv1 22 dX10_pressed_19 rfl gX10_68 rfl (by decide) (sh_0 z _) rfl rfl (Nat.le_of_ble_eq_true rfl) (Nat.le_of_ble_eq_true rfl) rfl ?_
    refine x_bar (RX_MG hR) hS (by assumption) (fun r19 e19 => ?_)
    refine r_istore5 24 dX10_pressed_22 rfl rfl (by decide) ?_
    refine r_iload 26 dX10_pressed_24 rfl rfl ?_
    refine r_ifeq 36 29 dX10_pressed_26 rfl (by decide) (by omega) (fun h26 => ?_) (fun h26 => ?_)
    · have hz := fBar_0 (A := c 51) (s := s) (by omega)
      obtain ⟨sh, hsh0⟩ := Int.eq_ofNat_of_zero_le (show 0 ≤ s by omega)
      subst hsh0
      rw [Int.toNat_natCast] at hz
      have hi9 := SH_i hS sh (by omega)
      have hi2 := hi9
      unfold SI at hi2
      refine r_aloadN 37 dX10_pressed_36 rfl rfl ?_
      refine r_getq 40 dX10_pressed_37 rfl fX10_11 (by decide) (sh_0 z _) rfl ?_
      refine r_iloadN 41 dX10_pressed_40 rfl rfl ?_
      refine r_aald 42 dX10_pressed_41 (sh) rfl rfl (by decide) (sh_1 z _) rfl (by decide) (by omega) (by omega) ?_
      refine r_astore6 44 dX10_pressed_42 rfl rfl (by decide) ?_
      refine r_iload 46 dX10_pressed_44 rfl rfl ?_
      refine r_ifge 56 49 dX10_pressed_46 rfl (by decide) (by omega) (fun h46 => ?_) (fun h46 => ?_)
      · refine r_aload 58 dX10_pressed_56 rfl rfl ?_
        refine r_iloadN 59 dX10_pressed_58 rfl rfl ?_
        refine r_iload 61 dX10_pressed_59 rfl rfl ?_
        refine r_cv2 64 dX10_pressed_61 rfl gX10_89 rfl (ct_2 (by omega)) (sh_2 z _) rfl rfl (Nat.le_of_ble_eq_true rfl) (Nat.le_of_ble_eq_true rfl) rfl ?_
        refine x_hasElements (s := sh) (by omega) hi9 (by assumption) (by assumption) (fun y61 => ?_) (fun y61 => ?_)
        · refine r_ifneT 74 0 dX10_pressed_64 (by decide) (by decide) (by decide) ?_
          obtain ⟨p0, hp00⟩ := Int.eq_ofNat_of_zero_le (show 0 ≤ p by omega)
          subst hp00
          obtain ⟨i0, hi00⟩ := Int.eq_ofNat_of_zero_le (show 0 ≤ i by omega)
          subst hi00
          obtain ⟨n0, hn00⟩ := Int.eq_ofNat_of_zero_le (show 0 ≤ n by omega)
          subst hn00
          have hfl := fPl_len (fun k => eT L sh (i0 + k)) (c 50 0 0 - (n0 : Int)) n0
          have hgp : gPrs c L (sh : Int) (i0 : Int) (n0 : Int) = fPl (fun k => eT L sh (i0 + k)) (c 50 0 0 - (n0 : Int)) n0 := rfl
          have hSR := SR_of hS (show sh < 8 by omega) (by omega)
          have hpp := R0_per hR p0 (by omega)
          rw [← hgp] at hfl
          refine r_aloadN 75 dX10_pressed_74 rfl rfl ?_
          refine r_getq 78 dX10_pressed_75 rfl fX10_26 (by decide) (sh_0 z _) rfl ?_
          refine r_geti 81 dX10_pressed_78 rfl fX10_192 (by decide) (sh_8 z _) rfl ?_
          rw [hc.1]
          refine r_iload 83 dX10_pressed_81 rfl rfl ?_
          refine r_icge 93 86 dX10_pressed_83 rfl (by decide) (by omega) (by omega) (fun h83 => ?_) (fun h83 => ?_)
          · refine r_aloadN 94 dX10_pressed_93 rfl rfl ?_
            refine r_getq 97 dX10_pressed_94 rfl fX10_26 (by decide) (sh_0 z _) rfl ?_
            refine r_getq 100 dX10_pressed_97 rfl fX10_256 (by decide) (sh_8 z _) rfl ?_
            refine r_geti 103 dX10_pressed_100 rfl fX10_260 (by decide) (sh_16 z _) rfl ?_
            refine r_aload 105 dX10_pressed_103 rfl rfl ?_
            refine r_iloadN 106 dX10_pressed_105 rfl rfl ?_
            refine r_iload 108 dX10_pressed_106 rfl rfl ?_
            refine r_cv2 111 dX10_pressed_108 rfl gX10_269 rfl (ct_2 (by omega)) (sh_2 z _) rfl rfl (Nat.le_of_ble_eq_true rfl) (Nat.le_of_ble_eq_true rfl) rfl ?_
            refine y_countPresses (s := sh) (i0 := i0) (n := n0) hSR (by omega) (fun j => eT_in L sh j) (by omega) (c 8 0 0 - (n0 : Int)) (fun r108 e108 => ?_)
            rw [e108, hc.1]
            refine r_iadd 112 dX10_pressed_111 rfl ?_
            rw [← hgp]
            refine r_bipush 114 dX10_pressed_112 rfl (by decide) ?_
            refine r_icle 124 117 dX10_pressed_114 rfl (by decide) (by omega) (by omega) (fun h114 => ?_) (fun h114 => ?_)
            · refine r_aloadN 125 dX10_pressed_124 rfl rfl ?_
              refine r_getq 128 dX10_pressed_125 rfl fX10_26 (by decide) (sh_0 z _) rfl ?_
              refine r_iloadN 129 dX10_pressed_128 rfl rfl ?_
              refine r_aload 131 dX10_pressed_129 rfl rfl ?_
              refine r_iloadN 132 dX10_pressed_131 rfl rfl ?_
              refine r_iload 134 dX10_pressed_132 rfl rfl ?_
              refine r_cv4 137 dX10_pressed_134 rfl gX10_272 rfl (by decide) (sh_8 z _) rfl rfl (Nat.le_of_ble_eq_true rfl) (Nat.le_of_ble_eq_true rfl) rfl ?_
              refine y_addPresses (s := sh) (i0 := i0) (n := n0) (p := p0) (n9 := n9) (q3 := c 50 0 3) (a := c 51 14 p0) hSR (by omega) (fun j => eT_in L sh j) (by omega) (by omega) hpp.1.1 (by rw [hc.1, ← hgp]; omega) (by rw [hc.1, ← hgp]; omega) (by omega) (by omega) (fun c2 hD => ?_)
              refine r_aloadN 138 dX10_pressed_137 rfl rfl ?_
              refine r_getq 141 dX10_pressed_138 rfl fX10_26 (by decide) (sh_0 z _) rfl ?_
              refine r_getq 144 dX10_pressed_141 rfl fX10_256 (by decide) (sh_8 z _) rfl ?_
              refine r_geti 147 dX10_pressed_144 rfl fX10_260 (by decide) (sh_16 z _) rfl ?_
              rw [hc.1] at hD
              rw [← hgp] at hD
              rw [hD.2.2.1]
              refine r_ret dX10_pressed_147 rfl (k _ c2 hD ?_)
              unfold gPressed
              rw [if_neg (by omega), if_neg (by omega), if_neg (by omega), if_neg (by rw [Int.toNat_natCast]; omega), if_neg (by omega), if_neg (by omega)]
            · refine r_aloadN 118 dX10_pressed_117 rfl rfl ?_
              refine r_bipush 120 dX10_pressed_118 rfl (by decide) ?_
              refine r_cv1 123 dX10_pressed_120 rfl gX10_60 rfl (by decide) (sh_0 z _) rfl rfl (Nat.le_of_ble_eq_true rfl) (Nat.le_of_ble_eq_true rfl) rfl ?_
              refine x_refuse (k0 := 7) (by decide) (by decide) ?_
              refine r_ret dX10_pressed_123 rfl (kb _ 7 (by decide) ?_)
              unfold gPressed
              rw [if_neg (by first | omega | (rw [Int.toNat_natCast]; omega)), if_neg (by first | omega | (rw [Int.toNat_natCast]; omega)), if_neg (by first | omega | (rw [Int.toNat_natCast]; omega)), if_neg (by first | omega | (rw [Int.toNat_natCast]; omega)), if_neg (by first | omega | (rw [Int.toNat_natCast]; omega)), if_pos (by first | omega | (rw [Int.toNat_natCast]; omega))]
          · refine r_aloadN 87 dX10_pressed_86 rfl rfl ?_
            refine r_bipush 89 dX10_pressed_87 rfl (by decide) ?_
            refine r_cv1 92 dX10_pressed_89 rfl gX10_60 rfl (by decide) (sh_0 z _) rfl rfl (Nat.le_of_ble_eq_true rfl) (Nat.le_of_ble_eq_true rfl) rfl ?_
            refine x_refuse (k0 := 6) (by decide) (by decide) ?_
            refine r_ret dX10_pressed_92 rfl (kb _ 6 (by decide) ?_)
            unfold gPressed
            rw [if_neg (by first | omega | (rw [Int.toNat_natCast]; omega)), if_neg (by first | omega | (rw [Int.toNat_natCast]; omega)), if_neg (by first | omega | (rw [Int.toNat_natCast]; omega)), if_neg (by first | omega | (rw [Int.toNat_natCast]; omega)), if_pos (by first | omega | (rw [Int.toNat_natCast]; omega))]
        · refine r_ifneF 67 dX10_pressed_64 rfl 74 (by decide) (by decide) (by decide) ?_
          refine r_aloadN 68 dX10_pressed_67 rfl rfl ?_
          refine r_bipush 70 dX10_pressed_68 rfl (by decide) ?_
          refine r_cv1 73 dX10_pressed_70 rfl gX10_60 rfl (by decide) (sh_0 z _) rfl rfl (Nat.le_of_ble_eq_true rfl) (Nat.le_of_ble_eq_true rfl) rfl ?_
          refine x_refuse (k0 := 5) (by decide) (by decide) ?_
          refine r_ret dX10_pressed_73 rfl (kb _ 5 (by decide) ?_)
          unfold gPressed
          rw [if_neg (by first | omega | (rw [Int.toNat_natCast]; omega)), if_neg (by first | omega | (rw [Int.toNat_natCast]; omega)), if_neg (by first | omega | (rw [Int.toNat_natCast]; omega)), if_pos (by first | omega | (rw [Int.toNat_natCast]; omega))]
      · refine r_aloadN 50 dX10_pressed_49 rfl rfl ?_
        refine r_bipush 52 dX10_pressed_50 rfl (by decide) ?_
        refine r_cv1 55 dX10_pressed_52 rfl gX10_60 rfl (by decide) (sh_0 z _) rfl rfl (Nat.le_of_ble_eq_true rfl) (Nat.le_of_ble_eq_true rfl) rfl ?_
        refine x_refuse (k0 := 4) (by decide) (by decide) ?_
        refine r_ret dX10_pressed_55 rfl (kb _ 4 (by decide) ?_)
        unfold gPressed
        rw [if_neg (by first | omega | (rw [Int.toNat_natCast]; omega)), if_neg (by first | omega | (rw [Int.toNat_natCast]; omega)), if_pos (by first | omega | (rw [Int.toNat_natCast]; omega))]
    · refine r_aloadN 30 dX10_pressed_29 rfl rfl ?_
      refine r_iload 32 dX10_pressed_30 rfl rfl ?_
      refine r_cv1 35 dX10_pressed_32 rfl gX10_60 rfl (by decide) (sh_0 z _) rfl rfl (Nat.le_of_ble_eq_true rfl) (Nat.le_of_ble_eq_true rfl) rfl ?_
      refine x_refuse (k0 := (-(fBar (c 51) s)).toNat) (by omega) (by omega) ?_
      refine r_ret dX10_pressed_35 rfl (kb _ (-(fBar (c 51) s)).toNat (fBar_n (by omega)) ?_)
      unfold gPressed
      rw [if_neg (by omega), if_pos (by omega), e19]
  · refine r_ifneF 11 dX10_pressed_8 rfl 17 (by decide) (by decide) (by decide) ?_
    refine r_aloadN 12 dX10_pressed_11 rfl rfl ?_
    refine r_iconst 13 dX10_pressed_12 rfl ?_
    refine r_cv1 16 dX10_pressed_13 rfl gX10_60 rfl (by decide) (sh_0 z _) rfl rfl (Nat.le_of_ble_eq_true rfl) (Nat.le_of_ble_eq_true rfl) rfl ?_
    refine x_refuse (k0 := 1) (by decide) (by decide) ?_
    refine r_ret dX10_pressed_16 rfl (kb _ 1 (by decide) ?_)
    unfold gPressed
    rw [if_pos (by first | omega | (rw [Int.toNat_natCast]; omega))]
theorem m_wants {z : xZ} {d : Nat} {Q : tQ} {c : tC} {L : tL} {s : Int} (hg : MG c) (hS : SH c L) (hs : inR s) (k : ∀ r, r = fBar (c 51) s → Q (some (.int (iI r))) c L) : En z (d + 4) MX11_wants Q 0 [some (.ref (xad z 50 0)), some (.int (iI s))] [] c L := by
  have hs1 := hs.1
  have hs2 := hs.2
  refine r_aloadN 1 dX11_wants_0 rfl rfl ?_
  refine r_iloadN 2 dX11_wants_1 rfl rfl ?_
  refine r_cv1 5 dX11_wants_2 rfl gX11_181 rfl (by decide) (sh_50 z _) rfl rfl (Nat.le_of_ble_eq_true rfl) (Nat.le_of_ble_eq_true rfl) rfl ?_
  refine m_isShelf (by assumption) (fun y2 => ?_) (fun y2 => ?_)
  · refine r_ifneT 12 0 dX11_wants_5 (by decide) (by decide) (by decide) ?_
    obtain ⟨sh, hsh0⟩ := Int.eq_ofNat_of_zero_le (show 0 ≤ s by omega)
    subst hsh0
    have hi9 := SH_i hS sh (by omega)
    unfold SI at hi9
    refine r_aloadN 13 dX11_wants_12 rfl rfl ?_
    refine r_getq 16 dX11_wants_13 rfl fX11_119 (by decide) (sh_50 z _) rfl ?_
    refine r_iloadN 17 dX11_wants_16 rfl rfl ?_
    refine r_iald (n := 8) 18 dX11_wants_17 (sh) rfl rfl (by decide) (sh_51 z _) (by decide) (by omega) (by omega) ?_
    refine r_iconst 19 dX11_wants_18 rfl ?_
    refine r_icne 27 22 dX11_wants_19 rfl (by decide) (by omega) (by omega) (fun h19 => ?_) (fun h19 => ?_)
    · refine r_aloadN 28 dX11_wants_27 rfl rfl ?_
      refine r_getq 31 dX11_wants_28 rfl fX11_119 (by decide) (sh_50 z _) rfl ?_
      refine r_iloadN 32 dX11_wants_31 rfl rfl ?_
      refine r_iald (n := 8) 33 dX11_wants_32 (sh) rfl rfl (by decide) (sh_51 z _) (by decide) (by omega) (by omega) ?_
      refine r_ifne 41 36 dX11_wants_33 rfl (by decide) (by omega) (fun h33 => ?_) (fun h33 => ?_)
      · refine r_iconst 42 dX11_wants_41 rfl ?_
        refine r_ret dX11_wants_42 rfl (k _ ?_)
        unfold fBar
        first
          | (rw [if_pos (by omega)]; done)
          | (rw [if_neg (by omega), Int.toNat_natCast, if_pos (by omega)]; done)
          | (rw [if_neg (by omega), Int.toNat_natCast, if_neg (by omega), if_pos (by omega)]; done)
          | (rw [if_neg (by omega), Int.toNat_natCast, if_neg (by omega), if_neg (by omega)]; done)
      · refine r_bipush 38 dX11_wants_36 rfl (by decide) ?_
        refine r_goto 42 dX11_wants_38 (by decide) ?_
        refine r_ret dX11_wants_42 rfl (k _ ?_)
        unfold fBar
        first
          | (rw [if_pos (by omega)]; done)
          | (rw [if_neg (by omega), Int.toNat_natCast, if_pos (by omega)]; done)
          | (rw [if_neg (by omega), Int.toNat_natCast, if_neg (by omega), if_pos (by omega)]; done)
          | (rw [if_neg (by omega), Int.toNat_natCast, if_neg (by omega), if_neg (by omega)]; done)
    · refine r_bipush 24 dX11_wants_22 rfl (by decide) ?_
      refine r_goto 42 dX11_wants_24 (by decide) ?_
      refine r_ret dX11_wants_42 rfl (k _ ?_)
      unfold fBar
      first
        | (rw [if_pos (by omega)]; done)
        | (rw [if_neg (by omega), Int.toNat_natCast, if_pos (by omega)]; done)
        | (rw [if_neg (by omega), Int.toNat_natCast, if_neg (by omega), if_pos (by omega)]; done)
        | (rw [if_neg (by omega), Int.toNat_natCast, if_neg (by omega), if_neg (by omega)]; done)
  · refine r_ifneF 8 dX11_wants_5 rfl 12 (by decide) (by decide) (by decide) ?_
    refine r_iconst 9 dX11_wants_8 rfl ?_
    refine r_goto 42 dX11_wants_9 (by decide) ?_
    refine r_ret dX11_wants_42 rfl (k _ ?_)
    unfold fBar
    first
      | (rw [if_pos (by omega)]; done)
      | (rw [if_neg (by omega), Int.toNat_natCast, if_pos (by omega)]; done)
      | (rw [if_neg (by omega), Int.toNat_natCast, if_neg (by omega), if_pos (by omega)]; done)
      | (rw [if_neg (by omega), Int.toNat_natCast, if_neg (by omega), if_neg (by omega)]; done)
theorem m_intAt {z : xZ} {d : Nat} {Q : tQ} {c : tC} {L : tL} {s v : Nat} (hs : s < 8) (hv : v < 60) (k : Q (some (.int (iI (eT L s v)))) c L) : En z (d + 1) MX11_intAt Q 0 [some (.ref (xad z 50 0)), some (.int (iI (s : Int))), some (.int (iI (v : Int)))] [] c L := by
  refine r_aloadN 1 dX11_intAt_0 rfl rfl ?_
  refine r_getq 4 dX11_intAt_1 rfl fX11_131 (by decide) (sh_50 z _) rfl ?_
  refine r_bipush 6 dX11_intAt_4 rfl (by decide) ?_
  refine r_iloadN 7 dX11_intAt_6 rfl rfl ?_
  refine r_imul 8 dX11_intAt_7 rfl ?_
  refine r_iloadN 9 dX11_intAt_8 rfl rfl ?_
  refine r_iadd 10 dX11_intAt_9 rfl ?_
  rw [show (60 * (s : Int) + (v : Int)) = ((60 * s + v : Nat) : Int) by omega]
  refine r_lald (n := 480) 11 dX11_intAt_10 (60 * s + v) rfl rfl (by decide) (sh_52 z _) (by decide) (by omega) (by omega) ?_
  refine r_l2iR 12 dX11_intAt_11 rfl ?_
  exact r_ret dX11_intAt_12 rfl k
theorem m_cntp_loop {z : xZ} {d : Nat} {Q : tQ} {c : tC} {L : tL} {s i0 n p : Nat} {b5 : Int} (hs : s < 8) (hn : i0 + n ≤ 60) (kk : ∀ m v7, m = (((fPl (fun k => eT L s (i0 + k)) (c 50 0 0 - (n : Int)) n).length : Nat) : Int) → En z (d + 2) MX11_pressed_ Q 132 [some (.ref (xad z 50 0)), some (.int (iI (p : Int))), some (.int (iI (s : Int))), some (.int (iI (i0 : Int))), some (.int (iI (n : Int))), some (.int (iI b5)), some (.int (iI m)), v7] [] c L) : ∀ (k i : Nat) (m : Int), i + k = n → m = (((fPl (fun k => eT L s (i0 + k)) (c 50 0 0 - (n : Int)) i).length : Nat) : Int) → En z (d + 2) MX11_pressed_ Q 91 [some (.ref (xad z 50 0)), some (.int (iI (p : Int))), some (.int (iI (s : Int))), some (.int (iI (i0 : Int))), some (.int (iI (n : Int))), some (.int (iI b5)), some (.int (iI m)), some (.int (iI (i : Int)))] [] c L := by
  intro k
  induction k with
  | zero =>
    intro i m hi hm
    refine r_iload 93 dX11_pressed__91 rfl rfl ?_
    refine r_iload 95 dX11_pressed__93 rfl rfl ?_
    refine r_icge 132 98 dX11_pressed__95 rfl (by decide) (by omega) (by omega) (fun h95 => ?_) (fun h95 => ?_)
    · exact kk _ _ (by rw [hm, show i = n by omega])
    · exfalso; omega
  | succ k ih =>
    intro i m hi hm
    have hfl := fPl_len (fun k => eT L s (i0 + k)) (c 50 0 0 - (n : Int)) i
    have hT1 := (eT_in L s (i0 + i)).1
    have hT2 := (eT_in L s (i0 + i)).2
    refine r_iload 93 dX11_pressed__91 rfl rfl ?_
    refine r_iload 95 dX11_pressed__93 rfl rfl ?_
    refine r_icge 132 98 dX11_pressed__95 rfl (by decide) (by omega) (by omega) (fun h95 => ?_) (fun h95 => ?_)
    · exfalso; omega
    · refine r_aloadN 99 dX11_pressed__98 rfl rfl ?_
      refine r_iloadN 100 dX11_pressed__99 rfl rfl ?_
      refine r_iloadN 101 dX11_pressed__100 rfl rfl ?_
      refine r_iload 103 dX11_pressed__101 rfl rfl ?_
      refine r_iadd 104 dX11_pressed__103 rfl ?_
      rw [show ((i0 : Int) + (i : Int)) = ((i0 + i : Nat) : Int) by omega]
      refine r_cv2 107 dX11_pressed__104 rfl gX11_313 rfl (by decide) (sh_50 z _) rfl rfl (Nat.le_of_ble_eq_true rfl) (Nat.le_of_ble_eq_true rfl) rfl ?_
      refine m_intAt (s := s) (v := i0 + i) hs (by omega) ?_
      refine r_ifeq 123 110 dX11_pressed__107 rfl (by decide) (by omega) (fun h107 => ?_) (fun h107 => ?_)
      · refine r_iinc6 126 dX11_pressed__123 rfl rfl (by decide) ?_
        refine r_iinc7 129 dX11_pressed__126 rfl rfl (by decide) ?_
        refine r_goto 91 dX11_pressed__129 (by decide) ?_
        refine ih (i + 1) _ (by omega) ?_
        rw [fPl]
        first
          | (rw [if_pos (by show eT L s (i0 + i) = 0 ∨ eT L s (i0 + i) = 1; omega), List.length_append]; simp only [List.length_cons, List.length_nil]; omega)
          | (rw [if_neg (by show ¬ (eT L s (i0 + i) = 0 ∨ eT L s (i0 + i) = 1); omega)]; exact hm)
      · refine r_aloadN 111 dX11_pressed__110 rfl rfl ?_
        refine r_iloadN 112 dX11_pressed__111 rfl rfl ?_
        refine r_iloadN 113 dX11_pressed__112 rfl rfl ?_
        refine r_iload 115 dX11_pressed__113 rfl rfl ?_
        refine r_iadd 116 dX11_pressed__115 rfl ?_
        rw [show ((i0 : Int) + (i : Int)) = ((i0 + i : Nat) : Int) by omega]
        refine r_cv2 119 dX11_pressed__116 rfl gX11_313 rfl (by decide) (sh_50 z _) rfl rfl (Nat.le_of_ble_eq_true rfl) (Nat.le_of_ble_eq_true rfl) rfl ?_
        refine m_intAt (s := s) (v := i0 + i) hs (by omega) ?_
        refine r_iconst 120 dX11_pressed__119 rfl ?_
        refine r_icne 126 123 dX11_pressed__120 rfl (by decide) (by omega) (by omega) (fun h120 => ?_) (fun h120 => ?_)
        · refine r_iinc7 129 dX11_pressed__126 rfl rfl (by decide) ?_
          refine r_goto 91 dX11_pressed__129 (by decide) ?_
          refine ih (i + 1) _ (by omega) ?_
          rw [fPl]
          first
            | (rw [if_pos (by show eT L s (i0 + i) = 0 ∨ eT L s (i0 + i) = 1; omega), List.length_append]; simp only [List.length_cons, List.length_nil]; omega)
            | (rw [if_neg (by show ¬ (eT L s (i0 + i) = 0 ∨ eT L s (i0 + i) = 1); omega)]; exact hm)
        · refine r_iinc6 126 dX11_pressed__123 rfl rfl (by decide) ?_
          refine r_iinc7 129 dX11_pressed__126 rfl rfl (by decide) ?_
          refine r_goto 91 dX11_pressed__129 (by decide) ?_
          refine ih (i + 1) _ (by omega) ?_
          rw [fPl]
          first
            | (rw [if_pos (by show eT L s (i0 + i) = 0 ∨ eT L s (i0 + i) = 1; omega), List.length_append]; simp only [List.length_cons, List.length_nil]; omega)
            | (rw [if_neg (by show ¬ (eT L s (i0 + i) = 0 ∨ eT L s (i0 + i) = 1); omega)]; exact hm)
theorem m_addp_loop {z : xZ} {d : Nat} {Q : tQ} {L : tL} {s i0 n p n3 : Nat} {b5 : Int} {m m9 a : Int} {c0 : tC} (hs : s < 8) (hn : i0 + n ≤ 60) (hp : p < 12) (ha : c0 51 14 p = a) (h3 : n3 + (fPl (fun k => eT L s (i0 + k)) (c0 50 0 0 - (n : Int)) n).length ≤ 60) (kk : ∀ c r, DM c0 c n3 m9 p a (fPl (fun k => eT L s (i0 + k)) (c0 50 0 0 - (n : Int)) n) → r = ((n3 + (fPl (fun k => eT L s (i0 + k)) (c0 50 0 0 - (n : Int)) n).length : Nat) : Int) → Q (some (.int (iI r))) c L) : ∀ (k i : Nat) (c : tC), i + k = n → DM c0 c n3 m9 p a (fPl (fun k => eT L s (i0 + k)) (c0 50 0 0 - (n : Int)) i) → En z (d + 2) MX11_pressed_ Q 154 [some (.ref (xad z 50 0)), some (.int (iI (p : Int))), some (.int (iI (s : Int))), some (.int (iI (i0 : Int))), some (.int (iI (n : Int))), some (.int (iI b5)), some (.int (iI m)), some (.int (iI (i : Int)))] [] c L := by
  intro k
  induction k with
  | zero =>
    intro i c hi hD
    refine r_iload 156 dX11_pressed__154 rfl rfl ?_
    refine r_iload 158 dX11_pressed__156 rfl rfl ?_
    refine r_icge 216 161 dX11_pressed__158 rfl (by decide) (by omega) (by omega) (fun h158 => ?_) (fun h158 => ?_)
    · refine r_aloadN 217 dX11_pressed__216 rfl rfl ?_
      refine r_geti 220 dX11_pressed__217 rfl fX11_303 (by decide) (sh_50 z _) rfl ?_
      have e9 : i = n := by omega
      subst e9
      exact r_ret dX11_pressed__220 rfl (kk _ _ hD hD.2.1)
    · exfalso; omega
  | succ k ih =>
    intro i c hi hD
    have hfl := fPl_len (fun k => eT L s (i0 + k)) (c0 50 0 0 - (n : Int)) i
    have hmo := fPl_mono (fun k => eT L s (i0 + k)) (c0 50 0 0 - (n : Int)) (i + 1) (n - (i + 1))
    rw [show i + 1 + (n - (i + 1)) = n by omega] at hmo
    have hst : eT L s (i0 + i) = 0 ∨ eT L s (i0 + i) = 1 → (fPl (fun k => eT L s (i0 + k)) (c0 50 0 0 - (n : Int)) (i + 1)).length = (fPl (fun k => eT L s (i0 + k)) (c0 50 0 0 - (n : Int)) i).length + 1 := fun y => by
      rw [fPl, if_pos y, List.length_append]
      rfl
    have hca : a = c 51 14 p := by rw [hD.1 51 14 p (by omega) (by omega), ha]
    have hT1 := (eT_in L s (i0 + i)).1
    have hT2 := (eT_in L s (i0 + i)).2
    refine r_iload 156 dX11_pressed__154 rfl rfl ?_
    refine r_iload 158 dX11_pressed__156 rfl rfl ?_
    refine r_icge 216 161 dX11_pressed__158 rfl (by decide) (by omega) (by omega) (fun h158 => ?_) (fun h158 => ?_)
    · exfalso; omega
    · refine r_aloadN 162 dX11_pressed__161 rfl rfl ?_
      refine r_iloadN 163 dX11_pressed__162 rfl rfl ?_
      refine r_iloadN 164 dX11_pressed__163 rfl rfl ?_
      refine r_iload 166 dX11_pressed__164 rfl rfl ?_
      refine r_iadd 167 dX11_pressed__166 rfl ?_
      rw [show ((i0 : Int) + (i : Int)) = ((i0 + i : Nat) : Int) by omega]
      refine r_cv2 170 dX11_pressed__167 rfl gX11_313 rfl (by decide) (sh_50 z _) rfl rfl (Nat.le_of_ble_eq_true rfl) (Nat.le_of_ble_eq_true rfl) rfl ?_
      refine m_intAt (s := s) (v := i0 + i) hs (by omega) ?_
      refine r_ifeq 186 173 dX11_pressed__170 rfl (by decide) (by omega) (fun h170 => ?_) (fun h170 => ?_)
      · refine r_aloadN 187 dX11_pressed__186 rfl rfl ?_
        refine r_iloadN 188 dX11_pressed__187 rfl rfl ?_
        refine r_aloadN 189 dX11_pressed__188 rfl rfl ?_
        refine r_geti 192 dX11_pressed__189 rfl fX11_200 (by decide) (sh_50 z _) rfl ?_
        rw [hD.1 50 0 0 (by omega) (by omega)]
        refine r_iload 194 dX11_pressed__192 rfl rfl ?_
        refine r_isub 195 dX11_pressed__194 rfl ?_
        refine r_iload 197 dX11_pressed__195 rfl rfl ?_
        refine r_iadd 198 dX11_pressed__197 rfl ?_
        refine r_aloadN 199 dX11_pressed__198 rfl rfl ?_
        refine r_iloadN 200 dX11_pressed__199 rfl rfl ?_
        refine r_iloadN 201 dX11_pressed__200 rfl rfl ?_
        refine r_iload 203 dX11_pressed__201 rfl rfl ?_
        refine r_iadd 204 dX11_pressed__203 rfl ?_
        rw [show ((i0 : Int) + (i : Int)) = ((i0 + i : Nat) : Int) by omega]
        refine r_cv2 207 dX11_pressed__204 rfl gX11_313 rfl (by decide) (sh_50 z _) rfl rfl (Nat.le_of_ble_eq_true rfl) (Nat.le_of_ble_eq_true rfl) rfl ?_
        refine m_intAt (s := s) (v := i0 + i) hs (by omega) ?_
        refine r_cv3 210 dX11_pressed__207 rfl gX11_309 rfl (by decide) (sh_50 z _) rfl rfl (Nat.le_of_ble_eq_true rfl) (Nat.le_of_ble_eq_true rfl) rfl ?_
        refine m_pressed0 (n := n3 + (fPl (fun k => eT L s (i0 + k)) (c0 50 0 0 - (n : Int)) i).length) (p := p) (m := m9 + ((fPl (fun k => eT L s (i0 + k)) (c0 50 0 0 - (n : Int)) i).length : Nat)) hD.2.1 (by have := hst (by omega); omega) hp hD.2.2.1 ?_
        refine r_iinc7 213 dX11_pressed__210 rfl rfl (by decide) ?_
        refine r_goto 154 dX11_pressed__213 (by decide) ?_
        refine ih (i + 1) _ (by omega) ?_
        rw [fPl]
        first
          | (rw [if_neg (by show ¬ (eT L s (i0 + i) = 0 ∨ eT L s (i0 + i) = 1); omega)]; exact hD)
          | (rw [if_pos (by show eT L s (i0 + i) = 0 ∨ eT L s (i0 + i) = 1; omega), ← hca]; exact DM_app hD)
      · refine r_aloadN 174 dX11_pressed__173 rfl rfl ?_
        refine r_iloadN 175 dX11_pressed__174 rfl rfl ?_
        refine r_iloadN 176 dX11_pressed__175 rfl rfl ?_
        refine r_iload 178 dX11_pressed__176 rfl rfl ?_
        refine r_iadd 179 dX11_pressed__178 rfl ?_
        rw [show ((i0 : Int) + (i : Int)) = ((i0 + i : Nat) : Int) by omega]
        refine r_cv2 182 dX11_pressed__179 rfl gX11_313 rfl (by decide) (sh_50 z _) rfl rfl (Nat.le_of_ble_eq_true rfl) (Nat.le_of_ble_eq_true rfl) rfl ?_
        refine m_intAt (s := s) (v := i0 + i) hs (by omega) ?_
        refine r_iconst 183 dX11_pressed__182 rfl ?_
        refine r_icne 210 186 dX11_pressed__183 rfl (by decide) (by omega) (by omega) (fun h183 => ?_) (fun h183 => ?_)
        · refine r_iinc7 213 dX11_pressed__210 rfl rfl (by decide) ?_
          refine r_goto 154 dX11_pressed__213 (by decide) ?_
          refine ih (i + 1) _ (by omega) ?_
          rw [fPl]
          first
            | (rw [if_neg (by show ¬ (eT L s (i0 + i) = 0 ∨ eT L s (i0 + i) = 1); omega)]; exact hD)
            | (rw [if_pos (by show eT L s (i0 + i) = 0 ∨ eT L s (i0 + i) = 1; omega), ← hca]; exact DM_app hD)
        · refine r_aloadN 187 dX11_pressed__186 rfl rfl ?_
          refine r_iloadN 188 dX11_pressed__187 rfl rfl ?_
          refine r_aloadN 189 dX11_pressed__188 rfl rfl ?_
          refine r_geti 192 dX11_pressed__189 rfl fX11_200 (by decide) (sh_50 z _) rfl ?_
          rw [hD.1 50 0 0 (by omega) (by omega)]
          refine r_iload 194 dX11_pressed__192 rfl rfl ?_
          refine r_isub 195 dX11_pressed__194 rfl ?_
          refine r_iload 197 dX11_pressed__195 rfl rfl ?_
          refine r_iadd 198 dX11_pressed__197 rfl ?_
          refine r_aloadN 199 dX11_pressed__198 rfl rfl ?_
          refine r_iloadN 200 dX11_pressed__199 rfl rfl ?_
          refine r_iloadN 201 dX11_pressed__200 rfl rfl ?_
          refine r_iload 203 dX11_pressed__201 rfl rfl ?_
          refine r_iadd 204 dX11_pressed__203 rfl ?_
          rw [show ((i0 : Int) + (i : Int)) = ((i0 + i : Nat) : Int) by omega]
          refine r_cv2 207 dX11_pressed__204 rfl gX11_313 rfl (by decide) (sh_50 z _) rfl rfl (Nat.le_of_ble_eq_true rfl) (Nat.le_of_ble_eq_true rfl) rfl ?_
          refine m_intAt (s := s) (v := i0 + i) hs (by omega) ?_
          refine r_cv3 210 dX11_pressed__207 rfl gX11_309 rfl (by decide) (sh_50 z _) rfl rfl (Nat.le_of_ble_eq_true rfl) (Nat.le_of_ble_eq_true rfl) rfl ?_
          refine m_pressed0 (n := n3 + (fPl (fun k => eT L s (i0 + k)) (c0 50 0 0 - (n : Int)) i).length) (p := p) (m := m9 + ((fPl (fun k => eT L s (i0 + k)) (c0 50 0 0 - (n : Int)) i).length : Nat)) hD.2.1 (by have := hst (by omega); omega) hp hD.2.2.1 ?_
          refine r_iinc7 213 dX11_pressed__210 rfl rfl (by decide) ?_
          refine r_goto 154 dX11_pressed__213 (by decide) ?_
          refine ih (i + 1) _ (by omega) ?_
          rw [fPl]
          first
            | (rw [if_neg (by show ¬ (eT L s (i0 + i) = 0 ∨ eT L s (i0 + i) = 1); omega)]; exact hD)
            | (rw [if_pos (by show eT L s (i0 + i) = 0 ∨ eT L s (i0 + i) = 1; omega), ← hca]; exact DM_app hD)
theorem m_prs {z : xZ} {d : Nat} {Q : tQ} {c : tC} {L : tL} {n3 : Nat} {m9 : Int} {p s i n : Int} (hg : MG c) (hS : SH c L) (h3 : c 50 0 3 = (n3 : Int)) (h9 : c 50 0 9 = m9) (hp : inR p) (hs : inR s) (hi : inR i) (hn : inR n) (kb : ∀ r w, w ≠ 0 → (r, w) = gPressed c L p s i n → Q (some (.int (iI r))) (mRe c w) L) (k : ∀ r c2, DM c c2 n3 m9 p (c 51 14 p.toNat) (gPrs c L s i n) → (r, 0) = gPressed c L p s i n → Q (some (.int (iI r))) c2 L) : En z (d + 20) MX11_pressed_ Q 0 [some (.ref (xad z 50 0)), some (.int (iI p)), some (.int (iI s)), some (.int (iI i)), some (.int (iI n)), none, none, none] [] c L := by
  have p1 := hp.1
  have p2 := hp.2
  have s1 := hs.1
  have s2 := hs.2
  have i1 := hi.1
  have i2 := hi.2
  have n1 := hn.1
  have n2 := hn.2
  have hg9 := hg
  unfold MG RT_rng at hg9
  have hb := fBar_rng (c 51) s
  refine r_aloadN 1 dX11_pressed__0 rfl rfl ?_
  refine r_iloadN 2 dX11_pressed__1 rfl rfl ?_
  refine r_cv1 5 dX11_pressed__2 rfl gX11_197 rfl (by decide) (sh_50 z _) rfl rfl (Nat.le_of_ble_eq_true rfl) (Nat.le_of_ble_eq_true rfl) rfl ?_
  refine m_isPer hg (by assumption) (fun y2 => ?_) (fun y2 => ?_)
  · refine r_ifneT 14 0 dX11_pressed__5 (by decide) (by decide) (by decide) ?_
    refine r_aloadN 15 dX11_pressed__14 rfl rfl ?_
    refine r_iloadN 16 dX11_pressed__15 rfl rfl ?_
    refine r_cv1 19 dX11_pressed__16 rfl gX11_247 rfl (by decide) (sh_50 z _) rfl rfl (Nat.le_of_ble_eq_true rfl) (Nat.le_of_ble_eq_true rfl) rfl ?_
    refine m_wants hg hS (by assumption) (fun r16 e16 => ?_)
    refine r_istore5 21 dX11_pressed__19 rfl rfl (by decide) ?_
    refine r_iload 23 dX11_pressed__21 rfl rfl ?_
    refine r_ifeq 33 26 dX11_pressed__23 rfl (by decide) (by omega) (fun h23 => ?_) (fun h23 => ?_)
    · have hz := fBar_0 (A := c 51) (s := s) (by omega)
      obtain ⟨sh, hsh0⟩ := Int.eq_ofNat_of_zero_le (show 0 ≤ s by omega)
      subst hsh0
      rw [Int.toNat_natCast] at hz
      have hi9 := SH_i hS sh (by omega)
      have hi2 := hi9
      unfold SI at hi2
      refine r_iload 35 dX11_pressed__33 rfl rfl ?_
      refine r_ifge 45 38 dX11_pressed__35 rfl (by decide) (by omega) (fun h35 => ?_) (fun h35 => ?_)
      · refine r_iloadN 46 dX11_pressed__45 rfl rfl ?_
        refine r_iflt 62 49 dX11_pressed__46 rfl (by decide) (by omega) (fun h46 => ?_) (fun h46 => ?_)
        · refine r_aloadN 63 dX11_pressed__62 rfl rfl ?_
          refine r_bipush 65 dX11_pressed__63 rfl (by decide) ?_
          refine r_cv1 68 dX11_pressed__65 rfl gX11_184 rfl (by decide) (sh_50 z _) rfl rfl (Nat.le_of_ble_eq_true rfl) (Nat.le_of_ble_eq_true rfl) rfl ?_
          refine m_no (k0 := 5) (by decide) (by decide) ?_
          refine r_ret dX11_pressed__68 rfl (kb _ 5 (by decide) ?_)
          unfold gPressed
          rw [if_neg (by first | omega | (rw [Int.toNat_natCast]; omega)), if_neg (by first | omega | (rw [Int.toNat_natCast]; omega)), if_neg (by first | omega | (rw [Int.toNat_natCast]; omega)), if_pos (by first | omega | (rw [Int.toNat_natCast]; omega))]
        · refine r_iloadN 50 dX11_pressed__49 rfl rfl ?_
          refine r_aloadN 51 dX11_pressed__50 rfl rfl ?_
          refine r_getq 54 dX11_pressed__51 rfl fX11_125 (by decide) (sh_50 z _) rfl ?_
          refine r_iloadN 55 dX11_pressed__54 rfl rfl ?_
          refine r_iald (n := 8) 56 dX11_pressed__55 (sh) rfl rfl (by decide) (sh_51 z _) (by decide) (by omega) (by omega) ?_
          refine r_iload 58 dX11_pressed__56 rfl rfl ?_
          refine r_isub 59 dX11_pressed__58 rfl ?_
          refine r_icle 69 62 dX11_pressed__59 rfl (by decide) (by omega) (by omega) (fun h59 => ?_) (fun h59 => ?_)
          · refine r_aloadN 70 dX11_pressed__69 rfl rfl ?_
            refine r_geti 73 dX11_pressed__70 rfl fX11_200 (by decide) (sh_50 z _) rfl ?_
            refine r_iload 75 dX11_pressed__73 rfl rfl ?_
            refine r_icge 85 78 dX11_pressed__75 rfl (by decide) (by omega) (by omega) (fun h75 => ?_) (fun h75 => ?_)
            · obtain ⟨p0, hp00⟩ := Int.eq_ofNat_of_zero_le (show 0 ≤ p by omega)
              subst hp00
              obtain ⟨i0, hi00⟩ := Int.eq_ofNat_of_zero_le (show 0 ≤ i by omega)
              subst hi00
              obtain ⟨n0, hn00⟩ := Int.eq_ofNat_of_zero_le (show 0 ≤ n by omega)
              subst hn00
              have hfl := fPl_len (fun k => eT L sh (i0 + k)) (c 50 0 0 - (n0 : Int)) n0
              have hgp : gPrs c L (sh : Int) (i0 : Int) (n0 : Int) = fPl (fun k => eT L sh (i0 + k)) (c 50 0 0 - (n0 : Int)) n0 := rfl
              rw [← hgp] at hfl
              refine r_iconst 86 dX11_pressed__85 rfl ?_
              refine r_istore6 88 dX11_pressed__86 rfl rfl (by decide) ?_
              refine r_iconst 89 dX11_pressed__88 rfl ?_
              refine r_istore7 91 dX11_pressed__89 rfl rfl (by decide) ?_
              refine m_cntp_loop (s := sh) (i0 := i0) (n := n0) (p := p0) (by omega) (by omega) (fun m v7 hm => ?_) n0 0 _ (by omega) rfl
              rw [← hgp] at hm
              refine r_aloadN 133 dX11_pressed__132 rfl rfl ?_
              refine r_geti 136 dX11_pressed__133 rfl fX11_303 (by decide) (sh_50 z _) rfl ?_
              refine r_iload 138 dX11_pressed__136 rfl rfl ?_
              refine r_iadd 139 dX11_pressed__138 rfl ?_
              refine r_bipush 141 dX11_pressed__139 rfl (by decide) ?_
              refine r_icle 151 144 dX11_pressed__141 rfl (by decide) (by omega) (by omega) (fun h141 => ?_) (fun h141 => ?_)
              · refine r_iconst 152 dX11_pressed__151 rfl ?_
                refine r_istore7 154 dX11_pressed__152 rfl rfl (by decide) ?_
                exact m_addp_loop (s := sh) (i0 := i0) (n := n0) (p := p0) (n3 := n3) (m9 := m9) (c0 := c) (by omega) (by omega) (by omega) rfl (by rw [← hgp]; omega) (fun c2 r hD e => k r c2 hD (by rw [e, ← hgp]; unfold gPressed; rw [if_neg (by omega), if_neg (by omega), if_neg (by omega), if_neg (by rw [Int.toNat_natCast]; omega), if_neg (by omega), if_neg (by omega)]; exact Prod.ext (by show _ = c 50 0 3 + _; omega) rfl)) n0 0 c (by omega) (DM_nil h3 h9)
              · refine r_aloadN 145 dX11_pressed__144 rfl rfl ?_
                refine r_bipush 147 dX11_pressed__145 rfl (by decide) ?_
                refine r_cv1 150 dX11_pressed__147 rfl gX11_184 rfl (by decide) (sh_50 z _) rfl rfl (Nat.le_of_ble_eq_true rfl) (Nat.le_of_ble_eq_true rfl) rfl ?_
                refine m_no (k0 := 7) (by decide) (by decide) ?_
                refine r_ret dX11_pressed__150 rfl (kb _ 7 (by decide) ?_)
                unfold gPressed
                rw [if_neg (by first | omega | (rw [Int.toNat_natCast]; omega)), if_neg (by first | omega | (rw [Int.toNat_natCast]; omega)), if_neg (by first | omega | (rw [Int.toNat_natCast]; omega)), if_neg (by first | omega | (rw [Int.toNat_natCast]; omega)), if_neg (by first | omega | (rw [Int.toNat_natCast]; omega)), if_pos (by first | omega | (rw [Int.toNat_natCast]; omega))]
            · refine r_aloadN 79 dX11_pressed__78 rfl rfl ?_
              refine r_bipush 81 dX11_pressed__79 rfl (by decide) ?_
              refine r_cv1 84 dX11_pressed__81 rfl gX11_184 rfl (by decide) (sh_50 z _) rfl rfl (Nat.le_of_ble_eq_true rfl) (Nat.le_of_ble_eq_true rfl) rfl ?_
              refine m_no (k0 := 6) (by decide) (by decide) ?_
              refine r_ret dX11_pressed__84 rfl (kb _ 6 (by decide) ?_)
              unfold gPressed
              rw [if_neg (by first | omega | (rw [Int.toNat_natCast]; omega)), if_neg (by first | omega | (rw [Int.toNat_natCast]; omega)), if_neg (by first | omega | (rw [Int.toNat_natCast]; omega)), if_neg (by first | omega | (rw [Int.toNat_natCast]; omega)), if_pos (by first | omega | (rw [Int.toNat_natCast]; omega))]
          · refine r_aloadN 63 dX11_pressed__62 rfl rfl ?_
            refine r_bipush 65 dX11_pressed__63 rfl (by decide) ?_
            refine r_cv1 68 dX11_pressed__65 rfl gX11_184 rfl (by decide) (sh_50 z _) rfl rfl (Nat.le_of_ble_eq_true rfl) (Nat.le_of_ble_eq_true rfl) rfl ?_
            refine m_no (k0 := 5) (by decide) (by decide) ?_
            refine r_ret dX11_pressed__68 rfl (kb _ 5 (by decide) ?_)
            unfold gPressed
            rw [if_neg (by first | omega | (rw [Int.toNat_natCast]; omega)), if_neg (by first | omega | (rw [Int.toNat_natCast]; omega)), if_neg (by first | omega | (rw [Int.toNat_natCast]; omega)), if_pos (by first | omega | (rw [Int.toNat_natCast]; omega))]
      · refine r_aloadN 39 dX11_pressed__38 rfl rfl ?_
        refine r_bipush 41 dX11_pressed__39 rfl (by decide) ?_
        refine r_cv1 44 dX11_pressed__41 rfl gX11_184 rfl (by decide) (sh_50 z _) rfl rfl (Nat.le_of_ble_eq_true rfl) (Nat.le_of_ble_eq_true rfl) rfl ?_
        refine m_no (k0 := 4) (by decide) (by decide) ?_
        refine r_ret dX11_pressed__44 rfl (kb _ 4 (by decide) ?_)
        unfold gPressed
        rw [if_neg (by first | omega | (rw [Int.toNat_natCast]; omega)), if_neg (by first | omega | (rw [Int.toNat_natCast]; omega)), if_pos (by first | omega | (rw [Int.toNat_natCast]; omega))]
    · refine r_aloadN 27 dX11_pressed__26 rfl rfl ?_
      refine r_iload 29 dX11_pressed__27 rfl rfl ?_
      refine r_cv1 32 dX11_pressed__29 rfl gX11_184 rfl (by decide) (sh_50 z _) rfl rfl (Nat.le_of_ble_eq_true rfl) (Nat.le_of_ble_eq_true rfl) rfl ?_
      refine m_no (k0 := (-(fBar (c 51) s)).toNat) (by omega) (by omega) ?_
      have hk9 := kb r16 (-(fBar (c 51) s)).toNat (fBar_n (by omega)) (by unfold gPressed; rw [if_neg (by omega), if_pos (by omega), e16])
      rw [mRe, if_neg (fBar_n (by omega))] at hk9
      exact r_ret dX11_pressed__32 rfl hk9
  · refine r_ifneF 8 dX11_pressed__5 rfl 14 (by decide) (by decide) (by decide) ?_
    refine r_aloadN 9 dX11_pressed__8 rfl rfl ?_
    refine r_iconst 10 dX11_pressed__9 rfl ?_
    refine r_cv1 13 dX11_pressed__10 rfl gX11_184 rfl (by decide) (sh_50 z _) rfl rfl (Nat.le_of_ble_eq_true rfl) (Nat.le_of_ble_eq_true rfl) rfl ?_
    refine m_no (k0 := 1) (by decide) (by decide) ?_
    refine r_ret dX11_pressed__13 rfl (kb _ 1 (by decide) ?_)
    unfold gPressed
    rw [if_pos (by first | omega | (rw [Int.toNat_natCast]; omega))]
