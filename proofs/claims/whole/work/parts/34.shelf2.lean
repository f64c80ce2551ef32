theorem x_becomeEmpty {z : xZ} {d : Nat} {Q : tQ} {c : tC} {L : tL} {s : Nat} (hs : s < 8) (k : Q none (cu (cu c 2 s 0 (-1)) 2 s 1 0) L) : En z (d + 1) MX7_becomeEmpty Q 0 [some (.ref (xad z 2 s))] [] c L := by
  refine r_aloadN 1 dX7_becomeEmpty_0 rfl rfl ?_
  refine r_iconst 2 dX7_becomeEmpty_1 rfl ?_
  refine r_puti 5 dX7_becomeEmpty_2 rfl pX7_9 (ct_2 (by omega)) (sh_2 z _) rfl ?_
  refine r_aloadN 6 dX7_becomeEmpty_5 rfl rfl ?_
  refine r_iconst 7 dX7_becomeEmpty_6 rfl ?_
  refine r_puti 10 dX7_becomeEmpty_7 rfl pX7_15 (ct_2 (by omega)) (sh_2 z _) rfl ?_
  exact r_vret dX7_becomeEmpty_10 rfl k
theorem x_takeSource {z : xZ} {d : Nat} {Q : tQ} {c : tC} {L : tL} {s : Nat} {v : Int} (hs : s < 8) (k : Q none (cu (cu c 2 s 0 v) 2 s 1 0) L) : En z (d + 1) MX7_takeSource Q 0 [some (.ref (xad z 2 s)), some (.int (iI v))] [] c L := by
  refine r_aloadN 1 dX7_takeSource_0 rfl rfl ?_
  refine r_iloadN 2 dX7_takeSource_1 rfl rfl ?_
  refine r_puti 5 dX7_takeSource_2 rfl pX7_9 (ct_2 (by omega)) (sh_2 z _) rfl ?_
  refine r_aloadN 6 dX7_takeSource_5 rfl rfl ?_
  refine r_iconst 7 dX7_takeSource_6 rfl ?_
  refine r_puti 10 dX7_takeSource_7 rfl pX7_15 (ct_2 (by omega)) (sh_2 z _) rfl ?_
  exact r_vret dX7_takeSource_10 rfl k
theorem x_show {z : xZ} {d : Nat} {Q : tQ} {c : tC} {L : tL} {n : Nat} {s v : Int}  (hR : RX c) (hn : c 50 0 2 = (n : Int)) (hs : inR s) (hv : inR v)  (kb : ∀ r w, w ≠ 0 → (r, w) = gShow (c 50 0) s v → Q (some (.int (iI r))) (xRe c w) L) (k : ∀ r, (r, 0) = gShow (c 50 0) s v → Q (some (.int (iI r))) (cu (cu c 2 s.toNat 0 v) 2 s.toNat 1 0) L) : En z (d + 20) MX10_show Q 0 [some (.ref (xad z 0 0)), some (.int (iI s)), some (.int (iI v))] [] c L := by
  have s1 := hs.1
  have s2 := hs.2
  have v1 := hv.1
  have v2 := hv.2
  have hg := R0_rng hR
  have hc := R0_scal hR
  refine r_iloadN 1 dX10_show_0 rfl rfl ?_
  refine r_cs1 4 dX10_show_1 rfl gX10_56 (Nat.le_of_ble_eq_true rfl) (Nat.le_of_ble_eq_true rfl) rfl ?_
  refine x_isShelf (by assumption) (fun y1 => ?_) (fun y1 => ?_)
  · refine r_ifeqF 7 dX10_show_4 rfl 23 (by decide) (by decide) (by decide) ?_
    refine r_iloadN 8 dX10_show_7 rfl rfl ?_
    refine r_iconst 9 dX10_show_8 rfl ?_
    refine r_iceq 29 12 dX10_show_9 rfl (by decide) (by omega) (by omega) (fun h9 => ?_) (fun h9 => ?_)
    · obtain ⟨s0, hs00⟩ := Int.eq_ofNat_of_zero_le (show 0 ≤ s by omega)
      subst hs00
      rw [Int.toNat_natCast] at k
      refine r_iloadN 30 dX10_show_29 rfl rfl ?_
      refine r_iconst 31 dX10_show_30 rfl ?_
      refine r_icne 45 34 dX10_show_31 rfl (by decide) (by omega) (by omega) (fun h31 => ?_) (fun h31 => ?_)
      · refine r_aloadN 46 dX10_show_45 rfl rfl ?_
        refine r_getq 49 dX10_show_46 rfl fX10_11 (by decide) (sh_0 z _) rfl ?_
        refine r_iloadN 50 dX10_show_49 rfl rfl ?_
        refine r_aald 51 dX10_show_50 (s0) rfl rfl (by decide) (sh_1 z _) rfl (by decide) (by omega) (by omega) ?_
        refine r_iloadN 52 dX10_show_51 rfl rfl ?_
        refine r_cv1 55 dX10_show_52 rfl gX10_107 rfl (ct_2 (by omega)) (sh_2 z _) rfl rfl (Nat.le_of_ble_eq_true rfl) (Nat.le_of_ble_eq_true rfl) rfl ?_
        refine x_takeSource (by omega) ?_
        refine r_iconst 56 dX10_show_55 rfl ?_
        refine r_ret dX10_show_56 rfl (k _ ?_)
        unfold gShow
        first
          | (rw [if_neg (by omega), if_pos rfl]; done)
          | (rw [if_neg (by omega), if_neg (by omega)]; done)
      · obtain rfl : v = -1 := by omega
        refine r_aloadN 35 dX10_show_34 rfl rfl ?_
        refine r_getq 38 dX10_show_35 rfl fX10_11 (by decide) (sh_0 z _) rfl ?_
        refine r_iloadN 39 dX10_show_38 rfl rfl ?_
        refine r_aald 40 dX10_show_39 (s0) rfl rfl (by decide) (sh_1 z _) rfl (by decide) (by omega) (by omega) ?_
        refine r_cv0 43 dX10_show_40 rfl gX10_104 rfl (ct_2 (by omega)) (sh_2 z _) rfl rfl (Nat.le_of_ble_eq_true rfl) (Nat.le_of_ble_eq_true rfl) rfl ?_
        refine x_becomeEmpty (by omega) ?_
        refine r_iconst 44 dX10_show_43 rfl ?_
        refine r_ret dX10_show_44 rfl (k _ ?_)
        unfold gShow
        first
          | (rw [if_neg (by omega), if_pos rfl]; done)
          | (rw [if_neg (by omega), if_neg (by omega)]; done)
    · refine r_aloadN 13 dX10_show_12 rfl rfl ?_
      refine r_getq 16 dX10_show_13 rfl fX10_26 (by decide) (sh_0 z _) rfl ?_
      refine r_iloadN 17 dX10_show_16 rfl rfl ?_
      refine r_cv1 20 dX10_show_17 rfl gX10_101 rfl (by decide) (sh_8 z _) rfl rfl (Nat.le_of_ble_eq_true rfl) (Nat.le_of_ble_eq_true rfl) rfl ?_
      refine x_isSource hR (by assumption) (fun y17 => ?_) (fun y17 => ?_)
      · refine r_ifneT 29 0 dX10_show_20 (by decide) (by decide) (by decide) ?_
        obtain ⟨s0, hs00⟩ := Int.eq_ofNat_of_zero_le (show 0 ≤ s by omega)
        subst hs00
        rw [Int.toNat_natCast] at k
        refine r_iloadN 30 dX10_show_29 rfl rfl ?_
        refine r_iconst 31 dX10_show_30 rfl ?_
        refine r_icne 45 34 dX10_show_31 rfl (by decide) (by omega) (by omega) (fun h31 => ?_) (fun h31 => ?_)
        · refine r_aloadN 46 dX10_show_45 rfl rfl ?_
          refine r_getq 49 dX10_show_46 rfl fX10_11 (by decide) (sh_0 z _) rfl ?_
          refine r_iloadN 50 dX10_show_49 rfl rfl ?_
          refine r_aald 51 dX10_show_50 (s0) rfl rfl (by decide) (sh_1 z _) rfl (by decide) (by omega) (by omega) ?_
          refine r_iloadN 52 dX10_show_51 rfl rfl ?_
          refine r_cv1 55 dX10_show_52 rfl gX10_107 rfl (ct_2 (by omega)) (sh_2 z _) rfl rfl (Nat.le_of_ble_eq_true rfl) (Nat.le_of_ble_eq_true rfl) rfl ?_
          refine x_takeSource (by omega) ?_
          refine r_iconst 56 dX10_show_55 rfl ?_
          refine r_ret dX10_show_56 rfl (k _ ?_)
          unfold gShow
          first
            | (rw [if_neg (by omega), if_pos rfl]; done)
            | (rw [if_neg (by omega), if_neg (by omega)]; done)
        · obtain rfl : v = -1 := by omega
          refine r_aloadN 35 dX10_show_34 rfl rfl ?_
          refine r_getq 38 dX10_show_35 rfl fX10_11 (by decide) (sh_0 z _) rfl ?_
          refine r_iloadN 39 dX10_show_38 rfl rfl ?_
          refine r_aald 40 dX10_show_39 (s0) rfl rfl (by decide) (sh_1 z _) rfl (by decide) (by omega) (by omega) ?_
          refine r_cv0 43 dX10_show_40 rfl gX10_104 rfl (ct_2 (by omega)) (sh_2 z _) rfl rfl (Nat.le_of_ble_eq_true rfl) (Nat.le_of_ble_eq_true rfl) rfl ?_
          refine x_becomeEmpty (by omega) ?_
          refine r_iconst 44 dX10_show_43 rfl ?_
          refine r_ret dX10_show_44 rfl (k _ ?_)
          unfold gShow
          first
            | (rw [if_neg (by omega), if_pos rfl]; done)
            | (rw [if_neg (by omega), if_neg (by omega)]; done)
      · refine r_ifneF 23 dX10_show_20 rfl 29 (by decide) (by decide) (by decide) ?_
        refine r_aloadN 24 dX10_show_23 rfl rfl ?_
        refine r_iconst 25 dX10_show_24 rfl ?_
        refine r_cv1 28 dX10_show_25 rfl gX10_60 rfl (by decide) (sh_0 z _) rfl rfl (Nat.le_of_ble_eq_true rfl) (Nat.le_of_ble_eq_true rfl) rfl ?_
        refine x_refuse (k0 := 1) (by decide) (by decide) ?_
        refine r_ret dX10_show_28 rfl (kb _ 1 (by decide) ?_)
        unfold gShow
        rw [if_pos (by omega)]
  · refine r_ifeqT 23 0 dX10_show_4 (by decide) (by decide) (by decide) ?_
    refine r_aloadN 24 dX10_show_23 rfl rfl ?_
    refine r_iconst 25 dX10_show_24 rfl ?_
    refine r_cv1 28 dX10_show_25 rfl gX10_60 rfl (by decide) (sh_0 z _) rfl rfl (Nat.le_of_ble_eq_true rfl) (Nat.le_of_ble_eq_true rfl) rfl ?_
    refine x_refuse (k0 := 1) (by decide) (by decide) ?_
    refine r_ret dX10_show_28 rfl (kb _ 1 (by decide) ?_)
    unfold gShow
    rw [if_pos (by omega)]
theorem m_show {z : xZ} {d : Nat} {Q : tQ} {c : tC} {L : tL} {s v : Int} (hg : MG c) (hs : inR s) (hv : inR v)  (kb : ∀ r w, w ≠ 0 → (r, w) = gShow (c 50 0) s v → Q (some (.int (iI r))) (mRe c w) L) (k : ∀ r, (r, 0) = gShow (c 50 0) s v → Q (some (.int (iI r))) (cu (cu c 51 44 s.toNat (if v = -1 then 0 else 2)) 51 47 s.toNat v) L) : En z (d + 20) MX11_show Q 0 [some (.ref (xad z 50 0)), some (.int (iI s)), some (.int (iI v))] [] c L := by
  have s1 := hs.1
  have s2 := hs.2
  have v1 := hv.1
  have v2 := hv.2
  unfold MG RT_rng at hg
  refine r_aloadN 1 dX11_show_0 rfl rfl ?_
  refine r_iloadN 2 dX11_show_1 rfl rfl ?_
  refine r_cv1 5 dX11_show_2 rfl gX11_181 rfl (by decide) (sh_50 z _) rfl rfl (Nat.le_of_ble_eq_true rfl) (Nat.le_of_ble_eq_true rfl) rfl ?_
  refine m_isShelf (by assumption) (fun y2 => ?_) (fun y2 => ?_)
  · refine r_ifeqF 8 dX11_show_5 rfl 21 (by decide) (by decide) (by decide) ?_
    refine r_iloadN 9 dX11_show_8 rfl rfl ?_
    refine r_iconst 10 dX11_show_9 rfl ?_
    refine r_iceq 27 13 dX11_show_10 rfl (by decide) (by omega) (by omega) (fun h10 => ?_) (fun h10 => ?_)
    · obtain ⟨s0, hs00⟩ := Int.eq_ofNat_of_zero_le (show 0 ≤ s by omega)
      subst hs00
      rw [Int.toNat_natCast] at k
      refine r_aloadN 28 dX11_show_27 rfl rfl ?_
      refine r_getq 31 dX11_show_28 rfl fX11_119 (by decide) (sh_50 z _) rfl ?_
      refine r_iloadN 32 dX11_show_31 rfl rfl ?_
      refine r_iloadN 33 dX11_show_32 rfl rfl ?_
      refine r_iconst 34 dX11_show_33 rfl ?_
      refine r_icne 41 37 dX11_show_34 rfl (by decide) (by omega) (by omega) (fun h34 => ?_) (fun h34 => ?_)
      · refine r_iconst 42 dX11_show_41 rfl ?_
        refine r_iast (n := 8) 43 dX11_show_42 (s0) rfl rfl (by decide) (sh_51 z _) (by decide) (by omega) (by omega) ?_
        refine r_aloadN 44 dX11_show_43 rfl rfl ?_
        refine r_getq 47 dX11_show_44 rfl fX11_128 (by decide) (sh_50 z _) rfl ?_
        refine r_iloadN 48 dX11_show_47 rfl rfl ?_
        refine r_iloadN 49 dX11_show_48 rfl rfl ?_
        refine r_iast (n := 8) 50 dX11_show_49 (s0) rfl rfl (by decide) (sh_51 z _) (by decide) (by omega) (by omega) ?_
        refine r_iloadN 51 dX11_show_50 rfl rfl ?_
        refine r_iconst 52 dX11_show_51 rfl ?_
        refine r_icne 59 55 dX11_show_52 rfl (by decide) (by omega) (by omega) (fun h52 => ?_) (fun h52 => ?_)
        · refine r_iconst 60 dX11_show_59 rfl ?_
          first
            | (exfalso; omega)
            | (rw [if_pos (show v = -1 by omega)] at k; refine r_ret dX11_show_60 rfl (k _ ?_); unfold gShow; rw [if_neg (by omega), if_pos (by omega)])
            | (rw [if_neg (show ¬ v = -1 by omega)] at k; refine r_ret dX11_show_60 rfl (k _ ?_); unfold gShow; rw [if_neg (by omega), if_neg (by omega)])
        · refine r_iconst 56 dX11_show_55 rfl ?_
          refine r_goto 60 dX11_show_56 (by decide) ?_
          first
            | (exfalso; omega)
            | (rw [if_pos (show v = -1 by omega)] at k; refine r_ret dX11_show_60 rfl (k _ ?_); unfold gShow; rw [if_neg (by omega), if_pos (by omega)])
            | (rw [if_neg (show ¬ v = -1 by omega)] at k; refine r_ret dX11_show_60 rfl (k _ ?_); unfold gShow; rw [if_neg (by omega), if_neg (by omega)])
      · refine r_iconst 38 dX11_show_37 rfl ?_
        refine r_goto 42 dX11_show_38 (by decide) ?_
        refine r_iast (n := 8) 43 dX11_show_42 (s0) rfl rfl (by decide) (sh_51 z _) (by decide) (by omega) (by omega) ?_
        refine r_aloadN 44 dX11_show_43 rfl rfl ?_
        refine r_getq 47 dX11_show_44 rfl fX11_128 (by decide) (sh_50 z _) rfl ?_
        refine r_iloadN 48 dX11_show_47 rfl rfl ?_
        refine r_iloadN 49 dX11_show_48 rfl rfl ?_
        refine r_iast (n := 8) 50 dX11_show_49 (s0) rfl rfl (by decide) (sh_51 z _) (by decide) (by omega) (by omega) ?_
        refine r_iloadN 51 dX11_show_50 rfl rfl ?_
        refine r_iconst 52 dX11_show_51 rfl ?_
        refine r_icne 59 55 dX11_show_52 rfl (by decide) (by omega) (by omega) (fun h52 => ?_) (fun h52 => ?_)
        · refine r_iconst 60 dX11_show_59 rfl ?_
          first
            | (exfalso; omega)
            | (rw [if_pos (show v = -1 by omega)] at k; refine r_ret dX11_show_60 rfl (k _ ?_); unfold gShow; rw [if_neg (by omega), if_pos (by omega)])
            | (rw [if_neg (show ¬ v = -1 by omega)] at k; refine r_ret dX11_show_60 rfl (k _ ?_); unfold gShow; rw [if_neg (by omega), if_neg (by omega)])
        · refine r_iconst 56 dX11_show_55 rfl ?_
          refine r_goto 60 dX11_show_56 (by decide) ?_
          first
            | (exfalso; omega)
            | (rw [if_pos (show v = -1 by omega)] at k; refine r_ret dX11_show_60 rfl (k _ ?_); unfold gShow; rw [if_neg (by omega), if_pos (by omega)])
            | (rw [if_neg (show ¬ v = -1 by omega)] at k; refine r_ret dX11_show_60 rfl (k _ ?_); unfold gShow; rw [if_neg (by omega), if_neg (by omega)])
    · refine r_aloadN 14 dX11_show_13 rfl rfl ?_
      refine r_iloadN 15 dX11_show_14 rfl rfl ?_
      refine r_cv1 18 dX11_show_15 rfl gX11_188 rfl (by decide) (sh_50 z _) rfl rfl (Nat.le_of_ble_eq_true rfl) (Nat.le_of_ble_eq_true rfl) rfl ?_
      refine m_isSrc hg (by assumption) (fun y15 => ?_) (fun y15 => ?_)
      · refine r_ifneT 27 0 dX11_show_18 (by decide) (by decide) (by decide) ?_
        obtain ⟨s0, hs00⟩ := Int.eq_ofNat_of_zero_le (show 0 ≤ s by omega)
        subst hs00
        rw [Int.toNat_natCast] at k
        refine r_aloadN 28 dX11_show_27 rfl rfl ?_
        refine r_getq 31 dX11_show_28 rfl fX11_119 (by decide) (sh_50 z _) rfl ?_
        refine r_iloadN 32 dX11_show_31 rfl rfl ?_
        refine r_iloadN 33 dX11_show_32 rfl rfl ?_
        refine r_iconst 34 dX11_show_33 rfl ?_
        refine r_icne 41 37 dX11_show_34 rfl (by decide) (by omega) (by omega) (fun h34 => ?_) (fun h34 => ?_)
        · refine r_iconst 42 dX11_show_41 rfl ?_
          refine r_iast (n := 8) 43 dX11_show_42 (s0) rfl rfl (by decide) (sh_51 z _) (by decide) (by omega) (by omega) ?_
          refine r_aloadN 44 dX11_show_43 rfl rfl ?_
          refine r_getq 47 dX11_show_44 rfl fX11_128 (by decide) (sh_50 z _) rfl ?_
          refine r_iloadN 48 dX11_show_47 rfl rfl ?_
          refine r_iloadN 49 dX11_show_48 rfl rfl ?_
          refine r_iast (n := 8) 50 dX11_show_49 (s0) rfl rfl (by decide) (sh_51 z _) (by decide) (by omega) (by omega) ?_
          refine r_iloadN 51 dX11_show_50 rfl rfl ?_
          refine r_iconst 52 dX11_show_51 rfl ?_
          refine r_icne 59 55 dX11_show_52 rfl (by decide) (by omega) (by omega) (fun h52 => ?_) (fun h52 => ?_)
          · refine r_iconst 60 dX11_show_59 rfl ?_
            first
              | (exfalso; omega)
              | (rw [if_pos (show v = -1 by omega)] at k; refine r_ret dX11_show_60 rfl (k _ ?_); unfold gShow; rw [if_neg (by omega), if_pos (by omega)])
              | (rw [if_neg (show ¬ v = -1 by omega)] at k; refine r_ret dX11_show_60 rfl (k _ ?_); unfold gShow; rw [if_neg (by omega), if_neg (by omega)])
          · refine r_iconst 56 dX11_show_55 rfl ?_
            refine r_goto 60 dX11_show_56 (by decide) ?_
            first
              | (exfalso; omega)
              | (rw [if_pos (show v = -1 by omega)] at k; refine r_ret dX11_show_60 rfl (k _ ?_); unfold gShow; rw [if_neg (by omega), if_pos (by omega)])
              | (rw [if_neg (show ¬ v = -1 by omega)] at k; refine r_ret dX11_show_60 rfl (k _ ?_); unfold gShow; rw [if_neg (by omega), if_neg (by omega)])
        · refine r_iconst 38 dX11_show_37 rfl ?_
          refine r_goto 42 dX11_show_38 (by decide) ?_
          refine r_iast (n := 8) 43 dX11_show_42 (s0) rfl rfl (by decide) (sh_51 z _) (by decide) (by omega) (by omega) ?_
          refine r_aloadN 44 dX11_show_43 rfl rfl ?_
          refine r_getq 47 dX11_show_44 rfl fX11_128 (by decide) (sh_50 z _) rfl ?_
          refine r_iloadN 48 dX11_show_47 rfl rfl ?_
          refine r_iloadN 49 dX11_show_48 rfl rfl ?_
          refine r_iast (n := 8) 50 dX11_show_49 (s0) rfl rfl (by decide) (sh_51 z _) (by decide) (by omega) (by omega) ?_
          refine r_iloadN 51 dX11_show_50 rfl rfl ?_
          refine r_iconst 52 dX11_show_51 rfl ?_
          refine r_icne 59 55 dX11_show_52 rfl (by decide) (by omega) (by omega) (fun h52 => ?_) (fun h52 => ?_)
          · refine r_iconst 60 dX11_show_59 rfl ?_
            first
              | (exfalso; omega)
              | (rw [if_pos (show v = -1 by omega)] at k; refine r_ret dX11_show_60 rfl (k _ ?_); unfold gShow; rw [if_neg (by omega), if_pos (by omega)])
              | (rw [if_neg (show ¬ v = -1 by omega)] at k; refine r_ret dX11_show_60 rfl (k _ ?_); unfold gShow; rw [if_neg (by omega), if_neg (by omega)])
          · refine r_iconst 56 dX11_show_55 rfl ?_
            refine r_goto 60 dX11_show_56 (by decide) ?_
            first
              | (exfalso; omega)
              | (rw [if_pos (show v = -1 by omega)] at k; refine r_ret dX11_show_60 rfl (k _ ?_); unfold gShow; rw [if_neg (by omega), if_pos (by omega)])
              | (rw [if_neg (show ¬ v = -1 by omega)] at k; refine r_ret dX11_show_60 rfl (k _ ?_); unfold gShow; rw [if_neg (by omega), if_neg (by omega)])
      · refine r_ifneF 21 dX11_show_18 rfl 27 (by decide) (by decide) (by decide) ?_
        refine r_aloadN 22 dX11_show_21 rfl rfl ?_
        refine r_iconst 23 dX11_show_22 rfl ?_
        refine r_cv1 26 dX11_show_23 rfl gX11_184 rfl (by decide) (sh_50 z _) rfl rfl (Nat.le_of_ble_eq_true rfl) (Nat.le_of_ble_eq_true rfl) rfl ?_
        refine m_no (k0 := 1) (by decide) (by decide) ?_
        refine r_ret dX11_show_26 rfl (kb _ 1 (by decide) ?_)
        unfold gShow
        rw [if_pos (by omega)]
  · refine r_ifeqT 21 0 dX11_show_5 (by decide) (by decide) (by decide) ?_
    refine r_aloadN 22 dX11_show_21 rfl rfl ?_
    refine r_iconst 23 dX11_show_22 rfl ?_
    refine r_cv1 26 dX11_show_23 rfl gX11_184 rfl (by decide) (sh_50 z _) rfl rfl (Nat.le_of_ble_eq_true rfl) (Nat.le_of_ble_eq_true rfl) rfl ?_
    refine m_no (k0 := 1) (by decide) (by decide) ?_
    refine r_ret dX11_show_26 rfl (kb _ 1 (by decide) ?_)
    unfold gShow
    rw [if_pos (by omega)]
theorem x_take_loop {z : xZ} {d : Nat} {Q : tQ} {c : tC} {s : Nat} {o n : Int} {L0 : tL} (hs : s < 8) (hn : 0 ≤ n ∧ n ≤ 60) (kk : ∀ L2 : tL, (∀ i : Nat, (i : Int) < n → L2 3 s i = lI 0) → (∀ g a b, ¬ (g = 3 ∧ a = s) → L2 g a b = L0 g a b) → Q none c L2) : ∀ (k i : Nat) (L : tL), (i : Int) + k = n → (∀ j : Nat, j < i → L 3 s j = lI 0) → (∀ g a b, ¬ (g = 3 ∧ a = s) → L g a b = L0 g a b) → En z (d + 1) MX7_takeRow Q 15 [some (.ref (xad z 2 s)), some (.int (iI o)), some (.int (iI n)), some (.int (iI (i : Int)))] [] c L := by
  intro k
  induction k with
  | zero =>
    intro i L hi hL hF
    refine r_iloadN 16 dX7_takeRow_15 rfl rfl ?_
    refine r_iloadN 17 dX7_takeRow_16 rfl rfl ?_
    refine r_icge 33 20 dX7_takeRow_17 rfl (by decide) (by omega) (by omega) (fun h17 => ?_) (fun h17 => ?_)
    · exact r_vret dX7_takeRow_33 rfl (kk _ (fun j hj => hL j (by omega)) hF)
    · exfalso; omega
  | succ k ih =>
    intro i L hi hL hF
    refine r_iloadN 16 dX7_takeRow_15 rfl rfl ?_
    refine r_iloadN 17 dX7_takeRow_16 rfl rfl ?_
    refine r_icge 33 20 dX7_takeRow_17 rfl (by decide) (by omega) (by omega) (fun h17 => ?_) (fun h17 => ?_)
    · exfalso; omega
    · refine r_aloadN 21 dX7_takeRow_20 rfl rfl ?_
      refine r_getq 24 dX7_takeRow_21 rfl fX7_18 (ct_2 (by omega)) (sh_2 z _) rfl ?_
      refine r_iloadN 25 dX7_takeRow_24 rfl rfl ?_
      refine r_lconst 26 dX7_takeRow_25 rfl ?_
      refine r_last 27 dX7_takeRow_26 (i) rfl rfl (ct_3 (by omega)) (sh_3 z _) (by decide) (by omega) (by omega) ?_
      refine r_iinc3 30 dX7_takeRow_27 rfl rfl (by decide) ?_
      refine r_goto 15 dX7_takeRow_30 (by decide) ?_
      refine ih (i + 1) _ (by omega) ?_ ?_
      · intro j hj
        by_cases e : j = i
        · rw [Lu, if_pos ⟨rfl, rfl, e⟩]; rfl
        · rw [Lu, if_neg (fun q => e q.2.2)]
          exact hL j (by omega)
      · intro g a b hg
        rw [Lu, if_neg (fun q => hg ⟨q.1, q.2.1⟩)]
        exact hF g a b hg
theorem x_takeRow {z : xZ} {d : Nat} {Q : tQ} {c : tC} {L : tL} {s : Nat} {o n : Int} (hs : s < 8) (hn : 0 ≤ n ∧ n ≤ 60) (k : ∀ L2 : tL, (∀ i : Nat, (i : Int) < n → L2 3 s i = lI 0) → (∀ g a b, ¬ (g = 3 ∧ a = s) → L2 g a b = L g a b) → Q none (cu (cu c 2 s 0 (100 + o)) 2 s 1 n) L2) : En z (d + 1) MX7_takeRow Q 0 [some (.ref (xad z 2 s)), some (.int (iI o)), some (.int (iI n)), none] [] c L := by
  refine r_aloadN 1 dX7_takeRow_0 rfl rfl ?_
  refine r_bipush 3 dX7_takeRow_1 rfl (by decide) ?_
  refine r_iloadN 4 dX7_takeRow_3 rfl rfl ?_
  refine r_iadd 5 dX7_takeRow_4 rfl ?_
  refine r_puti 8 dX7_takeRow_5 rfl pX7_9 (ct_2 (by omega)) (sh_2 z _) rfl ?_
  refine r_aloadN 9 dX7_takeRow_8 rfl rfl ?_
  refine r_iloadN 10 dX7_takeRow_9 rfl rfl ?_
  refine r_puti 13 dX7_takeRow_10 rfl pX7_15 (ct_2 (by omega)) (sh_2 z _) rfl ?_
  refine r_iconst 14 dX7_takeRow_13 rfl ?_
  refine r_istore3 15 dX7_takeRow_14 rfl rfl (by decide) ?_
  exact x_take_loop hs hn k n.toNat 0 L (by omega) (fun j hj => absurd hj (Nat.not_lt_zero _)) (fun _ _ _ _ => rfl)
theorem x_row {z : xZ} {d : Nat} {Q : tQ} {c : tC} {L : tL} {s o n : Int}   (hs : inR s) (ho : inR o) (hn : inR n) (kb : ∀ r w, w ≠ 0 → (r, w) = gRow s o n → Q (some (.int (iI r))) (xRe c w) L) (k : ∀ r (L2 : tL), (∀ i : Nat, (i : Int) < n → L2 3 s.toNat i = lI 0) → (∀ g a b, ¬ (g = 3 ∧ a = s.toNat) → L2 g a b = L g a b) → (r, 0) = gRow s o n → Q (some (.int (iI r))) (cu (cu c 2 s.toNat 0 (100 + o)) 2 s.toNat 1 n) L2) : En z (d + 20) MX10_row Q 0 [some (.ref (xad z 0 0)), some (.int (iI s)), some (.int (iI o)), some (.int (iI n))] [] c L := by
  have s1 := hs.1
  have s2 := hs.2
  have o1 := ho.1
  have o2 := ho.2
  have n1 := hn.1
  have n2 := hn.2
  refine r_iloadN 1 dX10_row_0 rfl rfl ?_
  refine r_cs1 4 dX10_row_1 rfl gX10_56 (Nat.le_of_ble_eq_true rfl) (Nat.le_of_ble_eq_true rfl) rfl ?_
  refine x_isShelf (by assumption) (fun y1 => ?_) (fun y1 => ?_)
  · refine r_ifneT 13 0 dX10_row_4 (by decide) (by decide) (by decide) ?_
    refine r_iloadN 14 dX10_row_13 rfl rfl ?_
    refine r_ifge 24 17 dX10_row_14 rfl (by decide) (by omega) (fun h14 => ?_) (fun h14 => ?_)
    · refine r_iloadN 25 dX10_row_24 rfl rfl ?_
      refine r_iflt 33 28 dX10_row_25 rfl (by decide) (by omega) (fun h25 => ?_) (fun h25 => ?_)
      · refine r_aloadN 34 dX10_row_33 rfl rfl ?_
        refine r_bipush 36 dX10_row_34 rfl (by decide) ?_
        refine r_cv1 39 dX10_row_36 rfl gX10_60 rfl (by decide) (sh_0 z _) rfl rfl (Nat.le_of_ble_eq_true rfl) (Nat.le_of_ble_eq_true rfl) rfl ?_
        refine x_refuse (k0 := 6) (by decide) (by decide) ?_
        refine r_ret dX10_row_39 rfl (kb _ 6 (by decide) ?_)
        unfold gRow
        rw [if_neg (by omega), if_neg (by omega), if_pos (by omega)]
      · refine r_iloadN 29 dX10_row_28 rfl rfl ?_
        refine r_iconst 30 dX10_row_29 rfl ?_
        refine r_icle 40 33 dX10_row_30 rfl (by decide) (by omega) (by omega) (fun h30 => ?_) (fun h30 => ?_)
        · refine r_iloadN 41 dX10_row_40 rfl rfl ?_
          refine r_bipush 43 dX10_row_41 rfl (by decide) ?_
          refine r_icle 53 46 dX10_row_43 rfl (by decide) (by omega) (by omega) (fun h43 => ?_) (fun h43 => ?_)
          · obtain ⟨s0, hs00⟩ := Int.eq_ofNat_of_zero_le (show 0 ≤ s by omega)
            subst hs00
            rw [Int.toNat_natCast] at k
            refine r_aloadN 54 dX10_row_53 rfl rfl ?_
            refine r_getq 57 dX10_row_54 rfl fX10_11 (by decide) (sh_0 z _) rfl ?_
            refine r_iloadN 58 dX10_row_57 rfl rfl ?_
            refine r_aald 59 dX10_row_58 (s0) rfl rfl (by decide) (sh_1 z _) rfl (by decide) (by omega) (by omega) ?_
            refine r_iloadN 60 dX10_row_59 rfl rfl ?_
            refine r_iloadN 61 dX10_row_60 rfl rfl ?_
            refine r_cv2 64 dX10_row_61 rfl gX10_64 rfl (ct_2 (by omega)) (sh_2 z _) rfl rfl (Nat.le_of_ble_eq_true rfl) (Nat.le_of_ble_eq_true rfl) rfl ?_
            refine x_takeRow (by omega) (by omega) (fun L2 hL2 hF2 => ?_)
            refine r_iconst 65 dX10_row_64 rfl ?_
            refine r_ret dX10_row_65 rfl (k _ L2 hL2 hF2 ?_)
            unfold gRow
            rw [if_neg (by omega), if_neg (by omega), if_neg (by omega), if_neg (by omega)]
          · refine r_aloadN 47 dX10_row_46 rfl rfl ?_
            refine r_bipush 49 dX10_row_47 rfl (by decide) ?_
            refine r_cv1 52 dX10_row_49 rfl gX10_60 rfl (by decide) (sh_0 z _) rfl rfl (Nat.le_of_ble_eq_true rfl) (Nat.le_of_ble_eq_true rfl) rfl ?_
            refine x_refuse (k0 := 7) (by decide) (by decide) ?_
            refine r_ret dX10_row_52 rfl (kb _ 7 (by decide) ?_)
            unfold gRow
            rw [if_neg (by omega), if_neg (by omega), if_neg (by omega), if_pos (by omega)]
        · refine r_aloadN 34 dX10_row_33 rfl rfl ?_
          refine r_bipush 36 dX10_row_34 rfl (by decide) ?_
          refine r_cv1 39 dX10_row_36 rfl gX10_60 rfl (by decide) (sh_0 z _) rfl rfl (Nat.le_of_ble_eq_true rfl) (Nat.le_of_ble_eq_true rfl) rfl ?_
          refine x_refuse (k0 := 6) (by decide) (by decide) ?_
          refine r_ret dX10_row_39 rfl (kb _ 6 (by decide) ?_)
          unfold gRow
          rw [if_neg (by omega), if_neg (by omega), if_pos (by omega)]
    · refine r_aloadN 18 dX10_row_17 rfl rfl ?_
      refine r_bipush 20 dX10_row_18 rfl (by decide) ?_
      refine r_cv1 23 dX10_row_20 rfl gX10_60 rfl (by decide) (sh_0 z _) rfl rfl (Nat.le_of_ble_eq_true rfl) (Nat.le_of_ble_eq_true rfl) rfl ?_
      refine x_refuse (k0 := 4) (by decide) (by decide) ?_
      refine r_ret dX10_row_23 rfl (kb _ 4 (by decide) ?_)
      unfold gRow
      rw [if_neg (by omega), if_pos (by omega)]
  · refine r_ifneF 7 dX10_row_4 rfl 13 (by decide) (by decide) (by decide) ?_
    refine r_aloadN 8 dX10_row_7 rfl rfl ?_
    refine r_iconst 9 dX10_row_8 rfl ?_
    refine r_cv1 12 dX10_row_9 rfl gX10_60 rfl (by decide) (sh_0 z _) rfl rfl (Nat.le_of_ble_eq_true rfl) (Nat.le_of_ble_eq_true rfl) rfl ?_
    refine x_refuse (k0 := 1) (by decide) (by decide) ?_
    refine r_ret dX10_row_12 rfl (kb _ 1 (by decide) ?_)
    unfold gRow
    rw [if_pos (by omega)]
theorem m_row_loop {z : xZ} {d : Nat} {Q : tQ} {c : tC} {s : Nat} {o n : Int} {L0 : tL} (hs : s < 8) (kk : ∀ L2 : tL, (∀ i : Nat, i < 60 → L2 52 48 (60 * s + i) = lI 0) → (∀ g a b, ¬ (g = 52 ∧ a = 48 ∧ 60 * s ≤ b ∧ b < 60 * s + 60) → L2 g a b = L0 g a b) → Q (some (.int (iI 1))) c L2) : ∀ (k i : Nat) (L : tL), i + k = 60 → (∀ j : Nat, j < i → L 52 48 (60 * s + j) = lI 0) → (∀ g a b, ¬ (g = 52 ∧ a = 48 ∧ 60 * s ≤ b ∧ b < 60 * s + 60) → L g a b = L0 g a b) → En z (d + 1) MX11_row Q 78 [some (.ref (xad z 50 0)), some (.int (iI (s : Int))), some (.int (iI o)), some (.int (iI n)), some (.int (iI (i : Int)))] [] c L := by
  intro k
  induction k with
  | zero =>
    intro i L hi hL hF
    refine r_iload 80 dX11_row_78 rfl rfl ?_
    refine r_bipush 82 dX11_row_80 rfl (by decide) ?_
    refine r_icge 104 85 dX11_row_82 rfl (by decide) (by omega) (by omega) (fun h82 => ?_) (fun h82 => ?_)
    · refine r_iconst 105 dX11_row_104 rfl ?_
      exact r_ret dX11_row_105 rfl (kk _ (fun j hj => hL j (by omega)) hF)
    · exfalso; omega
  | succ k ih =>
    intro i L hi hL hF
    refine r_iload 80 dX11_row_78 rfl rfl ?_
    refine r_bipush 82 dX11_row_80 rfl (by decide) ?_
    refine r_icge 104 85 dX11_row_82 rfl (by decide) (by omega) (by omega) (fun h82 => ?_) (fun h82 => ?_)
    · exfalso; omega
    · refine r_aloadN 86 dX11_row_85 rfl rfl ?_
      refine r_getq 89 dX11_row_86 rfl fX11_131 (by decide) (sh_50 z _) rfl ?_
      refine r_bipush 91 dX11_row_89 rfl (by decide) ?_
      refine r_iloadN 92 dX11_row_91 rfl rfl ?_
      refine r_imul 93 dX11_row_92 rfl ?_
      refine r_iload 95 dX11_row_93 rfl rfl ?_
      refine r_iadd 96 dX11_row_95 rfl ?_
      rw [show (60 * (s : Int) + (i : Int)) = ((60 * s + i : Nat) : Int) by omega]
      refine r_lconst 97 dX11_row_96 rfl ?_
      refine r_last (n := 480) 98 dX11_row_97 (60 * s + i) rfl rfl (by decide) (sh_52 z _) (by decide) (by omega) (by omega) ?_
      refine r_iinc4 101 dX11_row_98 rfl rfl (by decide) ?_
      refine r_goto 78 dX11_row_101 (by decide) ?_
      refine ih (i + 1) _ (by omega) ?_ ?_
      · intro j hj
        by_cases e : j = i
        · rw [Lu, if_pos ⟨rfl, rfl, by rw [e]⟩]; rfl
        · rw [Lu, if_neg (fun q => e (by omega))]
          exact hL j (by omega)
      · intro g a b hg
        rw [Lu, if_neg (fun q => hg ⟨q.1, q.2.1, by omega, by omega⟩)]
        exact hF g a b hg
theorem m_row {z : xZ} {d : Nat} {Q : tQ} {c : tC} {L : tL} {s o n : Int}   (hs : inR s) (ho : inR o) (hn : inR n) (kb : ∀ r w, w ≠ 0 → (r, w) = gRow s o n → Q (some (.int (iI r))) (mRe c w) L) (k : ∀ r (L2 : tL), (∀ i : Nat, i < 60 → L2 52 48 (60 * s.toNat + i) = lI 0) → (∀ g a b, ¬ (g = 52 ∧ a = 48 ∧ 60 * s.toNat ≤ b ∧ b < 60 * s.toNat + 60) → L2 g a b = L g a b) → (r, 0) = gRow s o n → Q (some (.int (iI r))) (cu (cu (cu c 51 44 s.toNat 1) 51 45 s.toNat o) 51 46 s.toNat n) L2) : En z (d + 20) MX11_row Q 0 [some (.ref (xad z 50 0)), some (.int (iI s)), some (.int (iI o)), some (.int (iI n)), none] [] c L := by
  have s1 := hs.1
  have s2 := hs.2
  have o1 := ho.1
  have o2 := ho.2
  have n1 := hn.1
  have n2 := hn.2
  refine r_aloadN 1 dX11_row_0 rfl rfl ?_
  refine r_iloadN 2 dX11_row_1 rfl rfl ?_
  refine r_cv1 5 dX11_row_2 rfl gX11_181 rfl (by decide) (sh_50 z _) rfl rfl (Nat.le_of_ble_eq_true rfl) (Nat.le_of_ble_eq_true rfl) rfl ?_
  refine m_isShelf (by assumption) (fun y2 => ?_) (fun y2 => ?_)
  · refine r_ifneT 14 0 dX11_row_5 (by decide) (by decide) (by decide) ?_
    refine r_iloadN 15 dX11_row_14 rfl rfl ?_
    refine r_ifge 25 18 dX11_row_15 rfl (by decide) (by omega) (fun h15 => ?_) (fun h15 => ?_)
    · refine r_iloadN 26 dX11_row_25 rfl rfl ?_
      refine r_iflt 34 29 dX11_row_26 rfl (by decide) (by omega) (fun h26 => ?_) (fun h26 => ?_)
      · refine r_aloadN 35 dX11_row_34 rfl rfl ?_
        refine r_bipush 37 dX11_row_35 rfl (by decide) ?_
        refine r_cv1 40 dX11_row_37 rfl gX11_184 rfl (by decide) (sh_50 z _) rfl rfl (Nat.le_of_ble_eq_true rfl) (Nat.le_of_ble_eq_true rfl) rfl ?_
        refine m_no (k0 := 6) (by decide) (by decide) ?_
        refine r_ret dX11_row_40 rfl (kb _ 6 (by decide) ?_)
        unfold gRow
        rw [if_neg (by omega), if_neg (by omega), if_pos (by omega)]
      · refine r_iloadN 30 dX11_row_29 rfl rfl ?_
        refine r_iconst 31 dX11_row_30 rfl ?_
        refine r_icle 41 34 dX11_row_31 rfl (by decide) (by omega) (by omega) (fun h31 => ?_) (fun h31 => ?_)
        · refine r_iloadN 42 dX11_row_41 rfl rfl ?_
          refine r_bipush 44 dX11_row_42 rfl (by decide) ?_
          refine r_icle 54 47 dX11_row_44 rfl (by decide) (by omega) (by omega) (fun h44 => ?_) (fun h44 => ?_)
          · obtain ⟨s0, hs00⟩ := Int.eq_ofNat_of_zero_le (show 0 ≤ s by omega)
            subst hs00
            rw [Int.toNat_natCast] at k
            refine r_aloadN 55 dX11_row_54 rfl rfl ?_
            refine r_getq 58 dX11_row_55 rfl fX11_119 (by decide) (sh_50 z _) rfl ?_
            refine r_iloadN 59 dX11_row_58 rfl rfl ?_
            refine r_iconst 60 dX11_row_59 rfl ?_
            refine r_iast (n := 8) 61 dX11_row_60 (s0) rfl rfl (by decide) (sh_51 z _) (by decide) (by omega) (by omega) ?_
            refine r_aloadN 62 dX11_row_61 rfl rfl ?_
            refine r_getq 65 dX11_row_62 rfl fX11_122 (by decide) (sh_50 z _) rfl ?_
            refine r_iloadN 66 dX11_row_65 rfl rfl ?_
            refine r_iloadN 67 dX11_row_66 rfl rfl ?_
            refine r_iast (n := 8) 68 dX11_row_67 (s0) rfl rfl (by decide) (sh_51 z _) (by decide) (by omega) (by omega) ?_
            refine r_aloadN 69 dX11_row_68 rfl rfl ?_
            refine r_getq 72 dX11_row_69 rfl fX11_125 (by decide) (sh_50 z _) rfl ?_
            refine r_iloadN 73 dX11_row_72 rfl rfl ?_
            refine r_iloadN 74 dX11_row_73 rfl rfl ?_
            refine r_iast (n := 8) 75 dX11_row_74 (s0) rfl rfl (by decide) (sh_51 z _) (by decide) (by omega) (by omega) ?_
            refine r_iconst 76 dX11_row_75 rfl ?_
            refine r_istore4 78 dX11_row_76 rfl rfl (by decide) ?_
            exact m_row_loop (by omega) (fun L2 a b => k 1 L2 a b (by unfold gRow; rw [if_neg (by omega), if_neg (by omega), if_neg (by omega), if_neg (by omega)])) 60 0 L rfl (fun j hj => absurd hj (Nat.not_lt_zero _)) (fun _ _ _ _ => rfl)
          · refine r_aloadN 48 dX11_row_47 rfl rfl ?_
            refine r_bipush 50 dX11_row_48 rfl (by decide) ?_
            refine r_cv1 53 dX11_row_50 rfl gX11_184 rfl (by decide) (sh_50 z _) rfl rfl (Nat.le_of_ble_eq_true rfl) (Nat.le_of_ble_eq_true rfl) rfl ?_
            refine m_no (k0 := 7) (by decide) (by decide) ?_
            refine r_ret dX11_row_53 rfl (kb _ 7 (by decide) ?_)
            unfold gRow
            rw [if_neg (by omega), if_neg (by omega), if_neg (by omega), if_pos (by omega)]
        · refine r_aloadN 35 dX11_row_34 rfl rfl ?_
          refine r_bipush 37 dX11_row_35 rfl (by decide) ?_
          refine r_cv1 40 dX11_row_37 rfl gX11_184 rfl (by decide) (sh_50 z _) rfl rfl (Nat.le_of_ble_eq_true rfl) (Nat.le_of_ble_eq_true rfl) rfl ?_
          refine m_no (k0 := 6) (by decide) (by decide) ?_
          refine r_ret dX11_row_40 rfl (kb _ 6 (by decide) ?_)
          unfold gRow
          rw [if_neg (by omega), if_neg (by omega), if_pos (by omega)]
    · refine r_aloadN 19 dX11_row_18 rfl rfl ?_
      refine r_bipush 21 dX11_row_19 rfl (by decide) ?_
      refine r_cv1 24 dX11_row_21 rfl gX11_184 rfl (by decide) (sh_50 z _) rfl rfl (Nat.le_of_ble_eq_true rfl) (Nat.le_of_ble_eq_true rfl) rfl ?_
      refine m_no (k0 := 4) (by decide) (by decide) ?_
      refine r_ret dX11_row_24 rfl (kb _ 4 (by decide) ?_)
      unfold gRow
      rw [if_neg (by omega), if_pos (by omega)]
  · refine r_ifneF 8 dX11_row_5 rfl 14 (by decide) (by decide) (by decide) ?_
    refine r_aloadN 9 dX11_row_8 rfl rfl ?_
    refine r_iconst 10 dX11_row_9 rfl ?_
    refine r_cv1 13 dX11_row_10 rfl gX11_184 rfl (by decide) (sh_50 z _) rfl rfl (Nat.le_of_ble_eq_true rfl) (Nat.le_of_ble_eq_true rfl) rfl ?_
    refine m_no (k0 := 1) (by decide) (by decide) ?_
    refine r_ret dX11_row_13 rfl (kb _ 1 (by decide) ?_)
    unfold gRow
    rw [if_pos (by omega)]
