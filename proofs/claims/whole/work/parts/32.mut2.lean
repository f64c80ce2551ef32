theorem m_hours {z : xZ} {d : Nat} {Q : tQ} {c : tC} {L : tL} {s p q : Int} (hg : MG c) (hs : inR s) (hp : inR p) (hq : inR q)  (kb : ∀ r w, w ≠ 0 → (r, w) = gHours (c 50 0) (c 51) s p q → Q (some (.int (iI r))) (mRe c w) L) (k : ∀ r, (r, 0) = gHours (c 50 0) (c 51) s p q → Q (some (.int (iI r))) (cu (cu c 51 23 s.toNat p) 51 24 s.toNat q) L) : En z (d + 20) MX11_hours Q 0 [some (.ref (xad z 50 0)), some (.int (iI s)), some (.int (iI p)), some (.int (iI q)), none] [] c L := by
  have s1 := hs.1
  have s2 := hs.2
  have p1 := hp.1
  have p2 := hp.2
  have q1 := hq.1
  have q2 := hq.2
  unfold MG RT_rng at hg
  refine r_aloadN 1 dX11_hours_0 rfl rfl ?_
  refine r_iloadN 2 dX11_hours_1 rfl rfl ?_
  refine r_cv1 5 dX11_hours_2 rfl gX11_188 rfl (by decide) (sh_50 z _) rfl rfl (Nat.le_of_ble_eq_true rfl) (Nat.le_of_ble_eq_true rfl) rfl ?_
  refine m_isSrc hg (by assumption) (fun y2 => ?_) (fun y2 => ?_)
  · refine r_ifneT 14 0 dX11_hours_5 (by decide) (by decide) (by decide) ?_
    refine r_iloadN 15 dX11_hours_14 rfl rfl ?_
    refine r_iflt 34 18 dX11_hours_15 rfl (by decide) (by omega) (fun h15 => ?_) (fun h15 => ?_)
    · refine r_aloadN 35 dX11_hours_34 rfl rfl ?_
      refine r_bipush 37 dX11_hours_35 rfl (by decide) ?_
      refine r_cv1 40 dX11_hours_37 rfl gX11_184 rfl (by decide) (sh_50 z _) rfl rfl (Nat.le_of_ble_eq_true rfl) (Nat.le_of_ble_eq_true rfl) rfl ?_
      refine m_no (k0 := 6) (by decide) (by decide) ?_
      refine r_ret dX11_hours_40 rfl (kb _ 6 (by decide) ?_)
      unfold gHours
      rw [if_neg (by omega), if_pos (by omega)]
    · refine r_iloadN 19 dX11_hours_18 rfl rfl ?_
      refine r_bipush 21 dX11_hours_19 rfl (by decide) ?_
      refine r_icgt 34 24 dX11_hours_21 rfl (by decide) (by omega) (by omega) (fun h21 => ?_) (fun h21 => ?_)
      · refine r_aloadN 35 dX11_hours_34 rfl rfl ?_
        refine r_bipush 37 dX11_hours_35 rfl (by decide) ?_
        refine r_cv1 40 dX11_hours_37 rfl gX11_184 rfl (by decide) (sh_50 z _) rfl rfl (Nat.le_of_ble_eq_true rfl) (Nat.le_of_ble_eq_true rfl) rfl ?_
        refine m_no (k0 := 6) (by decide) (by decide) ?_
        refine r_ret dX11_hours_40 rfl (kb _ 6 (by decide) ?_)
        unfold gHours
        rw [if_neg (by omega), if_pos (by omega)]
      · refine r_iloadN 25 dX11_hours_24 rfl rfl ?_
        refine r_iflt 34 28 dX11_hours_25 rfl (by decide) (by omega) (fun h25 => ?_) (fun h25 => ?_)
        · refine r_aloadN 35 dX11_hours_34 rfl rfl ?_
          refine r_bipush 37 dX11_hours_35 rfl (by decide) ?_
          refine r_cv1 40 dX11_hours_37 rfl gX11_184 rfl (by decide) (sh_50 z _) rfl rfl (Nat.le_of_ble_eq_true rfl) (Nat.le_of_ble_eq_true rfl) rfl ?_
          refine m_no (k0 := 6) (by decide) (by decide) ?_
          refine r_ret dX11_hours_40 rfl (kb _ 6 (by decide) ?_)
          unfold gHours
          rw [if_neg (by omega), if_pos (by omega)]
        · refine r_iloadN 29 dX11_hours_28 rfl rfl ?_
          refine r_bipush 31 dX11_hours_29 rfl (by decide) ?_
          refine r_icle 41 34 dX11_hours_31 rfl (by decide) (by omega) (by omega) (fun h31 => ?_) (fun h31 => ?_)
          · obtain ⟨s0, hs00⟩ := Int.eq_ofNat_of_zero_le (show 0 ≤ s by omega)
            subst hs00
            refine r_bipush 43 dX11_hours_41 rfl (by decide) ?_
            refine r_aloadN 44 dX11_hours_43 rfl rfl ?_
            refine r_getq 47 dX11_hours_44 rfl fX11_56 (by decide) (sh_50 z _) rfl ?_
            refine r_iloadN 48 dX11_hours_47 rfl rfl ?_
            refine r_iald (n := 14) 49 dX11_hours_48 (s0) rfl rfl (by decide) (sh_51 z _) (by decide) (by omega) (by omega) ?_
            refine r_imul 50 dX11_hours_49 rfl ?_
            refine r_aloadN 51 dX11_hours_50 rfl rfl ?_
            refine r_getq 54 dX11_hours_51 rfl fX11_59 (by decide) (sh_50 z _) rfl ?_
            refine r_iloadN 55 dX11_hours_54 rfl rfl ?_
            refine r_iald (n := 14) 56 dX11_hours_55 (s0) rfl rfl (by decide) (sh_51 z _) (by decide) (by omega) (by omega) ?_
            refine r_iadd 57 dX11_hours_56 rfl ?_
            refine r_istore4 59 dX11_hours_57 rfl rfl (by decide) ?_
            refine r_aloadN 60 dX11_hours_59 rfl rfl ?_
            refine r_getq 63 dX11_hours_60 rfl fX11_56 (by decide) (sh_50 z _) rfl ?_
            refine r_iloadN 64 dX11_hours_63 rfl rfl ?_
            refine r_iloadN 65 dX11_hours_64 rfl rfl ?_
            refine r_iast (n := 14) 66 dX11_hours_65 (s0) rfl rfl (by decide) (sh_51 z _) (by decide) (by omega) (by omega) ?_
            refine r_aloadN 67 dX11_hours_66 rfl rfl ?_
            refine r_getq 70 dX11_hours_67 rfl fX11_59 (by decide) (sh_50 z _) rfl ?_
            refine r_iloadN 71 dX11_hours_70 rfl rfl ?_
            refine r_iloadN 72 dX11_hours_71 rfl rfl ?_
            refine r_iast (n := 14) 73 dX11_hours_72 (s0) rfl rfl (by decide) (sh_51 z _) (by decide) (by omega) (by omega) ?_
            refine r_iload 75 dX11_hours_73 rfl rfl ?_
            refine r_ret dX11_hours_75 rfl (k _ ?_)
            unfold gHours
            rw [if_neg (by omega), if_neg (by omega)]
            rw [Int.toNat_natCast]
          · refine r_aloadN 35 dX11_hours_34 rfl rfl ?_
            refine r_bipush 37 dX11_hours_35 rfl (by decide) ?_
            refine r_cv1 40 dX11_hours_37 rfl gX11_184 rfl (by decide) (sh_50 z _) rfl rfl (Nat.le_of_ble_eq_true rfl) (Nat.le_of_ble_eq_true rfl) rfl ?_
            refine m_no (k0 := 6) (by decide) (by decide) ?_
            refine r_ret dX11_hours_40 rfl (kb _ 6 (by decide) ?_)
            unfold gHours
            rw [if_neg (by omega), if_pos (by omega)]
  · refine r_ifneF 8 dX11_hours_5 rfl 14 (by decide) (by decide) (by decide) ?_
    refine r_aloadN 9 dX11_hours_8 rfl rfl ?_
    refine r_iconst 10 dX11_hours_9 rfl ?_
    refine r_cv1 13 dX11_hours_10 rfl gX11_184 rfl (by decide) (sh_50 z _) rfl rfl (Nat.le_of_ble_eq_true rfl) (Nat.le_of_ble_eq_true rfl) rfl ?_
    refine m_no (k0 := 1) (by decide) (by decide) ?_
    refine r_ret dX11_hours_13 rfl (kb _ 1 (by decide) ?_)
    unfold gHours
    rw [if_pos (by omega)]
theorem m_cost {z : xZ} {d : Nat} {Q : tQ} {c : tC} {L : tL} {s v : Int} (hg : MG c) (hs : inR s) (hv : inR v)  (kb : ∀ r w, w ≠ 0 → (r, w) = gCost (c 50 0) (c 51) s v → Q (some (.int (iI r))) (mRe c w) L) (k : ∀ r, (r, 0) = gCost (c 50 0) (c 51) s v → Q (some (.int (iI r))) (cu c 51 25 s.toNat v) L) : En z (d + 20) MX11_cost Q 0 [some (.ref (xad z 50 0)), some (.int (iI s)), some (.int (iI v)), none] [] c L := by
  have s1 := hs.1
  have s2 := hs.2
  have v1 := hv.1
  have v2 := hv.2
  unfold MG RT_rng at hg
  refine r_aloadN 1 dX11_cost_0 rfl rfl ?_
  refine r_iloadN 2 dX11_cost_1 rfl rfl ?_
  refine r_cv1 5 dX11_cost_2 rfl gX11_188 rfl (by decide) (sh_50 z _) rfl rfl (Nat.le_of_ble_eq_true rfl) (Nat.le_of_ble_eq_true rfl) rfl ?_
  refine m_isSrc hg (by assumption) (fun y2 => ?_) (fun y2 => ?_)
  · refine r_ifneT 14 0 dX11_cost_5 (by decide) (by decide) (by decide) ?_
    refine r_iloadN 15 dX11_cost_14 rfl rfl ?_
    refine r_iflt 24 18 dX11_cost_15 rfl (by decide) (by omega) (fun h15 => ?_) (fun h15 => ?_)
    · refine r_aloadN 25 dX11_cost_24 rfl rfl ?_
      refine r_bipush 27 dX11_cost_25 rfl (by decide) ?_
      refine r_cv1 30 dX11_cost_27 rfl gX11_184 rfl (by decide) (sh_50 z _) rfl rfl (Nat.le_of_ble_eq_true rfl) (Nat.le_of_ble_eq_true rfl) rfl ?_
      refine m_no (k0 := 6) (by decide) (by decide) ?_
      refine r_ret dX11_cost_30 rfl (kb _ 6 (by decide) ?_)
      unfold gCost
      rw [if_neg (by omega), if_pos (by omega)]
    · refine r_iloadN 19 dX11_cost_18 rfl rfl ?_
      refine r_bipush 21 dX11_cost_19 rfl (by decide) ?_
      refine r_icle 31 24 dX11_cost_21 rfl (by decide) (by omega) (by omega) (fun h21 => ?_) (fun h21 => ?_)
      · obtain ⟨s0, hs00⟩ := Int.eq_ofNat_of_zero_le (show 0 ≤ s by omega)
        subst hs00
        refine r_aloadN 32 dX11_cost_31 rfl rfl ?_
        refine r_getq 35 dX11_cost_32 rfl fX11_62 (by decide) (sh_50 z _) rfl ?_
        refine r_iloadN 36 dX11_cost_35 rfl rfl ?_
        refine r_iald (n := 14) 37 dX11_cost_36 (s0) rfl rfl (by decide) (sh_51 z _) (by decide) (by omega) (by omega) ?_
        refine r_istore3 38 dX11_cost_37 rfl rfl (by decide) ?_
        refine r_aloadN 39 dX11_cost_38 rfl rfl ?_
        refine r_getq 42 dX11_cost_39 rfl fX11_62 (by decide) (sh_50 z _) rfl ?_
        refine r_iloadN 43 dX11_cost_42 rfl rfl ?_
        refine r_iloadN 44 dX11_cost_43 rfl rfl ?_
        refine r_iast (n := 14) 45 dX11_cost_44 (s0) rfl rfl (by decide) (sh_51 z _) (by decide) (by omega) (by omega) ?_
        refine r_iloadN 46 dX11_cost_45 rfl rfl ?_
        refine r_ret dX11_cost_46 rfl (k _ ?_)
        unfold gCost
        rw [if_neg (by omega), if_neg (by omega)]
        rw [Int.toNat_natCast]
      · refine r_aloadN 25 dX11_cost_24 rfl rfl ?_
        refine r_bipush 27 dX11_cost_25 rfl (by decide) ?_
        refine r_cv1 30 dX11_cost_27 rfl gX11_184 rfl (by decide) (sh_50 z _) rfl rfl (Nat.le_of_ble_eq_true rfl) (Nat.le_of_ble_eq_true rfl) rfl ?_
        refine m_no (k0 := 6) (by decide) (by decide) ?_
        refine r_ret dX11_cost_30 rfl (kb _ 6 (by decide) ?_)
        unfold gCost
        rw [if_neg (by omega), if_pos (by omega)]
  · refine r_ifneF 8 dX11_cost_5 rfl 14 (by decide) (by decide) (by decide) ?_
    refine r_aloadN 9 dX11_cost_8 rfl rfl ?_
    refine r_iconst 10 dX11_cost_9 rfl ?_
    refine r_cv1 13 dX11_cost_10 rfl gX11_184 rfl (by decide) (sh_50 z _) rfl rfl (Nat.le_of_ble_eq_true rfl) (Nat.le_of_ble_eq_true rfl) rfl ?_
    refine m_no (k0 := 1) (by decide) (by decide) ?_
    refine r_ret dX11_cost_13 rfl (kb _ 1 (by decide) ?_)
    unfold gCost
    rw [if_pos (by omega)]
theorem m_weather {z : xZ} {d : Nat} {Q : tQ} {c : tC} {L : tL} {p v : Int} (hg : MG c) (hp : inR p) (hv : inR v)  (kb : ∀ r w, w ≠ 0 → (r, w) = gWeather (c 51) p v → Q (some (.int (iI r))) (mRe c w) L) (k : ∀ r, (r, 0) = gWeather (c 51) p v → Q (some (.int (iI r))) (cu c 51 13 p.toNat v) L) : En z (d + 20) MX11_weather Q 0 [some (.ref (xad z 50 0)), some (.int (iI p)), some (.int (iI v)), none] [] c L := by
  have p1 := hp.1
  have p2 := hp.2
  have v1 := hv.1
  have v2 := hv.2
  unfold MG RT_rng at hg
  refine r_iloadN 1 dX11_weather_0 rfl rfl ?_
  refine r_iflt 19 4 dX11_weather_1 rfl (by decide) (by omega) (fun h1 => ?_) (fun h1 => ?_)
  · refine r_aloadN 20 dX11_weather_19 rfl rfl ?_
    refine r_bipush 22 dX11_weather_20 rfl (by decide) ?_
    refine r_cv1 25 dX11_weather_22 rfl gX11_184 rfl (by decide) (sh_50 z _) rfl rfl (Nat.le_of_ble_eq_true rfl) (Nat.le_of_ble_eq_true rfl) rfl ?_
    refine m_no (k0 := 6) (by decide) (by decide) ?_
    refine r_ret dX11_weather_25 rfl (kb _ 6 (by decide) ?_)
    unfold gWeather
    rw [if_pos (by omega)]
  · refine r_iloadN 5 dX11_weather_4 rfl rfl ?_
    refine r_bipush 7 dX11_weather_5 rfl (by decide) ?_
    refine r_icgt 19 10 dX11_weather_7 rfl (by decide) (by omega) (by omega) (fun h7 => ?_) (fun h7 => ?_)
    · refine r_aloadN 20 dX11_weather_19 rfl rfl ?_
      refine r_bipush 22 dX11_weather_20 rfl (by decide) ?_
      refine r_cv1 25 dX11_weather_22 rfl gX11_184 rfl (by decide) (sh_50 z _) rfl rfl (Nat.le_of_ble_eq_true rfl) (Nat.le_of_ble_eq_true rfl) rfl ?_
      refine m_no (k0 := 6) (by decide) (by decide) ?_
      refine r_ret dX11_weather_25 rfl (kb _ 6 (by decide) ?_)
      unfold gWeather
      rw [if_pos (by omega)]
    · refine r_iloadN 11 dX11_weather_10 rfl rfl ?_
      refine r_iflt 19 14 dX11_weather_11 rfl (by decide) (by omega) (fun h11 => ?_) (fun h11 => ?_)
      · refine r_aloadN 20 dX11_weather_19 rfl rfl ?_
        refine r_bipush 22 dX11_weather_20 rfl (by decide) ?_
        refine r_cv1 25 dX11_weather_22 rfl gX11_184 rfl (by decide) (sh_50 z _) rfl rfl (Nat.le_of_ble_eq_true rfl) (Nat.le_of_ble_eq_true rfl) rfl ?_
        refine m_no (k0 := 6) (by decide) (by decide) ?_
        refine r_ret dX11_weather_25 rfl (kb _ 6 (by decide) ?_)
        unfold gWeather
        rw [if_pos (by omega)]
      · refine r_iloadN 15 dX11_weather_14 rfl rfl ?_
        refine r_iconst 16 dX11_weather_15 rfl ?_
        refine r_icle 26 19 dX11_weather_16 rfl (by decide) (by omega) (by omega) (fun h16 => ?_) (fun h16 => ?_)
        · obtain ⟨p0, hp00⟩ := Int.eq_ofNat_of_zero_le (show 0 ≤ p by omega)
          subst hp00
          refine r_aloadN 27 dX11_weather_26 rfl rfl ?_
          refine r_getq 30 dX11_weather_27 rfl fX11_26 (by decide) (sh_50 z _) rfl ?_
          refine r_iloadN 31 dX11_weather_30 rfl rfl ?_
          refine r_iald (n := 10) 32 dX11_weather_31 (p0) rfl rfl (by decide) (sh_51 z _) (by decide) (by omega) (by omega) ?_
          refine r_istore3 33 dX11_weather_32 rfl rfl (by decide) ?_
          refine r_aloadN 34 dX11_weather_33 rfl rfl ?_
          refine r_getq 37 dX11_weather_34 rfl fX11_26 (by decide) (sh_50 z _) rfl ?_
          refine r_iloadN 38 dX11_weather_37 rfl rfl ?_
          refine r_iloadN 39 dX11_weather_38 rfl rfl ?_
          refine r_iast (n := 10) 40 dX11_weather_39 (p0) rfl rfl (by decide) (sh_51 z _) (by decide) (by omega) (by omega) ?_
          refine r_iloadN 41 dX11_weather_40 rfl rfl ?_
          refine r_ret dX11_weather_41 rfl (k _ ?_)
          unfold gWeather
          rw [if_neg (by omega)]
          rw [Int.toNat_natCast]
        · refine r_aloadN 20 dX11_weather_19 rfl rfl ?_
          refine r_bipush 22 dX11_weather_20 rfl (by decide) ?_
          refine r_cv1 25 dX11_weather_22 rfl gX11_184 rfl (by decide) (sh_50 z _) rfl rfl (Nat.le_of_ble_eq_true rfl) (Nat.le_of_ble_eq_true rfl) rfl ?_
          refine m_no (k0 := 6) (by decide) (by decide) ?_
          refine r_ret dX11_weather_25 rfl (kb _ 6 (by decide) ?_)
          unfold gWeather
          rw [if_pos (by omega)]
theorem m_law {z : xZ} {d : Nat} {Q : tQ} {c : tC} {L : tL} {v : Int}  (hv : inR v) (k : ∀ r w, (r, w) = gLaw (c 51) v → Q (some (.int (iI r))) (mRe c w) L) : En z (d + 20) MX11_law Q 0 [some (.ref (xad z 50 0)), some (.int (iI v))] [] c L := by
  have v1 := hv.1
  have v2 := hv.2
  refine r_iloadN 1 dX11_law_0 rfl rfl ?_
  refine r_iflt 19 4 dX11_law_1 rfl (by decide) (by omega) (fun h1 => ?_) (fun h1 => ?_)
  · refine r_aloadN 20 dX11_law_19 rfl rfl ?_
    refine r_bipush 22 dX11_law_20 rfl (by decide) ?_
    refine r_cv1 25 dX11_law_22 rfl gX11_184 rfl (by decide) (sh_50 z _) rfl rfl (Nat.le_of_ble_eq_true rfl) (Nat.le_of_ble_eq_true rfl) rfl ?_
    refine m_no (k0 := 5) (by decide) (by decide) ?_
    first
      | (refine r_ret dX11_law_25 rfl (k _ 0 ?_); unfold gLaw; rw [if_pos (by omega), Int.toNat_natCast])
      | (refine r_ret dX11_law_25 rfl (k _ 5 ?_); unfold gLaw; rw [if_neg (by omega)])
  · refine r_iloadN 5 dX11_law_4 rfl rfl ?_
    refine r_bipush 7 dX11_law_5 rfl (by decide) ?_
    refine r_icge 19 10 dX11_law_7 rfl (by decide) (by omega) (by omega) (fun h7 => ?_) (fun h7 => ?_)
    · refine r_aloadN 20 dX11_law_19 rfl rfl ?_
      refine r_bipush 22 dX11_law_20 rfl (by decide) ?_
      refine r_cv1 25 dX11_law_22 rfl gX11_184 rfl (by decide) (sh_50 z _) rfl rfl (Nat.le_of_ble_eq_true rfl) (Nat.le_of_ble_eq_true rfl) rfl ?_
      refine m_no (k0 := 5) (by decide) (by decide) ?_
      first
        | (refine r_ret dX11_law_25 rfl (k _ 0 ?_); unfold gLaw; rw [if_pos (by omega), Int.toNat_natCast])
        | (refine r_ret dX11_law_25 rfl (k _ 5 ?_); unfold gLaw; rw [if_neg (by omega)])
    · obtain ⟨v0, hv00⟩ := Int.eq_ofNat_of_zero_le (show 0 ≤ v by omega)
      subst hv00
      refine r_aloadN 11 dX11_law_10 rfl rfl ?_
      refine r_getq 14 dX11_law_11 rfl fX11_20 (by decide) (sh_50 z _) rfl ?_
      refine r_iloadN 15 dX11_law_14 rfl rfl ?_
      refine r_iald (n := 6) 16 dX11_law_15 (v0) rfl rfl (by decide) (sh_51 z _) (by decide) (by omega) (by omega) ?_
      refine r_goto 25 dX11_law_16 (by decide) ?_
      first
        | (refine r_ret dX11_law_25 rfl (k _ 0 ?_); unfold gLaw; rw [if_pos (by omega), Int.toNat_natCast])
        | (refine r_ret dX11_law_25 rfl (k _ 5 ?_); unfold gLaw; rw [if_neg (by omega)])
theorem x_force {z : xZ} {d : Nat} {Q : tQ} {c : tC} {L : tL} {n : Nat} {v : Int}  (hR : RX c) (hn : c 50 0 2 = (n : Int)) (hv : inR v)  (kb : ∀ r w, w ≠ 0 → (r, w) = gForce (c 50 0) v → Q (some (.int (iI r))) (xRe c w) L) (k : ∀ r, (r, 0) = gForce (c 50 0) v → Q (some (.int (iI r))) (cu c 8 0 4 v) L) : En z (d + 20) MX10_force Q 0 [some (.ref (xad z 0 0)), some (.int (iI v)), none] [] c L := by
  have v1 := hv.1
  have v2 := hv.2
  have hg := R0_rng hR
  have hc := R0_scal hR
  refine r_iloadN 1 dX10_force_0 rfl rfl ?_
  refine r_iconst 2 dX10_force_1 rfl ?_
  refine r_iceq 31 5 dX10_force_2 rfl (by decide) (by omega) (by omega) (fun h2 => ?_) (fun h2 => ?_)
  · refine r_aloadN 32 dX10_force_31 rfl rfl ?_
    refine r_getq 35 dX10_force_32 rfl fX10_26 (by decide) (sh_0 z _) rfl ?_
    refine r_geti 38 dX10_force_35 rfl fX10_235 (by decide) (sh_8 z _) rfl ?_
    refine r_istore2 39 dX10_force_38 rfl rfl (by decide) ?_
    refine r_aloadN 40 dX10_force_39 rfl rfl ?_
    refine r_getq 43 dX10_force_40 rfl fX10_26 (by decide) (sh_0 z _) rfl ?_
    refine r_iloadN 44 dX10_force_43 rfl rfl ?_
    refine r_puti 47 dX10_force_44 rfl pX10_235 (by decide) (sh_8 z _) rfl ?_
    refine r_iloadN 48 dX10_force_47 rfl rfl ?_
    refine r_ret dX10_force_48 rfl (k _ ?_)
    unfold gForce
    rw [if_pos (by omega), show c 8 0 4 = c 50 0 7 by omega]
  · refine r_iloadN 6 dX10_force_5 rfl rfl ?_
    refine r_iconst 7 dX10_force_6 rfl ?_
    refine r_aloadN 8 dX10_force_7 rfl rfl ?_
    refine r_getq 11 dX10_force_8 rfl fX10_26 (by decide) (sh_0 z _) rfl ?_
    refine r_geti 14 dX10_force_11 rfl fX10_221 (by decide) (sh_8 z _) rfl ?_
    refine r_iconst 15 dX10_force_14 rfl ?_
    refine r_isub 16 dX10_force_15 rfl ?_
    refine r_cs3 19 dX10_force_16 rfl gX10_137 (Nat.le_of_ble_eq_true rfl) (Nat.le_of_ble_eq_true rfl) rfl ?_
    refine x_isWithin (by assumption) (by omega) (by constructor <;> omega) (fun y16 => ?_) (fun y16 => ?_)
    · refine r_ifneT 31 0 dX10_force_19 (by decide) (by decide) (by decide) ?_
      refine r_aloadN 32 dX10_force_31 rfl rfl ?_
      refine r_getq 35 dX10_force_32 rfl fX10_26 (by decide) (sh_0 z _) rfl ?_
      refine r_geti 38 dX10_force_35 rfl fX10_235 (by decide) (sh_8 z _) rfl ?_
      refine r_istore2 39 dX10_force_38 rfl rfl (by decide) ?_
      refine r_aloadN 40 dX10_force_39 rfl rfl ?_
      refine r_getq 43 dX10_force_40 rfl fX10_26 (by decide) (sh_0 z _) rfl ?_
      refine r_iloadN 44 dX10_force_43 rfl rfl ?_
      refine r_puti 47 dX10_force_44 rfl pX10_235 (by decide) (sh_8 z _) rfl ?_
      refine r_iloadN 48 dX10_force_47 rfl rfl ?_
      refine r_ret dX10_force_48 rfl (k _ ?_)
      unfold gForce
      rw [if_pos (by omega), show c 8 0 4 = c 50 0 7 by omega]
    · refine r_ifneF 22 dX10_force_19 rfl 31 (by decide) (by decide) (by decide) ?_
      refine r_aloadN 23 dX10_force_22 rfl rfl ?_
      refine r_iconst 24 dX10_force_23 rfl ?_
      refine r_cv1 27 dX10_force_24 rfl gX10_60 rfl (by decide) (sh_0 z _) rfl rfl (Nat.le_of_ble_eq_true rfl) (Nat.le_of_ble_eq_true rfl) rfl ?_
      refine x_refuse (k0 := 1) (by decide) (by decide) ?_
      refine r_popi 28 dX10_force_27 rfl ?_
      refine r_bipush 30 dX10_force_28 rfl (by decide) ?_
      refine r_ret dX10_force_30 rfl (kb _ 1 (by decide) ?_)
      unfold gForce
      rw [if_neg (by omega)]
theorem m_force {z : xZ} {d : Nat} {Q : tQ} {c : tC} {L : tL} {v : Int} (hg : MG c) (hv : inR v)  (kb : ∀ r w, w ≠ 0 → (r, w) = gForce (c 50 0) v → Q (some (.int (iI r))) (mRe c w) L) (k : ∀ r, (r, 0) = gForce (c 50 0) v → Q (some (.int (iI r))) (cu c 50 0 7 v) L) : En z (d + 20) MX11_force Q 0 [some (.ref (xad z 50 0)), some (.int (iI v)), none] [] c L := by
  have v1 := hv.1
  have v2 := hv.2
  unfold MG RT_rng at hg
  refine r_iloadN 1 dX11_force_0 rfl rfl ?_
  refine r_iconst 2 dX11_force_1 rfl ?_
  refine r_iclt 13 5 dX11_force_2 rfl (by decide) (by omega) (by omega) (fun h2 => ?_) (fun h2 => ?_)
  · refine r_aloadN 14 dX11_force_13 rfl rfl ?_
    refine r_iconst 15 dX11_force_14 rfl ?_
    refine r_cv1 18 dX11_force_15 rfl gX11_184 rfl (by decide) (sh_50 z _) rfl rfl (Nat.le_of_ble_eq_true rfl) (Nat.le_of_ble_eq_true rfl) rfl ?_
    refine m_no (k0 := 1) (by decide) (by decide) ?_
    refine r_popi 19 dX11_force_18 rfl ?_
    refine r_bipush 21 dX11_force_19 rfl (by decide) ?_
    refine r_ret dX11_force_21 rfl (kb _ 1 (by decide) ?_)
    unfold gForce
    rw [if_neg (by omega)]
  · refine r_iloadN 6 dX11_force_5 rfl rfl ?_
    refine r_aloadN 7 dX11_force_6 rfl rfl ?_
    refine r_geti 10 dX11_force_7 rfl fX11_257 (by decide) (sh_50 z _) rfl ?_
    refine r_iclt 22 13 dX11_force_10 rfl (by decide) (by omega) (by omega) (fun h10 => ?_) (fun h10 => ?_)
    · refine r_aloadN 23 dX11_force_22 rfl rfl ?_
      refine r_geti 26 dX11_force_23 rfl fX11_9 (by decide) (sh_50 z _) rfl ?_
      refine r_istore2 27 dX11_force_26 rfl rfl (by decide) ?_
      refine r_aloadN 28 dX11_force_27 rfl rfl ?_
      refine r_iloadN 29 dX11_force_28 rfl rfl ?_
      refine r_puti 32 dX11_force_29 rfl pX11_9 (by decide) (sh_50 z _) rfl ?_
      refine r_iloadN 33 dX11_force_32 rfl rfl ?_
      refine r_ret dX11_force_33 rfl (k _ ?_)
      unfold gForce
      rw [if_pos (by omega)]
    · refine r_aloadN 14 dX11_force_13 rfl rfl ?_
      refine r_iconst 15 dX11_force_14 rfl ?_
      refine r_cv1 18 dX11_force_15 rfl gX11_184 rfl (by decide) (sh_50 z _) rfl rfl (Nat.le_of_ble_eq_true rfl) (Nat.le_of_ble_eq_true rfl) rfl ?_
      refine m_no (k0 := 1) (by decide) (by decide) ?_
      refine r_popi 19 dX11_force_18 rfl ?_
      refine r_bipush 21 dX11_force_19 rfl (by decide) ?_
      refine r_ret dX11_force_21 rfl (kb _ 1 (by decide) ?_)
      unfold gForce
      rw [if_neg (by omega)]
theorem x_fault {z : xZ} {d : Nat} {Q : tQ} {c : tC} {L : tL}   (k : Q (some (.int (iI (c 30 0 4)))) c L) : En z (d + 20) MX10_fault Q 0 [some (.ref (xad z 0 0))] [] c L := by
  refine r_aloadN 1 dX10_fault_0 rfl rfl ?_
  refine r_getq 4 dX10_fault_1 rfl fX10_36 (by decide) (sh_0 z _) rfl ?_
  refine r_geti 7 dX10_fault_4 rfl fX10_232 (by decide) (sh_30 z _) rfl ?_
  exact r_ret dX10_fault_7 rfl k
theorem m_fault {z : xZ} {d : Nat} {Q : tQ} {c : tC} {L : tL}   (k : Q (some (.int (iI (c 50 0 8)))) c L) : En z (d + 20) MX11_fault Q 0 [some (.ref (xad z 50 0))] [] c L := by
  refine r_aloadN 1 dX11_fault_0 rfl rfl ?_
  refine r_geti 4 dX11_fault_1 rfl fX11_13 (by decide) (sh_50 z _) rfl ?_
  exact r_ret dX11_fault_4 rfl k
theorem mk_set {F : Nat → Bool} {n s : Nat} {b : Bool} (hs : s < n) : mkN (fun j => if s = j then b else F j) n = mkN F n ↔ F s = b := by
  constructor
  · intro h
    have e := congrArg (fun v => v.testBit s) h
    simp only [mk_bit hs, if_pos] at e
    exact e.symm
  · intro h
    exact mkN_ext fun j _ => by
      by_cases e : s = j
      · rw [if_pos e, ← e, h]
      · rw [if_neg e]
theorem x_off {z : xZ} {d : Nat} {Q : tQ} {c : tC} {L : tL} {n : Nat} {s v : Int}  (hR : RX c) (hn : c 50 0 2 = (n : Int)) (hs : inR s) (hv : inR v) (hv01 : v = 0 ∨ v = 1) (kb : ∀ r w, w ≠ 0 → (r, w) = gOff (c 50 0) (c 51) s v → Q (some (.int (iI r))) (xRe c w) L) (k : ∀ r, (r, 0) = gOff (c 50 0) (c 51) s v → Q (some (.int (iI r))) (cu c 8 0 5 ((mkN (fun j => if s.toNat = j then decide (v = 1) else fHand (c 51) j) n : Nat) : Int)) L) : En z (d + 20) MX10_off Q 0 [some (.ref (xad z 0 0)), some (.int (iI s)), some (.int (iI v)), none] [] c L := by
  have s1 := hs.1
  have s2 := hs.2
  have v1 := hv.1
  have v2 := hv.2
  have hg := R0_rng hR
  have hc := R0_scal hR
  refine r_aloadN 1 dX10_off_0 rfl rfl ?_
  refine r_getq 4 dX10_off_1 rfl fX10_26 (by decide) (sh_0 z _) rfl ?_
  refine r_iloadN 5 dX10_off_4 rfl rfl ?_
  refine r_cv1 8 dX10_off_5 rfl gX10_101 rfl (by decide) (sh_8 z _) rfl rfl (Nat.le_of_ble_eq_true rfl) (Nat.le_of_ble_eq_true rfl) rfl ?_
  refine x_isSource hR (by assumption) (fun y5 => ?_) (fun y5 => ?_)
  · refine r_ifneT 17 0 dX10_off_8 (by decide) (by decide) (by decide) ?_
    obtain ⟨s0, hs00⟩ := Int.eq_ofNat_of_zero_le (show 0 ≤ s by omega)
    subst hs00
    have hq := R0_src hR s0 (by omega)
    have ho := R0_off hR
    rw [hn, Int.toNat_natCast] at ho
    rw [Int.toNat_natCast] at k
    have hb1 := mkN_lt31 (fHand (c 51)) (show n ≤ 14 by omega)
    refine r_aloadN 18 dX10_off_17 rfl rfl ?_
    refine r_getq 21 dX10_off_18 rfl fX10_26 (by decide) (sh_0 z _) rfl ?_
    refine r_geti 24 dX10_off_21 rfl fX10_180 (by decide) (sh_8 z _) rfl ?_
    refine r_istore3 25 dX10_off_24 rfl rfl (by decide) ?_
    refine r_aloadN 26 dX10_off_25 rfl rfl ?_
    refine r_getq 29 dX10_off_26 rfl fX10_26 (by decide) (sh_0 z _) rfl ?_
    refine r_iloadN 30 dX10_off_29 rfl rfl ?_
    refine r_ifeq 42 33 dX10_off_30 rfl (by decide) (by omega) (fun h30 => ?_) (fun h30 => ?_)
    · refine r_iloadN 43 dX10_off_42 rfl rfl ?_
      refine r_iloadN 44 dX10_off_43 rfl rfl ?_
      refine r_cs1 47 dX10_off_44 rfl gX10_183 (Nat.le_of_ble_eq_true rfl) (Nat.le_of_ble_eq_true rfl) rfl ?_
      refine x_bit (by omega) ?_
      refine r_iconst 48 dX10_off_47 rfl ?_
      refine r_ixor 49 dX10_off_48 rfl ?_
      refine r_iand 50 dX10_off_49 rfl ?_
      first
        | rw [inot_one (by omega) (show s0 < n by omega) ho, show (fun s => if s0 = s then false else fHand (c 51) s) = (fun j => if s0 = j then decide (v = 1) else fHand (c 51) j) by rw [decide_eq_false (show ¬ v = 1 by omega)]]
        | skip
      have hb2 := mkN_lt31 (fun j => if s0 = j then decide (v = 1) else fHand (c 51) j) (show n ≤ 14 by omega)
      have hms := mk_set (F := fHand (c 51)) (b := decide (v = 1)) (show s0 < n by omega)
      refine r_puti 53 dX10_off_50 rfl pX10_180 (by decide) (sh_8 z _) rfl ?_
      refine r_aloadN 54 dX10_off_53 rfl rfl ?_
      refine r_getq 57 dX10_off_54 rfl fX10_26 (by decide) (sh_0 z _) rfl ?_
      refine r_geti 60 dX10_off_57 rfl fX10_180 (by decide) (sh_8 z _) rfl ?_
      refine r_iloadN 61 dX10_off_60 rfl rfl ?_
      refine r_icne 68 64 dX10_off_61 rfl (by decide) (by show -2147483648 ≤ ((mkN (fun j => if s0 = j then decide (v = 1) else fHand (c 51) j) n : Nat) : Int) ∧ _; exact mk_in _ (by omega)) (by omega) (fun h61 => ?_) (fun h61 => ?_)
      · refine r_iconst 69 dX10_off_68 rfl ?_
        refine r_ret dX10_off_69 rfl (k _ ?_)
        unfold gOff
        rw [if_neg (by omega), Int.toNat_natCast]
        have h61b : ¬ ((mkN (fun j => if s0 = j then decide (v = 1) else fHand (c 51) j) n : Nat) : Int) = c 8 0 5 := h61
        rw [if_neg]
        intro e
        have e3 := hms.mpr (by unfold fHand; rw [e])
        omega
      · refine r_iconst 65 dX10_off_64 rfl ?_
        refine r_goto 69 dX10_off_65 (by decide) ?_
        refine r_ret dX10_off_69 rfl (k _ ?_)
        unfold gOff
        rw [if_neg (by omega), Int.toNat_natCast]
        have h61b : ((mkN (fun j => if s0 = j then decide (v = 1) else fHand (c 51) j) n : Nat) : Int) = c 8 0 5 := h61
        rw [if_pos]
        have e := hms.mp (by omega)
        unfold fHand at e
        rcases hv01 with e2 | e2
        · rw [e2] at e ⊢; have := of_decide_eq_false (e.trans (by decide)); omega
        · rw [e2] at e ⊢; have := of_decide_eq_true (e.trans (by decide)); omega
    · refine r_iloadN 34 dX10_off_33 rfl rfl ?_
      refine r_iloadN 35 dX10_off_34 rfl rfl ?_
      refine r_cs1 38 dX10_off_35 rfl gX10_183 (Nat.le_of_ble_eq_true rfl) (Nat.le_of_ble_eq_true rfl) rfl ?_
      refine x_bit (by omega) ?_
      refine r_ior 39 dX10_off_38 rfl ?_
      rw [ior_one (by omega) (show s0 < n by omega) ho, show (fun s => if s0 = s then true else fHand (c 51) s) = (fun j => if s0 = j then decide (v = 1) else fHand (c 51) j) by rw [decide_eq_true (show v = 1 by omega)]]
      refine r_goto 50 dX10_off_39 (by decide) ?_
      first
        | rw [inot_one (by omega) (show s0 < n by omega) ho, show (fun s => if s0 = s then false else fHand (c 51) s) = (fun j => if s0 = j then decide (v = 1) else fHand (c 51) j) by rw [decide_eq_false (show ¬ v = 1 by omega)]]
        | skip
      have hb2 := mkN_lt31 (fun j => if s0 = j then decide (v = 1) else fHand (c 51) j) (show n ≤ 14 by omega)
      have hms := mk_set (F := fHand (c 51)) (b := decide (v = 1)) (show s0 < n by omega)
      refine r_puti 53 dX10_off_50 rfl pX10_180 (by decide) (sh_8 z _) rfl ?_
      refine r_aloadN 54 dX10_off_53 rfl rfl ?_
      refine r_getq 57 dX10_off_54 rfl fX10_26 (by decide) (sh_0 z _) rfl ?_
      refine r_geti 60 dX10_off_57 rfl fX10_180 (by decide) (sh_8 z _) rfl ?_
      refine r_iloadN 61 dX10_off_60 rfl rfl ?_
      refine r_icne 68 64 dX10_off_61 rfl (by decide) (by show -2147483648 ≤ ((mkN (fun j => if s0 = j then decide (v = 1) else fHand (c 51) j) n : Nat) : Int) ∧ _; exact mk_in _ (by omega)) (by omega) (fun h61 => ?_) (fun h61 => ?_)
      · refine r_iconst 69 dX10_off_68 rfl ?_
        refine r_ret dX10_off_69 rfl (k _ ?_)
        unfold gOff
        rw [if_neg (by omega), Int.toNat_natCast]
        have h61b : ¬ ((mkN (fun j => if s0 = j then decide (v = 1) else fHand (c 51) j) n : Nat) : Int) = c 8 0 5 := h61
        rw [if_neg]
        intro e
        have e3 := hms.mpr (by unfold fHand; rw [e])
        omega
      · refine r_iconst 65 dX10_off_64 rfl ?_
        refine r_goto 69 dX10_off_65 (by decide) ?_
        refine r_ret dX10_off_69 rfl (k _ ?_)
        unfold gOff
        rw [if_neg (by omega), Int.toNat_natCast]
        have h61b : ((mkN (fun j => if s0 = j then decide (v = 1) else fHand (c 51) j) n : Nat) : Int) = c 8 0 5 := h61
        rw [if_pos]
        have e := hms.mp (by omega)
        unfold fHand at e
        rcases hv01 with e2 | e2
        · rw [e2] at e ⊢; have := of_decide_eq_false (e.trans (by decide)); omega
        · rw [e2] at e ⊢; have := of_decide_eq_true (e.trans (by decide)); omega
  · refine r_ifneF 11 dX10_off_8 rfl 17 (by decide) (by decide) (by decide) ?_
    refine r_aloadN 12 dX10_off_11 rfl rfl ?_
    refine r_iconst 13 dX10_off_12 rfl ?_
    refine r_cv1 16 dX10_off_13 rfl gX10_60 rfl (by decide) (sh_0 z _) rfl rfl (Nat.le_of_ble_eq_true rfl) (Nat.le_of_ble_eq_true rfl) rfl ?_
    refine x_refuse (k0 := 1) (by decide) (by decide) ?_
    refine r_ret dX10_off_16 rfl (kb _ 1 (by decide) ?_)
    unfold gOff
    rw [if_pos (by omega)]
theorem cu_same {c : tC} {g i j : Nat} {v : Int} (h : c g i j = v) : cu c g i j v = c := by
  funext a b e
  rw [cu]
  split
  · next q => rw [q.1, q.2.1, q.2.2, h]
  · rfl
theorem m_off {z : xZ} {d : Nat} {Q : tQ} {c : tC} {L : tL} {s v : Int} (hg : MG c) (hs : inR s) (hv : inR v) (hv01 : v = 0 ∨ v = 1) (h26 : ∀ s : Nat, (s : Int) < c 50 0 2 → c 51 26 s = 0 ∨ c 51 26 s = 1) (kb : ∀ r w, w ≠ 0 → (r, w) = gOff (c 50 0) (c 51) s v → Q (some (.int (iI r))) (mRe c w) L) (k : ∀ r, (r, 0) = gOff (c 50 0) (c 51) s v → Q (some (.int (iI r))) (cu c 51 26 s.toNat v) L) : En z (d + 20) MX11_off Q 0 [some (.ref (xad z 50 0)), some (.int (iI s)), some (.int (iI v)), none] [] c L := by
  have s1 := hs.1
  have s2 := hs.2
  have v1 := hv.1
  have v2 := hv.2
  unfold MG RT_rng at hg
  refine r_aloadN 1 dX11_off_0 rfl rfl ?_
  refine r_iloadN 2 dX11_off_1 rfl rfl ?_
  refine r_cv1 5 dX11_off_2 rfl gX11_188 rfl (by decide) (sh_50 z _) rfl rfl (Nat.le_of_ble_eq_true rfl) (Nat.le_of_ble_eq_true rfl) rfl ?_
  refine m_isSrc hg (by assumption) (fun y2 => ?_) (fun y2 => ?_)
  · refine r_ifneT 14 0 dX11_off_5 (by decide) (by decide) (by decide) ?_
    obtain ⟨s0, hs00⟩ := Int.eq_ofNat_of_zero_le (show 0 ≤ s by omega)
    subst hs00
    rw [Int.toNat_natCast] at k
    have h26a := h26 s0 (by omega)
    refine r_iloadN 15 dX11_off_14 rfl rfl ?_
    refine r_ifeq 22 18 dX11_off_15 rfl (by decide) (by omega) (fun h15 => ?_) (fun h15 => ?_)
    · obtain rfl : v = 0 := by omega
      refine r_iconst 23 dX11_off_22 rfl ?_
      refine r_istore3 24 dX11_off_23 rfl rfl (by decide) ?_
      refine r_aloadN 25 dX11_off_24 rfl rfl ?_
      refine r_getq 28 dX11_off_25 rfl fX11_65 (by decide) (sh_50 z _) rfl ?_
      refine r_iloadN 29 dX11_off_28 rfl rfl ?_
      refine r_iald (n := 14) 30 dX11_off_29 (s0) rfl rfl (by decide) (sh_51 z _) (by decide) (by omega) (by omega) ?_
      refine r_iloadN 31 dX11_off_30 rfl rfl ?_
      refine r_icne 36 34 dX11_off_31 rfl (by decide) (by omega) (by omega) (fun h31 => ?_) (fun h31 => ?_)
      · refine r_aloadN 37 dX11_off_36 rfl rfl ?_
        refine r_getq 40 dX11_off_37 rfl fX11_65 (by decide) (sh_50 z _) rfl ?_
        refine r_iloadN 41 dX11_off_40 rfl rfl ?_
        refine r_iloadN 42 dX11_off_41 rfl rfl ?_
        refine r_iast (n := 14) 43 dX11_off_42 (s0) rfl rfl (by decide) (sh_51 z _) (by decide) (by omega) (by omega) ?_
        refine r_iconst 44 dX11_off_43 rfl ?_
        refine r_ret dX11_off_44 rfl (k _ ?_)
        unfold gOff
        rw [if_neg (by omega), Int.toNat_natCast, if_neg (by omega)]
      · refine r_iconst 35 dX11_off_34 rfl ?_
        rw [cu_same (by omega)] at k
        refine r_ret dX11_off_35 rfl (k _ ?_)
        unfold gOff
        rw [if_neg (by omega), Int.toNat_natCast, if_pos (by omega)]
    · obtain rfl : v = 1 := by omega
      refine r_iconst 19 dX11_off_18 rfl ?_
      refine r_goto 23 dX11_off_19 (by decide) ?_
      refine r_istore3 24 dX11_off_23 rfl rfl (by decide) ?_
      refine r_aloadN 25 dX11_off_24 rfl rfl ?_
      refine r_getq 28 dX11_off_25 rfl fX11_65 (by decide) (sh_50 z _) rfl ?_
      refine r_iloadN 29 dX11_off_28 rfl rfl ?_
      refine r_iald (n := 14) 30 dX11_off_29 (s0) rfl rfl (by decide) (sh_51 z _) (by decide) (by omega) (by omega) ?_
      refine r_iloadN 31 dX11_off_30 rfl rfl ?_
      refine r_icne 36 34 dX11_off_31 rfl (by decide) (by omega) (by omega) (fun h31 => ?_) (fun h31 => ?_)
      · refine r_aloadN 37 dX11_off_36 rfl rfl ?_
        refine r_getq 40 dX11_off_37 rfl fX11_65 (by decide) (sh_50 z _) rfl ?_
        refine r_iloadN 41 dX11_off_40 rfl rfl ?_
        refine r_iloadN 42 dX11_off_41 rfl rfl ?_
        refine r_iast (n := 14) 43 dX11_off_42 (s0) rfl rfl (by decide) (sh_51 z _) (by decide) (by omega) (by omega) ?_
        refine r_iconst 44 dX11_off_43 rfl ?_
        refine r_ret dX11_off_44 rfl (k _ ?_)
        unfold gOff
        rw [if_neg (by omega), Int.toNat_natCast, if_neg (by omega)]
      · refine r_iconst 35 dX11_off_34 rfl ?_
        rw [cu_same (by omega)] at k
        refine r_ret dX11_off_35 rfl (k _ ?_)
        unfold gOff
        rw [if_neg (by omega), Int.toNat_natCast, if_pos (by omega)]
  · refine r_ifneF 8 dX11_off_5 rfl 14 (by decide) (by decide) (by decide) ?_
    refine r_aloadN 9 dX11_off_8 rfl rfl ?_
    refine r_iconst 10 dX11_off_9 rfl ?_
    refine r_cv1 13 dX11_off_10 rfl gX11_184 rfl (by decide) (sh_50 z _) rfl rfl (Nat.le_of_ble_eq_true rfl) (Nat.le_of_ble_eq_true rfl) rfl ?_
    refine m_no (k0 := 1) (by decide) (by decide) ?_
    refine r_ret dX11_off_13 rfl (kb _ 1 (by decide) ?_)
    unfold gOff
    rw [if_pos (by omega)]
