/-! what changes the town: answer and counted refusal g.., two continuations: kb refused, k done -/
abbrev MG (c : tC) : Prop := RT_rng c 0 (c 50 0) (c 51)
theorem RX_MG {c : tC} (h : RX c) : MG c := h.2.1
def gGo (S : sS) (A : sA) (p v : Int) : gA := if isPe S p ∧ isSp v then (A 14 p.toNat, 0) else (-1, 1)
def gHours (S : sS) (A : sA) (s p q : Int) : gA := if ¬ isSo S s then (-1, 1) else if ¬ ((0 ≤ p ∧ p ≤ 23) ∧ 0 ≤ q ∧ q ≤ 23) then (-6, 6) else (100 * A 23 s.toNat + A 24 s.toNat, 0)
def gCost (S : sS) (A : sA) (s v : Int) : gA := if ¬ isSo S s then (-1, 1) else if ¬ (0 ≤ v ∧ v ≤ 99) then (-6, 6) else (A 25 s.toNat, 0)
def gOff (S : sS) (A : sA) (s v : Int) : gA := if ¬ isSo S s then (-1, 1) else (if A 26 s.toNat = v then 0 else 1, 0)
def gSize (A : sA) (p v : Int) : gA := if ¬ isSp p then (-1, 1) else if ¬ (0 ≤ v ∧ v ≤ 9) then (-6, 6) else (A 12 p.toNat, 0)
def gWeather (A : sA) (p v : Int) : gA := if ¬ ((0 ≤ p ∧ p ≤ 9) ∧ 0 ≤ v ∧ v ≤ 1) then (-6, 6) else (A 13 p.toNat, 0)
def gPass (S : sS) (v : Int) : gA := if ¬ ((1 ≤ v ∧ v ≤ 100) ∧ S 0 + v ≤ 239) then (-6, 6) else (S 0 + v, 0)
def gLaw (A : sA) (v : Int) : gA := if 0 ≤ v ∧ v ≤ 5 then (A 11 v.toNat, 0) else (-5, 5)
def gForce (S : sS) (v : Int) : gA := if -1 ≤ v ∧ v < S 6 then (S 7, 0) else (-11, 1)
theorem m_isPer {z : xZ} {d : Nat} {Q : tQ} {c : tC} {L : tL} {v : Int} (hg : MG c) (hv : inR v) (k1 : (0 ≤ v ∧ v < c 50 0 1) → Q (some (.int (iI 1))) c L) (k0 : ¬ (0 ≤ v ∧ v < c 50 0 1) → Q (some (.int (iI 0))) c L) : En z (d + 1) MX11_isPerson Q 0 [some (.ref (xad z 50 0)), some (.int (iI v))] [] c L := by
  have hv1 := hv.1
  have hv2 := hv.2
  unfold MG RT_rng at hg
  refine r_iloadN 1 dX11_isPerson_0 rfl rfl ?_
  refine r_iflt 16 4 dX11_isPerson_1 rfl (by decide) (by omega) (fun h1 => ?_) (fun h1 => ?_)
  · refine r_iconst 17 dX11_isPerson_16 rfl ?_
    exact r_zret dX11_isPerson_17 rfl (by decide) (k0 (by omega))
  · refine r_iloadN 5 dX11_isPerson_4 rfl rfl ?_
    refine r_aloadN 6 dX11_isPerson_5 rfl rfl ?_
    refine r_geti 9 dX11_isPerson_6 rfl fX11_171 (by decide) (sh_50 z _) rfl ?_
    refine r_icge 16 12 dX11_isPerson_9 rfl (by decide) (by omega) (by omega) (fun h9 => ?_) (fun h9 => ?_)
    · refine r_iconst 17 dX11_isPerson_16 rfl ?_
      exact r_zret dX11_isPerson_17 rfl (by decide) (k0 (by omega))
    · refine r_iconst 13 dX11_isPerson_12 rfl ?_
      refine r_goto 17 dX11_isPerson_13 (by decide) ?_
      exact r_zret dX11_isPerson_17 rfl (by decide) (k1 (by omega))
theorem m_isSrc {z : xZ} {d : Nat} {Q : tQ} {c : tC} {L : tL} {v : Int} (hg : MG c) (hv : inR v) (k1 : (0 ≤ v ∧ v < c 50 0 2) → Q (some (.int (iI 1))) c L) (k0 : ¬ (0 ≤ v ∧ v < c 50 0 2) → Q (some (.int (iI 0))) c L) : En z (d + 1) MX11_isSource Q 0 [some (.ref (xad z 50 0)), some (.int (iI v))] [] c L := by
  have hv1 := hv.1
  have hv2 := hv.2
  unfold MG RT_rng at hg
  refine r_iloadN 1 dX11_isSource_0 rfl rfl ?_
  refine r_iflt 16 4 dX11_isSource_1 rfl (by decide) (by omega) (fun h1 => ?_) (fun h1 => ?_)
  · refine r_iconst 17 dX11_isSource_16 rfl ?_
    exact r_zret dX11_isSource_17 rfl (by decide) (k0 (by omega))
  · refine r_iloadN 5 dX11_isSource_4 rfl rfl ?_
    refine r_aloadN 6 dX11_isSource_5 rfl rfl ?_
    refine r_geti 9 dX11_isSource_6 rfl fX11_174 (by decide) (sh_50 z _) rfl ?_
    refine r_icge 16 12 dX11_isSource_9 rfl (by decide) (by omega) (by omega) (fun h9 => ?_) (fun h9 => ?_)
    · refine r_iconst 17 dX11_isSource_16 rfl ?_
      exact r_zret dX11_isSource_17 rfl (by decide) (k0 (by omega))
    · refine r_iconst 13 dX11_isSource_12 rfl ?_
      refine r_goto 17 dX11_isSource_13 (by decide) ?_
      exact r_zret dX11_isSource_17 rfl (by decide) (k1 (by omega))
theorem x_go {z : xZ} {d : Nat} {Q : tQ} {c : tC} {L : tL} {n : Nat} {p v : Int}  (hR : RX c) (hn : c 50 0 2 = (n : Int)) (hp : inR p) (hv : inR v)  (kb : ∀ r w, w ≠ 0 → (r, w) = gGo (c 50 0) (c 51) p v → Q (some (.int (iI r))) (xRe c w) L) (k : ∀ r, (r, 0) = gGo (c 50 0) (c 51) p v → Q (some (.int (iI r))) (cu c 12 p.toNat 0 v) L) : En z (d + 20) MX10_go Q 0 [some (.ref (xad z 0 0)), some (.int (iI p)), some (.int (iI v)), none] [] c L := by
  have p1 := hp.1
  have p2 := hp.2
  have v1 := hv.1
  have v2 := hv.2
  have hg := R0_rng hR
  have hc := R0_scal hR
  refine r_aloadN 1 dX10_go_0 rfl rfl ?_
  refine r_getq 4 dX10_go_1 rfl fX10_26 (by decide) (sh_0 z _) rfl ?_
  refine r_iloadN 5 dX10_go_4 rfl rfl ?_
  refine r_cv1 8 dX10_go_5 rfl gX10_149 rfl (by decide) (sh_8 z _) rfl rfl (Nat.le_of_ble_eq_true rfl) (Nat.le_of_ble_eq_true rfl) rfl ?_
  refine x_isPerson hR (by assumption) (fun y5 => ?_) (fun y5 => ?_)
  · refine r_ifeqF 11 dX10_go_8 rfl 18 (by decide) (by decide) (by decide) ?_
    refine r_iloadN 12 dX10_go_11 rfl rfl ?_
    refine r_cs1 15 dX10_go_12 rfl gX10_131 (Nat.le_of_ble_eq_true rfl) (Nat.le_of_ble_eq_true rfl) rfl ?_
    refine x_isSpot (by assumption) (fun y12 => ?_) (fun y12 => ?_)
    · refine r_ifneT 24 0 dX10_go_15 (by decide) (by decide) (by decide) ?_
      obtain ⟨p0, hp00⟩ := Int.eq_ofNat_of_zero_le (show 0 ≤ p by omega)
      subst hp00
      have hpp := R0_per hR p0 (by omega)
      refine r_aloadN 25 dX10_go_24 rfl rfl ?_
      refine r_getq 28 dX10_go_25 rfl fX10_26 (by decide) (sh_0 z _) rfl ?_
      refine r_getq 31 dX10_go_28 rfl fX10_152 (by decide) (sh_8 z _) rfl ?_
      refine r_iloadN 32 dX10_go_31 rfl rfl ?_
      refine r_aald 33 dX10_go_32 (p0) rfl rfl (by decide) (sh_9a z) rfl (by decide) (by omega) (by omega) ?_
      refine r_geti 36 dX10_go_33 rfl fX10_156 (ct_12 (by omega)) (sh_12 z _) rfl ?_
      refine r_istore3 37 dX10_go_36 rfl rfl (by decide) ?_
      refine r_aloadN 38 dX10_go_37 rfl rfl ?_
      refine r_getq 41 dX10_go_38 rfl fX10_26 (by decide) (sh_0 z _) rfl ?_
      refine r_getq 44 dX10_go_41 rfl fX10_152 (by decide) (sh_8 z _) rfl ?_
      refine r_iloadN 45 dX10_go_44 rfl rfl ?_
      refine r_aald 46 dX10_go_45 (p0) rfl rfl (by decide) (sh_9a z) rfl (by decide) (by omega) (by omega) ?_
      refine r_iloadN 47 dX10_go_46 rfl rfl ?_
      refine r_puti 50 dX10_go_47 rfl pX10_156 (ct_12 (by omega)) (sh_12 z _) rfl ?_
      refine r_iloadN 51 dX10_go_50 rfl rfl ?_
      refine r_ret dX10_go_51 rfl (k _ ?_)
      unfold gGo
      rw [if_pos (by omega)]
      rw [Int.toNat_natCast, hpp.1.1]
    · refine r_ifneF 18 dX10_go_15 rfl 24 (by decide) (by decide) (by decide) ?_
      refine r_aloadN 19 dX10_go_18 rfl rfl ?_
      refine r_iconst 20 dX10_go_19 rfl ?_
      refine r_cv1 23 dX10_go_20 rfl gX10_60 rfl (by decide) (sh_0 z _) rfl rfl (Nat.le_of_ble_eq_true rfl) (Nat.le_of_ble_eq_true rfl) rfl ?_
      refine x_refuse (k0 := 1) (by decide) (by decide) ?_
      refine r_ret dX10_go_23 rfl (kb _ 1 (by decide) ?_)
      unfold gGo
      rw [if_neg (by omega)]
  · refine r_ifeqT 18 0 dX10_go_8 (by decide) (by decide) (by decide) ?_
    refine r_aloadN 19 dX10_go_18 rfl rfl ?_
    refine r_iconst 20 dX10_go_19 rfl ?_
    refine r_cv1 23 dX10_go_20 rfl gX10_60 rfl (by decide) (sh_0 z _) rfl rfl (Nat.le_of_ble_eq_true rfl) (Nat.le_of_ble_eq_true rfl) rfl ?_
    refine x_refuse (k0 := 1) (by decide) (by decide) ?_
    refine r_ret dX10_go_23 rfl (kb _ 1 (by decide) ?_)
    unfold gGo
    rw [if_neg (by omega)]
theorem m_go {z : xZ} {d : Nat} {Q : tQ} {c : tC} {L : tL} {p v : Int} (hg : MG c) (hp : inR p) (hv : inR v)  (kb : ∀ r w, w ≠ 0 → (r, w) = gGo (c 50 0) (c 51) p v → Q (some (.int (iI r))) (mRe c w) L) (k : ∀ r, (r, 0) = gGo (c 50 0) (c 51) p v → Q (some (.int (iI r))) (cu c 51 14 p.toNat v) L) : En z (d + 20) MX11_go Q 0 [some (.ref (xad z 50 0)), some (.int (iI p)), some (.int (iI v)), none] [] c L := by
  have p1 := hp.1
  have p2 := hp.2
  have v1 := hv.1
  have v2 := hv.2
  unfold MG RT_rng at hg
  refine r_aloadN 1 dX11_go_0 rfl rfl ?_
  refine r_iloadN 2 dX11_go_1 rfl rfl ?_
  refine r_cv1 5 dX11_go_2 rfl gX11_197 rfl (by decide) (sh_50 z _) rfl rfl (Nat.le_of_ble_eq_true rfl) (Nat.le_of_ble_eq_true rfl) rfl ?_
  refine m_isPer hg (by assumption) (fun y2 => ?_) (fun y2 => ?_)
  · refine r_ifeqF 8 dX11_go_5 rfl 16 (by decide) (by decide) (by decide) ?_
    refine r_aloadN 9 dX11_go_8 rfl rfl ?_
    refine r_iloadN 10 dX11_go_9 rfl rfl ?_
    refine r_cv1 13 dX11_go_10 rfl gX11_191 rfl (by decide) (sh_50 z _) rfl rfl (Nat.le_of_ble_eq_true rfl) (Nat.le_of_ble_eq_true rfl) rfl ?_
    refine m_isSpot (by assumption) (fun y10 => ?_) (fun y10 => ?_)
    · refine r_ifneT 22 0 dX11_go_13 (by decide) (by decide) (by decide) ?_
      obtain ⟨p0, hp00⟩ := Int.eq_ofNat_of_zero_le (show 0 ≤ p by omega)
      subst hp00
      refine r_aloadN 23 dX11_go_22 rfl rfl ?_
      refine r_getq 26 dX11_go_23 rfl fX11_29 (by decide) (sh_50 z _) rfl ?_
      refine r_iloadN 27 dX11_go_26 rfl rfl ?_
      refine r_iald (n := 12) 28 dX11_go_27 (p0) rfl rfl (by decide) (sh_51 z _) (by decide) (by omega) (by omega) ?_
      refine r_istore3 29 dX11_go_28 rfl rfl (by decide) ?_
      refine r_aloadN 30 dX11_go_29 rfl rfl ?_
      refine r_getq 33 dX11_go_30 rfl fX11_29 (by decide) (sh_50 z _) rfl ?_
      refine r_iloadN 34 dX11_go_33 rfl rfl ?_
      refine r_iloadN 35 dX11_go_34 rfl rfl ?_
      refine r_iast (n := 12) 36 dX11_go_35 (p0) rfl rfl (by decide) (sh_51 z _) (by decide) (by omega) (by omega) ?_
      refine r_iloadN 37 dX11_go_36 rfl rfl ?_
      refine r_ret dX11_go_37 rfl (k _ ?_)
      unfold gGo
      rw [if_pos (by omega)]
      rw [Int.toNat_natCast]
    · refine r_ifneF 16 dX11_go_13 rfl 22 (by decide) (by decide) (by decide) ?_
      refine r_aloadN 17 dX11_go_16 rfl rfl ?_
      refine r_iconst 18 dX11_go_17 rfl ?_
      refine r_cv1 21 dX11_go_18 rfl gX11_184 rfl (by decide) (sh_50 z _) rfl rfl (Nat.le_of_ble_eq_true rfl) (Nat.le_of_ble_eq_true rfl) rfl ?_
      refine m_no (k0 := 1) (by decide) (by decide) ?_
      refine r_ret dX11_go_21 rfl (kb _ 1 (by decide) ?_)
      unfold gGo
      rw [if_neg (by omega)]
  · refine r_ifeqT 16 0 dX11_go_5 (by decide) (by decide) (by decide) ?_
    refine r_aloadN 17 dX11_go_16 rfl rfl ?_
    refine r_iconst 18 dX11_go_17 rfl ?_
    refine r_cv1 21 dX11_go_18 rfl gX11_184 rfl (by decide) (sh_50 z _) rfl rfl (Nat.le_of_ble_eq_true rfl) (Nat.le_of_ble_eq_true rfl) rfl ?_
    refine m_no (k0 := 1) (by decide) (by decide) ?_
    refine r_ret dX11_go_21 rfl (kb _ 1 (by decide) ?_)
    unfold gGo
    rw [if_neg (by omega)]
theorem x_hours {z : xZ} {d : Nat} {Q : tQ} {c : tC} {L : tL} {n : Nat} {s p q : Int}  (hR : RX c) (hn : c 50 0 2 = (n : Int)) (hs : inR s) (hp : inR p) (hq : inR q)  (kb : ∀ r w, w ≠ 0 → (r, w) = gHours (c 50 0) (c 51) s p q → Q (some (.int (iI r))) (xRe c w) L) (k : ∀ r, (r, 0) = gHours (c 50 0) (c 51) s p q → Q (some (.int (iI r))) (cu (cu c 13 s.toNat 4 p) 13 s.toNat 5 q) L) : En z (d + 20) MX10_hours Q 0 [some (.ref (xad z 0 0)), some (.int (iI s)), some (.int (iI p)), some (.int (iI q)), none, none] [] c L := by
  have s1 := hs.1
  have s2 := hs.2
  have p1 := hp.1
  have p2 := hp.2
  have q1 := hq.1
  have q2 := hq.2
  have hg := R0_rng hR
  have hc := R0_scal hR
  refine r_aloadN 1 dX10_hours_0 rfl rfl ?_
  refine r_getq 4 dX10_hours_1 rfl fX10_26 (by decide) (sh_0 z _) rfl ?_
  refine r_iloadN 5 dX10_hours_4 rfl rfl ?_
  refine r_cv1 8 dX10_hours_5 rfl gX10_101 rfl (by decide) (sh_8 z _) rfl rfl (Nat.le_of_ble_eq_true rfl) (Nat.le_of_ble_eq_true rfl) rfl ?_
  refine x_isSource hR (by assumption) (fun y5 => ?_) (fun y5 => ?_)
  · refine r_ifneT 17 0 dX10_hours_8 (by decide) (by decide) (by decide) ?_
    refine r_iloadN 18 dX10_hours_17 rfl rfl ?_
    refine r_iconst 19 dX10_hours_18 rfl ?_
    refine r_bipush 21 dX10_hours_19 rfl (by decide) ?_
    refine r_cs3 24 dX10_hours_21 rfl gX10_137 (Nat.le_of_ble_eq_true rfl) (Nat.le_of_ble_eq_true rfl) rfl ?_
    refine x_isWithin (by assumption) (by omega) (by omega) (fun y21 => ?_) (fun y21 => ?_)
    · refine r_ifeqF 27 dX10_hours_24 rfl 37 (by decide) (by decide) (by decide) ?_
      refine r_iloadN 28 dX10_hours_27 rfl rfl ?_
      refine r_iconst 29 dX10_hours_28 rfl ?_
      refine r_bipush 31 dX10_hours_29 rfl (by decide) ?_
      refine r_cs3 34 dX10_hours_31 rfl gX10_137 (Nat.le_of_ble_eq_true rfl) (Nat.le_of_ble_eq_true rfl) rfl ?_
      refine x_isWithin (by assumption) (by omega) (by omega) (fun y31 => ?_) (fun y31 => ?_)
      · refine r_ifneT 44 0 dX10_hours_34 (by decide) (by decide) (by decide) ?_
        obtain ⟨s0, hs00⟩ := Int.eq_ofNat_of_zero_le (show 0 ≤ s by omega)
        subst hs00
        have hq := R0_src hR s0 (by omega)
        refine r_aloadN 45 dX10_hours_44 rfl rfl ?_
        refine r_getq 48 dX10_hours_45 rfl fX10_26 (by decide) (sh_0 z _) rfl ?_
        refine r_getq 51 dX10_hours_48 rfl fX10_118 (by decide) (sh_8 z _) rfl ?_
        refine r_iloadN 52 dX10_hours_51 rfl rfl ?_
        refine r_aald 53 dX10_hours_52 (s0) rfl rfl (by decide) (sh_10a z) rfl (by decide) (by omega) (by omega) ?_
        refine r_astore4 55 dX10_hours_53 rfl rfl (by decide) ?_
        refine r_aload 57 dX10_hours_55 rfl rfl ?_
        refine r_cv0 60 dX10_hours_57 rfl gX10_168 rfl (ct_13 (by omega)) (sh_13 z _) rfl rfl (Nat.le_of_ble_eq_true rfl) (Nat.le_of_ble_eq_true rfl) rfl ?_
        refine x_hoursAsNumber hR (s := s0) (by omega) (fun r57 e57 => ?_)
        refine r_istore5 62 dX10_hours_60 rfl rfl (by decide) ?_
        refine r_aload 64 dX10_hours_62 rfl rfl ?_
        refine r_iloadN 65 dX10_hours_64 rfl rfl ?_
        refine r_puti 68 dX10_hours_65 rfl pX10_171 (ct_13 (by omega)) (sh_13 z _) rfl ?_
        refine r_aload 70 dX10_hours_68 rfl rfl ?_
        refine r_iloadN 71 dX10_hours_70 rfl rfl ?_
        refine r_puti 74 dX10_hours_71 rfl pX10_174 (ct_13 (by omega)) (sh_13 z _) rfl ?_
        refine r_iload 76 dX10_hours_74 rfl rfl ?_
        refine r_ret dX10_hours_76 rfl (k _ ?_)
        unfold gHours
        rw [if_neg (by omega), if_neg (by omega)]
        rw [Int.toNat_natCast, e57]
      · refine r_ifneF 37 dX10_hours_34 rfl 44 (by decide) (by decide) (by decide) ?_
        refine r_aloadN 38 dX10_hours_37 rfl rfl ?_
        refine r_bipush 40 dX10_hours_38 rfl (by decide) ?_
        refine r_cv1 43 dX10_hours_40 rfl gX10_60 rfl (by decide) (sh_0 z _) rfl rfl (Nat.le_of_ble_eq_true rfl) (Nat.le_of_ble_eq_true rfl) rfl ?_
        refine x_refuse (k0 := 6) (by decide) (by decide) ?_
        refine r_ret dX10_hours_43 rfl (kb _ 6 (by decide) ?_)
        unfold gHours
        rw [if_neg (by omega), if_pos (by omega)]
    · refine r_ifeqT 37 0 dX10_hours_24 (by decide) (by decide) (by decide) ?_
      refine r_aloadN 38 dX10_hours_37 rfl rfl ?_
      refine r_bipush 40 dX10_hours_38 rfl (by decide) ?_
      refine r_cv1 43 dX10_hours_40 rfl gX10_60 rfl (by decide) (sh_0 z _) rfl rfl (Nat.le_of_ble_eq_true rfl) (Nat.le_of_ble_eq_true rfl) rfl ?_
      refine x_refuse (k0 := 6) (by decide) (by decide) ?_
      refine r_ret dX10_hours_43 rfl (kb _ 6 (by decide) ?_)
      unfold gHours
      rw [if_neg (by omega), if_pos (by omega)]
  · refine r_ifneF 11 dX10_hours_8 rfl 17 (by decide) (by decide) (by decide) ?_
    refine r_aloadN 12 dX10_hours_11 rfl rfl ?_
    refine r_iconst 13 dX10_hours_12 rfl ?_
    refine r_cv1 16 dX10_hours_13 rfl gX10_60 rfl (by decide) (sh_0 z _) rfl rfl (Nat.le_of_ble_eq_true rfl) (Nat.le_of_ble_eq_true rfl) rfl ?_
    refine x_refuse (k0 := 1) (by decide) (by decide) ?_
    refine r_ret dX10_hours_16 rfl (kb _ 1 (by decide) ?_)
    unfold gHours
    rw [if_pos (by omega)]
theorem x_cost {z : xZ} {d : Nat} {Q : tQ} {c : tC} {L : tL} {n : Nat} {s v : Int}  (hR : RX c) (hn : c 50 0 2 = (n : Int)) (hs : inR s) (hv : inR v)  (kb : ∀ r w, w ≠ 0 → (r, w) = gCost (c 50 0) (c 51) s v → Q (some (.int (iI r))) (xRe c w) L) (k : ∀ r, (r, 0) = gCost (c 50 0) (c 51) s v → Q (some (.int (iI r))) (cu c 13 s.toNat 6 v) L) : En z (d + 20) MX10_cost Q 0 [some (.ref (xad z 0 0)), some (.int (iI s)), some (.int (iI v)), none] [] c L := by
  have s1 := hs.1
  have s2 := hs.2
  have v1 := hv.1
  have v2 := hv.2
  have hg := R0_rng hR
  have hc := R0_scal hR
  refine r_aloadN 1 dX10_cost_0 rfl rfl ?_
  refine r_getq 4 dX10_cost_1 rfl fX10_26 (by decide) (sh_0 z _) rfl ?_
  refine r_iloadN 5 dX10_cost_4 rfl rfl ?_
  refine r_cv1 8 dX10_cost_5 rfl gX10_101 rfl (by decide) (sh_8 z _) rfl rfl (Nat.le_of_ble_eq_true rfl) (Nat.le_of_ble_eq_true rfl) rfl ?_
  refine x_isSource hR (by assumption) (fun y5 => ?_) (fun y5 => ?_)
  · refine r_ifneT 17 0 dX10_cost_8 (by decide) (by decide) (by decide) ?_
    refine r_iloadN 18 dX10_cost_17 rfl rfl ?_
    refine r_iconst 19 dX10_cost_18 rfl ?_
    refine r_bipush 21 dX10_cost_19 rfl (by decide) ?_
    refine r_cs3 24 dX10_cost_21 rfl gX10_137 (Nat.le_of_ble_eq_true rfl) (Nat.le_of_ble_eq_true rfl) rfl ?_
    refine x_isWithin (by assumption) (by omega) (by omega) (fun y21 => ?_) (fun y21 => ?_)
    · refine r_ifneT 34 0 dX10_cost_24 (by decide) (by decide) (by decide) ?_
      obtain ⟨s0, hs00⟩ := Int.eq_ofNat_of_zero_le (show 0 ≤ s by omega)
      subst hs00
      have hq := R0_src hR s0 (by omega)
      refine r_aloadN 35 dX10_cost_34 rfl rfl ?_
      refine r_getq 38 dX10_cost_35 rfl fX10_26 (by decide) (sh_0 z _) rfl ?_
      refine r_getq 41 dX10_cost_38 rfl fX10_118 (by decide) (sh_8 z _) rfl ?_
      refine r_iloadN 42 dX10_cost_41 rfl rfl ?_
      refine r_aald 43 dX10_cost_42 (s0) rfl rfl (by decide) (sh_10a z) rfl (by decide) (by omega) (by omega) ?_
      refine r_geti 46 dX10_cost_43 rfl fX10_177 (ct_13 (by omega)) (sh_13 z _) rfl ?_
      refine r_istore3 47 dX10_cost_46 rfl rfl (by decide) ?_
      refine r_aloadN 48 dX10_cost_47 rfl rfl ?_
      refine r_getq 51 dX10_cost_48 rfl fX10_26 (by decide) (sh_0 z _) rfl ?_
      refine r_getq 54 dX10_cost_51 rfl fX10_118 (by decide) (sh_8 z _) rfl ?_
      refine r_iloadN 55 dX10_cost_54 rfl rfl ?_
      refine r_aald 56 dX10_cost_55 (s0) rfl rfl (by decide) (sh_10a z) rfl (by decide) (by omega) (by omega) ?_
      refine r_iloadN 57 dX10_cost_56 rfl rfl ?_
      refine r_puti 60 dX10_cost_57 rfl pX10_177 (ct_13 (by omega)) (sh_13 z _) rfl ?_
      refine r_iloadN 61 dX10_cost_60 rfl rfl ?_
      refine r_ret dX10_cost_61 rfl (k _ ?_)
      unfold gCost
      rw [if_neg (by omega), if_neg (by omega)]
      rw [Int.toNat_natCast, hq.1.2.2.2.2.2.2]
    · refine r_ifneF 27 dX10_cost_24 rfl 34 (by decide) (by decide) (by decide) ?_
      refine r_aloadN 28 dX10_cost_27 rfl rfl ?_
      refine r_bipush 30 dX10_cost_28 rfl (by decide) ?_
      refine r_cv1 33 dX10_cost_30 rfl gX10_60 rfl (by decide) (sh_0 z _) rfl rfl (Nat.le_of_ble_eq_true rfl) (Nat.le_of_ble_eq_true rfl) rfl ?_
      refine x_refuse (k0 := 6) (by decide) (by decide) ?_
      refine r_ret dX10_cost_33 rfl (kb _ 6 (by decide) ?_)
      unfold gCost
      rw [if_neg (by omega), if_pos (by omega)]
  · refine r_ifneF 11 dX10_cost_8 rfl 17 (by decide) (by decide) (by decide) ?_
    refine r_aloadN 12 dX10_cost_11 rfl rfl ?_
    refine r_iconst 13 dX10_cost_12 rfl ?_
    refine r_cv1 16 dX10_cost_13 rfl gX10_60 rfl (by decide) (sh_0 z _) rfl rfl (Nat.le_of_ble_eq_true rfl) (Nat.le_of_ble_eq_true rfl) rfl ?_
    refine x_refuse (k0 := 1) (by decide) (by decide) ?_
    refine r_ret dX10_cost_16 rfl (kb _ 1 (by decide) ?_)
    unfold gCost
    rw [if_pos (by omega)]
theorem x_size {z : xZ} {d : Nat} {Q : tQ} {c : tC} {L : tL} {n : Nat} {p v : Int}  (hR : RX c) (hn : c 50 0 2 = (n : Int)) (hp : inR p) (hv : inR v)  (kb : ∀ r w, w ≠ 0 → (r, w) = gSize (c 51) p v → Q (some (.int (iI r))) (xRe c w) L) (k : ∀ r, (r, 0) = gSize (c 51) p v → Q (some (.int (iI r))) (cu c 25 0 p.toNat v) L) : En z (d + 20) MX10_size Q 0 [some (.ref (xad z 0 0)), some (.int (iI p)), some (.int (iI v)), none] [] c L := by
  have p1 := hp.1
  have p2 := hp.2
  have v1 := hv.1
  have v2 := hv.2
  have hg := R0_rng hR
  have hc := R0_scal hR
  refine r_iloadN 1 dX10_size_0 rfl rfl ?_
  refine r_cs1 4 dX10_size_1 rfl gX10_131 (Nat.le_of_ble_eq_true rfl) (Nat.le_of_ble_eq_true rfl) rfl ?_
  refine x_isSpot (by assumption) (fun y1 => ?_) (fun y1 => ?_)
  · refine r_ifneT 13 0 dX10_size_4 (by decide) (by decide) (by decide) ?_
    refine r_iloadN 14 dX10_size_13 rfl rfl ?_
    refine r_iconst 15 dX10_size_14 rfl ?_
    refine r_bipush 17 dX10_size_15 rfl (by decide) ?_
    refine r_cs3 20 dX10_size_17 rfl gX10_137 (Nat.le_of_ble_eq_true rfl) (Nat.le_of_ble_eq_true rfl) rfl ?_
    refine x_isWithin (by assumption) (by omega) (by omega) (fun y17 => ?_) (fun y17 => ?_)
    · refine r_ifneT 30 0 dX10_size_20 (by decide) (by decide) (by decide) ?_
      obtain ⟨p0, hp00⟩ := Int.eq_ofNat_of_zero_le (show 0 ≤ p by omega)
      subst hp00
      have hsz := R0_size hR p0 (by omega)
      refine r_aloadN 31 dX10_size_30 rfl rfl ?_
      refine r_getq 34 dX10_size_31 rfl fX10_26 (by decide) (sh_0 z _) rfl ?_
      refine r_getq 37 dX10_size_34 rfl fX10_186 (by decide) (sh_8 z _) rfl ?_
      refine r_iloadN 38 dX10_size_37 rfl rfl ?_
      refine r_iald 39 dX10_size_38 (p0) rfl rfl (by decide) (sh_25 z _) (by decide) (by omega) (by omega) ?_
      refine r_istore3 40 dX10_size_39 rfl rfl (by decide) ?_
      refine r_aloadN 41 dX10_size_40 rfl rfl ?_
      refine r_getq 44 dX10_size_41 rfl fX10_26 (by decide) (sh_0 z _) rfl ?_
      refine r_getq 47 dX10_size_44 rfl fX10_186 (by decide) (sh_8 z _) rfl ?_
      refine r_iloadN 48 dX10_size_47 rfl rfl ?_
      refine r_iloadN 49 dX10_size_48 rfl rfl ?_
      refine r_iast 50 dX10_size_49 (p0) rfl rfl (by decide) (sh_25 z _) (by decide) (by omega) (by omega) ?_
      refine r_iloadN 51 dX10_size_50 rfl rfl ?_
      refine r_ret dX10_size_51 rfl (k _ ?_)
      unfold gSize
      rw [if_neg (by omega), if_neg (by omega)]
      rw [Int.toNat_natCast, hsz.1]
    · refine r_ifneF 23 dX10_size_20 rfl 30 (by decide) (by decide) (by decide) ?_
      refine r_aloadN 24 dX10_size_23 rfl rfl ?_
      refine r_bipush 26 dX10_size_24 rfl (by decide) ?_
      refine r_cv1 29 dX10_size_26 rfl gX10_60 rfl (by decide) (sh_0 z _) rfl rfl (Nat.le_of_ble_eq_true rfl) (Nat.le_of_ble_eq_true rfl) rfl ?_
      refine x_refuse (k0 := 6) (by decide) (by decide) ?_
      refine r_ret dX10_size_29 rfl (kb _ 6 (by decide) ?_)
      unfold gSize
      rw [if_neg (by omega), if_pos (by omega)]
  · refine r_ifneF 7 dX10_size_4 rfl 13 (by decide) (by decide) (by decide) ?_
    refine r_aloadN 8 dX10_size_7 rfl rfl ?_
    refine r_iconst 9 dX10_size_8 rfl ?_
    refine r_cv1 12 dX10_size_9 rfl gX10_60 rfl (by decide) (sh_0 z _) rfl rfl (Nat.le_of_ble_eq_true rfl) (Nat.le_of_ble_eq_true rfl) rfl ?_
    refine x_refuse (k0 := 1) (by decide) (by decide) ?_
    refine r_ret dX10_size_12 rfl (kb _ 1 (by decide) ?_)
    unfold gSize
    rw [if_pos (by omega)]
theorem m_size {z : xZ} {d : Nat} {Q : tQ} {c : tC} {L : tL} {p v : Int} (hg : MG c) (hp : inR p) (hv : inR v)  (kb : ∀ r w, w ≠ 0 → (r, w) = gSize (c 51) p v → Q (some (.int (iI r))) (mRe c w) L) (k : ∀ r, (r, 0) = gSize (c 51) p v → Q (some (.int (iI r))) (cu c 51 12 p.toNat v) L) : En z (d + 20) MX11_size Q 0 [some (.ref (xad z 50 0)), some (.int (iI p)), some (.int (iI v)), none] [] c L := by
  have p1 := hp.1
  have p2 := hp.2
  have v1 := hv.1
  have v2 := hv.2
  unfold MG RT_rng at hg
  refine r_aloadN 1 dX11_size_0 rfl rfl ?_
  refine r_iloadN 2 dX11_size_1 rfl rfl ?_
  refine r_cv1 5 dX11_size_2 rfl gX11_191 rfl (by decide) (sh_50 z _) rfl rfl (Nat.le_of_ble_eq_true rfl) (Nat.le_of_ble_eq_true rfl) rfl ?_
  refine m_isSpot (by assumption) (fun y2 => ?_) (fun y2 => ?_)
  · refine r_ifneT 14 0 dX11_size_5 (by decide) (by decide) (by decide) ?_
    refine r_iloadN 15 dX11_size_14 rfl rfl ?_
    refine r_iflt 24 18 dX11_size_15 rfl (by decide) (by omega) (fun h15 => ?_) (fun h15 => ?_)
    · refine r_aloadN 25 dX11_size_24 rfl rfl ?_
      refine r_bipush 27 dX11_size_25 rfl (by decide) ?_
      refine r_cv1 30 dX11_size_27 rfl gX11_184 rfl (by decide) (sh_50 z _) rfl rfl (Nat.le_of_ble_eq_true rfl) (Nat.le_of_ble_eq_true rfl) rfl ?_
      refine m_no (k0 := 6) (by decide) (by decide) ?_
      refine r_ret dX11_size_30 rfl (kb _ 6 (by decide) ?_)
      unfold gSize
      rw [if_neg (by omega), if_pos (by omega)]
    · refine r_iloadN 19 dX11_size_18 rfl rfl ?_
      refine r_bipush 21 dX11_size_19 rfl (by decide) ?_
      refine r_icle 31 24 dX11_size_21 rfl (by decide) (by omega) (by omega) (fun h21 => ?_) (fun h21 => ?_)
      · obtain ⟨p0, hp00⟩ := Int.eq_ofNat_of_zero_le (show 0 ≤ p by omega)
        subst hp00
        refine r_aloadN 32 dX11_size_31 rfl rfl ?_
        refine r_getq 35 dX11_size_32 rfl fX11_23 (by decide) (sh_50 z _) rfl ?_
        refine r_iloadN 36 dX11_size_35 rfl rfl ?_
        refine r_iald (n := 64) 37 dX11_size_36 (p0) rfl rfl (by decide) (sh_51 z _) (by decide) (by omega) (by omega) ?_
        refine r_istore3 38 dX11_size_37 rfl rfl (by decide) ?_
        refine r_aloadN 39 dX11_size_38 rfl rfl ?_
        refine r_getq 42 dX11_size_39 rfl fX11_23 (by decide) (sh_50 z _) rfl ?_
        refine r_iloadN 43 dX11_size_42 rfl rfl ?_
        refine r_iloadN 44 dX11_size_43 rfl rfl ?_
        refine r_iast (n := 64) 45 dX11_size_44 (p0) rfl rfl (by decide) (sh_51 z _) (by decide) (by omega) (by omega) ?_
        refine r_iloadN 46 dX11_size_45 rfl rfl ?_
        refine r_ret dX11_size_46 rfl (k _ ?_)
        unfold gSize
        rw [if_neg (by omega), if_neg (by omega)]
        rw [Int.toNat_natCast]
      · refine r_aloadN 25 dX11_size_24 rfl rfl ?_
        refine r_bipush 27 dX11_size_25 rfl (by decide) ?_
        refine r_cv1 30 dX11_size_27 rfl gX11_184 rfl (by decide) (sh_50 z _) rfl rfl (Nat.le_of_ble_eq_true rfl) (Nat.le_of_ble_eq_true rfl) rfl ?_
        refine m_no (k0 := 6) (by decide) (by decide) ?_
        refine r_ret dX11_size_30 rfl (kb _ 6 (by decide) ?_)
        unfold gSize
        rw [if_neg (by omega), if_pos (by omega)]
  · refine r_ifneF 8 dX11_size_5 rfl 14 (by decide) (by decide) (by decide) ?_
    refine r_aloadN 9 dX11_size_8 rfl rfl ?_
    refine r_iconst 10 dX11_size_9 rfl ?_
    refine r_cv1 13 dX11_size_10 rfl gX11_184 rfl (by decide) (sh_50 z _) rfl rfl (Nat.le_of_ble_eq_true rfl) (Nat.le_of_ble_eq_true rfl) rfl ?_
    refine m_no (k0 := 1) (by decide) (by decide) ?_
    refine r_ret dX11_size_13 rfl (kb _ 1 (by decide) ?_)
    unfold gSize
    rw [if_pos (by omega)]
theorem x_weather {z : xZ} {d : Nat} {Q : tQ} {c : tC} {L : tL} {n : Nat} {p v : Int}  (hR : RX c) (hn : c 50 0 2 = (n : Int)) (hp : inR p) (hv : inR v)  (kb : ∀ r w, w ≠ 0 → (r, w) = gWeather (c 51) p v → Q (some (.int (iI r))) (xRe c w) L) (k : ∀ r, (r, 0) = gWeather (c 51) p v → Q (some (.int (iI r))) (cu c 26 0 p.toNat v) L) : En z (d + 20) MX10_weather Q 0 [some (.ref (xad z 0 0)), some (.int (iI p)), some (.int (iI v)), none] [] c L := by
  have p1 := hp.1
  have p2 := hp.2
  have v1 := hv.1
  have v2 := hv.2
  have hg := R0_rng hR
  have hc := R0_scal hR
  refine r_iloadN 1 dX10_weather_0 rfl rfl ?_
  refine r_iconst 2 dX10_weather_1 rfl ?_
  refine r_bipush 4 dX10_weather_2 rfl (by decide) ?_
  refine r_cs3 7 dX10_weather_4 rfl gX10_137 (Nat.le_of_ble_eq_true rfl) (Nat.le_of_ble_eq_true rfl) rfl ?_
  refine x_isWithin (by assumption) (by omega) (by omega) (fun y4 => ?_) (fun y4 => ?_)
  · refine r_ifeqF 10 dX10_weather_7 rfl 19 (by decide) (by decide) (by decide) ?_
    refine r_iloadN 11 dX10_weather_10 rfl rfl ?_
    refine r_iconst 12 dX10_weather_11 rfl ?_
    refine r_iconst 13 dX10_weather_12 rfl ?_
    refine r_cs3 16 dX10_weather_13 rfl gX10_137 (Nat.le_of_ble_eq_true rfl) (Nat.le_of_ble_eq_true rfl) rfl ?_
    refine x_isWithin (by assumption) (by omega) (by omega) (fun y13 => ?_) (fun y13 => ?_)
    · refine r_ifneT 26 0 dX10_weather_16 (by decide) (by decide) (by decide) ?_
      obtain ⟨p0, hp00⟩ := Int.eq_ofNat_of_zero_le (show 0 ≤ p by omega)
      subst hp00
      have hst := R0_storm hR p0 (by omega)
      refine r_aloadN 27 dX10_weather_26 rfl rfl ?_
      refine r_getq 30 dX10_weather_27 rfl fX10_26 (by decide) (sh_0 z _) rfl ?_
      refine r_getq 33 dX10_weather_30 rfl fX10_189 (by decide) (sh_8 z _) rfl ?_
      refine r_iloadN 34 dX10_weather_33 rfl rfl ?_
      refine r_iald 35 dX10_weather_34 (p0) rfl rfl (by decide) (sh_26 z _) (by decide) (by omega) (by omega) ?_
      refine r_istore3 36 dX10_weather_35 rfl rfl (by decide) ?_
      refine r_aloadN 37 dX10_weather_36 rfl rfl ?_
      refine r_getq 40 dX10_weather_37 rfl fX10_26 (by decide) (sh_0 z _) rfl ?_
      refine r_getq 43 dX10_weather_40 rfl fX10_189 (by decide) (sh_8 z _) rfl ?_
      refine r_iloadN 44 dX10_weather_43 rfl rfl ?_
      refine r_iloadN 45 dX10_weather_44 rfl rfl ?_
      refine r_iast 46 dX10_weather_45 (p0) rfl rfl (by decide) (sh_26 z _) (by decide) (by omega) (by omega) ?_
      refine r_iloadN 47 dX10_weather_46 rfl rfl ?_
      refine r_ret dX10_weather_47 rfl (k _ ?_)
      unfold gWeather
      rw [if_neg (by omega)]
      rw [Int.toNat_natCast, hst.1]
    · refine r_ifneF 19 dX10_weather_16 rfl 26 (by decide) (by decide) (by decide) ?_
      refine r_aloadN 20 dX10_weather_19 rfl rfl ?_
      refine r_bipush 22 dX10_weather_20 rfl (by decide) ?_
      refine r_cv1 25 dX10_weather_22 rfl gX10_60 rfl (by decide) (sh_0 z _) rfl rfl (Nat.le_of_ble_eq_true rfl) (Nat.le_of_ble_eq_true rfl) rfl ?_
      refine x_refuse (k0 := 6) (by decide) (by decide) ?_
      refine r_ret dX10_weather_25 rfl (kb _ 6 (by decide) ?_)
      unfold gWeather
      rw [if_pos (by omega)]
  · refine r_ifeqT 19 0 dX10_weather_7 (by decide) (by decide) (by decide) ?_
    refine r_aloadN 20 dX10_weather_19 rfl rfl ?_
    refine r_bipush 22 dX10_weather_20 rfl (by decide) ?_
    refine r_cv1 25 dX10_weather_22 rfl gX10_60 rfl (by decide) (sh_0 z _) rfl rfl (Nat.le_of_ble_eq_true rfl) (Nat.le_of_ble_eq_true rfl) rfl ?_
    refine x_refuse (k0 := 6) (by decide) (by decide) ?_
    refine r_ret dX10_weather_25 rfl (kb _ 6 (by decide) ?_)
    unfold gWeather
    rw [if_pos (by omega)]
theorem x_pass {z : xZ} {d : Nat} {Q : tQ} {c : tC} {L : tL} {n : Nat} {v : Int}  (hR : RX c) (hn : c 50 0 2 = (n : Int)) (hv : inR v)  (kb : ∀ r w, w ≠ 0 → (r, w) = gPass (c 50 0) v → Q (some (.int (iI r))) (xRe c w) L) (k : ∀ r, (r, 0) = gPass (c 50 0) v → Q (some (.int (iI r))) (cu c 8 0 0 (c 8 0 0 + v)) L) : En z (d + 20) MX10_pass Q 0 [some (.ref (xad z 0 0)), some (.int (iI v))] [] c L := by
  have v1 := hv.1
  have v2 := hv.2
  have hg := R0_rng hR
  have hc := R0_scal hR
  refine r_iloadN 1 dX10_pass_0 rfl rfl ?_
  refine r_iconst 2 dX10_pass_1 rfl ?_
  refine r_bipush 4 dX10_pass_2 rfl (by decide) ?_
  refine r_cs3 7 dX10_pass_4 rfl gX10_137 (Nat.le_of_ble_eq_true rfl) (Nat.le_of_ble_eq_true rfl) rfl ?_
  refine x_isWithin (by assumption) (by omega) (by omega) (fun y4 => ?_) (fun y4 => ?_)
  · refine r_ifeqF 10 dX10_pass_7 rfl 25 (by decide) (by decide) (by decide) ?_
    refine r_aloadN 11 dX10_pass_10 rfl rfl ?_
    refine r_getq 14 dX10_pass_11 rfl fX10_26 (by decide) (sh_0 z _) rfl ?_
    refine r_geti 17 dX10_pass_14 rfl fX10_192 (by decide) (sh_8 z _) rfl ?_
    refine r_iloadN 18 dX10_pass_17 rfl rfl ?_
    refine r_iadd 19 dX10_pass_18 rfl ?_
    refine r_cs1 22 dX10_pass_19 rfl gX10_195 (Nat.le_of_ble_eq_true rfl) (Nat.le_of_ble_eq_true rfl) rfl ?_
    refine x_isHour (by constructor <;> omega) (fun y19 => ?_) (fun y19 => ?_)
    · refine r_ifneT 32 0 dX10_pass_22 (by decide) (by decide) (by decide) ?_
      refine r_aloadN 33 dX10_pass_32 rfl rfl ?_
      refine r_getq 36 dX10_pass_33 rfl fX10_26 (by decide) (sh_0 z _) rfl ?_
      refine r_dupr 37 dX10_pass_36 rfl ?_
      refine r_geti 40 dX10_pass_37 rfl fX10_192 (by decide) (sh_8 z _) rfl ?_
      refine r_iloadN 41 dX10_pass_40 rfl rfl ?_
      refine r_iadd 42 dX10_pass_41 rfl ?_
      refine r_puti 45 dX10_pass_42 rfl pX10_192 (by decide) (sh_8 z _) rfl ?_
      refine r_aloadN 46 dX10_pass_45 rfl rfl ?_
      refine r_getq 49 dX10_pass_46 rfl fX10_26 (by decide) (sh_0 z _) rfl ?_
      refine r_geti 52 dX10_pass_49 rfl fX10_192 (by decide) (sh_8 z _) rfl ?_
      refine r_ret dX10_pass_52 rfl (k _ ?_)
      unfold gPass
      rw [if_neg (by omega), ← hc.1]
      rfl
    · refine r_ifneF 25 dX10_pass_22 rfl 32 (by decide) (by decide) (by decide) ?_
      refine r_aloadN 26 dX10_pass_25 rfl rfl ?_
      refine r_bipush 28 dX10_pass_26 rfl (by decide) ?_
      refine r_cv1 31 dX10_pass_28 rfl gX10_60 rfl (by decide) (sh_0 z _) rfl rfl (Nat.le_of_ble_eq_true rfl) (Nat.le_of_ble_eq_true rfl) rfl ?_
      refine x_refuse (k0 := 6) (by decide) (by decide) ?_
      refine r_ret dX10_pass_31 rfl (kb _ 6 (by decide) ?_)
      unfold gPass
      rw [if_pos (by omega)]
  · refine r_ifeqT 25 0 dX10_pass_7 (by decide) (by decide) (by decide) ?_
    refine r_aloadN 26 dX10_pass_25 rfl rfl ?_
    refine r_bipush 28 dX10_pass_26 rfl (by decide) ?_
    refine r_cv1 31 dX10_pass_28 rfl gX10_60 rfl (by decide) (sh_0 z _) rfl rfl (Nat.le_of_ble_eq_true rfl) (Nat.le_of_ble_eq_true rfl) rfl ?_
    refine x_refuse (k0 := 6) (by decide) (by decide) ?_
    refine r_ret dX10_pass_31 rfl (kb _ 6 (by decide) ?_)
    unfold gPass
    rw [if_pos (by omega)]
theorem m_pass {z : xZ} {d : Nat} {Q : tQ} {c : tC} {L : tL} {v : Int} (hg : MG c) (hv : inR v)  (kb : ∀ r w, w ≠ 0 → (r, w) = gPass (c 50 0) v → Q (some (.int (iI r))) (mRe c w) L) (k : ∀ r, (r, 0) = gPass (c 50 0) v → Q (some (.int (iI r))) (cu c 50 0 0 (c 50 0 0 + v)) L) : En z (d + 20) MX11_pass Q 0 [some (.ref (xad z 50 0)), some (.int (iI v))] [] c L := by
  have v1 := hv.1
  have v2 := hv.2
  unfold MG RT_rng at hg
  refine r_iloadN 1 dX11_pass_0 rfl rfl ?_
  refine r_iconst 2 dX11_pass_1 rfl ?_
  refine r_iclt 23 5 dX11_pass_2 rfl (by decide) (by omega) (by omega) (fun h2 => ?_) (fun h2 => ?_)
  · refine r_aloadN 24 dX11_pass_23 rfl rfl ?_
    refine r_bipush 26 dX11_pass_24 rfl (by decide) ?_
    refine r_cv1 29 dX11_pass_26 rfl gX11_184 rfl (by decide) (sh_50 z _) rfl rfl (Nat.le_of_ble_eq_true rfl) (Nat.le_of_ble_eq_true rfl) rfl ?_
    refine m_no (k0 := 6) (by decide) (by decide) ?_
    refine r_ret dX11_pass_29 rfl (kb _ 6 (by decide) ?_)
    unfold gPass
    rw [if_pos (by omega)]
  · refine r_iloadN 6 dX11_pass_5 rfl rfl ?_
    refine r_bipush 8 dX11_pass_6 rfl (by decide) ?_
    refine r_icgt 23 11 dX11_pass_8 rfl (by decide) (by omega) (by omega) (fun h8 => ?_) (fun h8 => ?_)
    · refine r_aloadN 24 dX11_pass_23 rfl rfl ?_
      refine r_bipush 26 dX11_pass_24 rfl (by decide) ?_
      refine r_cv1 29 dX11_pass_26 rfl gX11_184 rfl (by decide) (sh_50 z _) rfl rfl (Nat.le_of_ble_eq_true rfl) (Nat.le_of_ble_eq_true rfl) rfl ?_
      refine m_no (k0 := 6) (by decide) (by decide) ?_
      refine r_ret dX11_pass_29 rfl (kb _ 6 (by decide) ?_)
      unfold gPass
      rw [if_pos (by omega)]
    · refine r_aloadN 12 dX11_pass_11 rfl rfl ?_
      refine r_geti 15 dX11_pass_12 rfl fX11_200 (by decide) (sh_50 z _) rfl ?_
      refine r_iloadN 16 dX11_pass_15 rfl rfl ?_
      refine r_iadd 17 dX11_pass_16 rfl ?_
      refine r_sipush 20 dX11_pass_17 rfl (by decide) ?_
      refine r_iclt 30 23 dX11_pass_20 rfl (by decide) (by omega) (by omega) (fun h20 => ?_) (fun h20 => ?_)
      · refine r_aloadN 31 dX11_pass_30 rfl rfl ?_
        refine r_dupr 32 dX11_pass_31 rfl ?_
        refine r_geti 35 dX11_pass_32 rfl fX11_200 (by decide) (sh_50 z _) rfl ?_
        refine r_iloadN 36 dX11_pass_35 rfl rfl ?_
        refine r_iadd 37 dX11_pass_36 rfl ?_
        refine r_puti 40 dX11_pass_37 rfl pX11_200 (by decide) (sh_50 z _) rfl ?_
        refine r_aloadN 41 dX11_pass_40 rfl rfl ?_
        refine r_geti 44 dX11_pass_41 rfl fX11_200 (by decide) (sh_50 z _) rfl ?_
        refine r_ret dX11_pass_44 rfl (k _ ?_)
        unfold gPass
        rw [if_neg (by omega)]
        rfl
      · refine r_aloadN 24 dX11_pass_23 rfl rfl ?_
        refine r_bipush 26 dX11_pass_24 rfl (by decide) ?_
        refine r_cv1 29 dX11_pass_26 rfl gX11_184 rfl (by decide) (sh_50 z _) rfl rfl (Nat.le_of_ble_eq_true rfl) (Nat.le_of_ble_eq_true rfl) rfl ?_
        refine m_no (k0 := 6) (by decide) (by decide) ?_
        refine r_ret dX11_pass_29 rfl (kb _ 6 (by decide) ?_)
        unfold gPass
        rw [if_pos (by omega)]
theorem x_law {z : xZ} {d : Nat} {Q : tQ} {c : tC} {L : tL} {n : Nat} {v : Int} (hR : RX c) (hn : c 50 0 2 = (n : Int)) (hv : inR v) (k : ∀ r w, (r, w) = gLaw (c 51) v → Q (some (.int (iI r))) (xRe c w) L) : En z (d + 20) MX10_law Q 0 [some (.ref (xad z 0 0)), some (.int (iI v))] [] c L := by
  have v1 := hv.1
  have v2 := hv.2
  have hg := R0_rng hR
  have hc := R0_scal hR
  refine r_iloadN 1 dX10_law_0 rfl rfl ?_
  refine r_iconst 2 dX10_law_1 rfl ?_
  refine r_iconst 3 dX10_law_2 rfl ?_
  refine r_cs3 6 dX10_law_3 rfl gX10_137 (Nat.le_of_ble_eq_true rfl) (Nat.le_of_ble_eq_true rfl) rfl ?_
  refine x_isWithin (by assumption) (by omega) (by omega) (fun y3 => ?_) (fun y3 => ?_)
  · refine r_ifeqF 9 dX10_law_6 rfl 21 (by decide) (by decide) (by decide) ?_
    obtain ⟨v0, hv00⟩ := Int.eq_ofNat_of_zero_le (show 0 ≤ v by omega)
    subst hv00
    have hlw := R0_law hR
    refine r_aloadN 10 dX10_law_9 rfl rfl ?_
    refine r_getq 13 dX10_law_10 rfl fX10_26 (by decide) (sh_0 z _) rfl ?_
    refine r_getq 16 dX10_law_13 rfl fX10_198 (by decide) (sh_8 z _) rfl ?_
    refine r_iloadN 17 dX10_law_16 rfl rfl ?_
    refine r_iald 18 dX10_law_17 (v0) rfl rfl (by decide) (sh_27 z _) (by decide) (by omega) (by omega) ?_
    refine r_goto 27 dX10_law_18 (by decide) ?_
    first
      | (refine r_ret dX10_law_27 rfl (k _ 0 ?_); unfold gLaw; rw [if_pos (by omega), Int.toNat_natCast]; rcases (show v0 = 0 ∨ v0 = 1 ∨ v0 = 2 ∨ v0 = 3 ∨ v0 = 4 ∨ v0 = 5 by omega) with e | e | e | e | e | e <;> (subst e; exact Prod.ext (by show c 27 0 _ = c 51 11 _; omega) rfl))
      | (refine r_ret dX10_law_27 rfl (k _ 5 ?_); unfold gLaw; rw [if_neg (by omega)])
  · refine r_ifeqT 21 0 dX10_law_6 (by decide) (by decide) (by decide) ?_
    refine r_aloadN 22 dX10_law_21 rfl rfl ?_
    refine r_bipush 24 dX10_law_22 rfl (by decide) ?_
    refine r_cv1 27 dX10_law_24 rfl gX10_60 rfl (by decide) (sh_0 z _) rfl rfl (Nat.le_of_ble_eq_true rfl) (Nat.le_of_ble_eq_true rfl) rfl ?_
    refine x_refuse (k0 := 5) (by decide) (by decide) ?_
    first
      | (refine r_ret dX10_law_27 rfl (k _ 0 ?_); unfold gLaw; rw [if_pos (by omega), Int.toNat_natCast]; rcases (show v0 = 0 ∨ v0 = 1 ∨ v0 = 2 ∨ v0 = 3 ∨ v0 = 4 ∨ v0 = 5 by omega) with e | e | e | e | e | e <;> (subst e; exact Prod.ext (by show c 27 0 _ = c 51 11 _; omega) rfl))
      | (refine r_ret dX10_law_27 rfl (k _ 5 ?_); unfold gLaw; rw [if_neg (by omega)])
