theorem m_sounds {z : xZ} {d : Nat} {Q : tQ} {c : tC} {L : tL} {n : Nat} {s h : Int} (hR : RX c) (hn : c 50 0 2 = (n : Int)) (hs : inR s) (hh : inR h) (k : ∀ r w, (r, w) = gSounds (c 50 0) (c 51) s h → Q (some (.int (iI r))) (mRe c w) L) : En z (d + 20) MX11_sounds Q 0 [some (.ref (xad z 50 0)), some (.int (iI s)), some (.int (iI h))] [] c L := by
  have s1 := hs.1
  have s2 := hs.2
  have h1 := hh.1
  have h2 := hh.2
  have hg := R0_rng hR
  have hc := R0_scal hR
  refine r_aloadN 1 dX11_sounds_0 rfl rfl ?_
  refine r_iloadN 2 dX11_sounds_1 rfl rfl ?_
  refine r_cv1 5 dX11_sounds_2 rfl gX11_188 rfl (by decide) (sh_50 z _) rfl rfl (Nat.le_of_ble_eq_true rfl) (Nat.le_of_ble_eq_true rfl) rfl ?_
  refine m_isSource hR (by assumption) (fun y2 => ?_) (fun y2 => ?_)
  · refine r_ifeqF 8 dX11_sounds_5 rfl 16 (by decide) (by decide) (by decide) ?_
    refine r_aloadN 9 dX11_sounds_8 rfl rfl ?_
    refine r_iloadN 10 dX11_sounds_9 rfl rfl ?_
    refine r_cv1 13 dX11_sounds_10 rfl gX11_177 rfl (by decide) (sh_50 z _) rfl rfl (Nat.le_of_ble_eq_true rfl) (Nat.le_of_ble_eq_true rfl) rfl ?_
    refine m_isHour (by assumption) (fun y10 => ?_) (fun y10 => ?_)
    · refine r_ifneT 18 0 dX11_sounds_13 (by decide) (by decide) (by decide) ?_
      obtain ⟨s0, hs00⟩ := Int.eq_ofNat_of_zero_le (show 0 ≤ s by omega)
      subst hs00
      refine r_aloadN 19 dX11_sounds_18 rfl rfl ?_
      refine r_iloadN 20 dX11_sounds_19 rfl rfl ?_
      refine r_iloadN 21 dX11_sounds_20 rfl rfl ?_
      refine r_cv2 24 dX11_sounds_21 rfl gX11_292 rfl (by decide) (sh_50 z _) rfl rfl (Nat.le_of_ble_eq_true rfl) (Nat.le_of_ble_eq_true rfl) rfl ?_
      refine m_isSounding hR hn (by omega) (by omega) (fun y21 => ?_) (fun y21 => ?_)
      · refine r_ifeqF 27 dX11_sounds_24 rfl 31 (by decide) (by decide) (by decide) ?_
        refine r_iconst 28 dX11_sounds_27 rfl ?_
        refine r_goto 32 dX11_sounds_28 (by decide) ?_
        refine r_ret dX11_sounds_32 rfl (k _ 0 ?_)
        unfold gSounds
        rw [if_pos (by omega)]
        rw [Int.toNat_natCast, y21]
        rfl
      · refine r_ifeqT 31 0 dX11_sounds_24 (by decide) (by decide) (by decide) ?_
        refine r_iconst 32 dX11_sounds_31 rfl ?_
        refine r_ret dX11_sounds_32 rfl (k _ 0 ?_)
        unfold gSounds
        rw [if_pos (by omega)]
        rw [Int.toNat_natCast, y21]
        rfl
    · refine r_ifneF 16 dX11_sounds_13 rfl 18 (by decide) (by decide) (by decide) ?_
      refine r_iconst 17 dX11_sounds_16 rfl ?_
      refine r_ret dX11_sounds_17 rfl (k _ 0 ?_)
      unfold gSounds
      rw [if_neg (by omega)]
      
  · refine r_ifeqT 16 0 dX11_sounds_5 (by decide) (by decide) (by decide) ?_
    refine r_iconst 17 dX11_sounds_16 rfl ?_
    refine r_ret dX11_sounds_17 rfl (k _ 0 ?_)
    unfold gSounds
    rw [if_neg (by omega)]
    
theorem m_reach {z : xZ} {d : Nat} {Q : tQ} {c : tC} {L : tL} {n : Nat} {s v : Int} (hR : RX c) (hn : c 50 0 2 = (n : Int)) (hs : inR s) (hv : inR v) (k : ∀ r w, (r, w) = gReach (c 50 0) (c 51) s v → Q (some (.int (iI r))) (mRe c w) L) : En z (d + 20) MX11_reach Q 0 [some (.ref (xad z 50 0)), some (.int (iI s)), some (.int (iI v))] [] c L := by
  have s1 := hs.1
  have s2 := hs.2
  have v1 := hv.1
  have v2 := hv.2
  have hg := R0_rng hR
  have hc := R0_scal hR
  refine r_aloadN 1 dX11_reach_0 rfl rfl ?_
  refine r_iloadN 2 dX11_reach_1 rfl rfl ?_
  refine r_cv1 5 dX11_reach_2 rfl gX11_188 rfl (by decide) (sh_50 z _) rfl rfl (Nat.le_of_ble_eq_true rfl) (Nat.le_of_ble_eq_true rfl) rfl ?_
  refine m_isSource hR (by assumption) (fun y2 => ?_) (fun y2 => ?_)
  · refine r_ifeqF 8 dX11_reach_5 rfl 25 (by decide) (by decide) (by decide) ?_
    refine r_aloadN 9 dX11_reach_8 rfl rfl ?_
    refine r_iloadN 10 dX11_reach_9 rfl rfl ?_
    refine r_cv1 13 dX11_reach_10 rfl gX11_191 rfl (by decide) (sh_50 z _) rfl rfl (Nat.le_of_ble_eq_true rfl) (Nat.le_of_ble_eq_true rfl) rfl ?_
    refine m_isSpot (by assumption) (fun y10 => ?_) (fun y10 => ?_)
    · refine r_ifeqF 16 dX11_reach_13 rfl 25 (by decide) (by decide) (by decide) ?_
      obtain ⟨s0, hs00⟩ := Int.eq_ofNat_of_zero_le (show 0 ≤ s by omega)
      subst hs00
      obtain ⟨v0, hv00⟩ := Int.eq_ofNat_of_zero_le (show 0 ≤ v by omega)
      subst hv00
      refine r_aloadN 17 dX11_reach_16 rfl rfl ?_
      refine r_iloadN 18 dX11_reach_17 rfl rfl ?_
      refine r_iloadN 19 dX11_reach_18 rfl rfl ?_
      refine r_cv2 22 dX11_reach_19 rfl gX11_282 rfl (by decide) (sh_50 z _) rfl rfl (Nat.le_of_ble_eq_true rfl) (Nat.le_of_ble_eq_true rfl) rfl ?_
      refine m_level hR hn (by omega) (by omega) (fun r19 e19 => ?_)
      refine r_goto 26 dX11_reach_22 (by decide) ?_
      refine r_ret dX11_reach_26 rfl (k _ 0 ?_)
      unfold gReach
      rw [if_pos (by omega)]
      rw [Int.toNat_natCast, e19]
    · refine r_ifeqT 25 0 dX11_reach_13 (by decide) (by decide) (by decide) ?_
      refine r_iconst 26 dX11_reach_25 rfl ?_
      refine r_ret dX11_reach_26 rfl (k _ 0 ?_)
      unfold gReach
      rw [if_neg (by omega)]
      
  · refine r_ifeqT 25 0 dX11_reach_5 (by decide) (by decide) (by decide) ?_
    refine r_iconst 26 dX11_reach_25 rfl ?_
    refine r_ret dX11_reach_26 rfl (k _ 0 ?_)
    unfold gReach
    rw [if_neg (by omega)]
    
theorem m_needs {z : xZ} {d : Nat} {Q : tQ} {c : tC} {L : tL} {n : Nat} {p t : Int} (hR : RX c) (hn : c 50 0 2 = (n : Int)) (hp : inR p) (ht : inR t) (k : ∀ r w, (r, w) = gNeeds (c 50 0) (c 51) p t → Q (some (.int (iI r))) (mRe c w) L) : En z (d + 20) MX11_needs Q 0 [some (.ref (xad z 50 0)), some (.int (iI p)), some (.int (iI t))] [] c L := by
  have p1 := hp.1
  have p2 := hp.2
  have t1 := ht.1
  have t2 := ht.2
  have hg := R0_rng hR
  have hc := R0_scal hR
  refine r_aloadN 1 dX11_needs_0 rfl rfl ?_
  refine r_iloadN 2 dX11_needs_1 rfl rfl ?_
  refine r_cv1 5 dX11_needs_2 rfl gX11_197 rfl (by decide) (sh_50 z _) rfl rfl (Nat.le_of_ble_eq_true rfl) (Nat.le_of_ble_eq_true rfl) rfl ?_
  refine m_isPerson hR (by assumption) (fun y2 => ?_) (fun y2 => ?_)
  · refine r_ifeqF 8 dX11_needs_5 rfl 25 (by decide) (by decide) (by decide) ?_
    refine r_aloadN 9 dX11_needs_8 rfl rfl ?_
    refine r_iloadN 10 dX11_needs_9 rfl rfl ?_
    refine r_cv1 13 dX11_needs_10 rfl gX11_194 rfl (by decide) (sh_50 z _) rfl rfl (Nat.le_of_ble_eq_true rfl) (Nat.le_of_ble_eq_true rfl) rfl ?_
    refine m_isTone (by assumption) (fun y10 => ?_) (fun y10 => ?_)
    · refine r_ifeqF 16 dX11_needs_13 rfl 25 (by decide) (by decide) (by decide) ?_
      obtain ⟨p0, hp00⟩ := Int.eq_ofNat_of_zero_le (show 0 ≤ p by omega)
      subst hp00
      refine r_aloadN 17 dX11_needs_16 rfl rfl ?_
      refine r_iloadN 18 dX11_needs_17 rfl rfl ?_
      refine r_iloadN 19 dX11_needs_18 rfl rfl ?_
      refine r_cv2 22 dX11_needs_19 rfl gX11_285 rfl (by decide) (sh_50 z _) rfl rfl (Nat.le_of_ble_eq_true rfl) (Nat.le_of_ble_eq_true rfl) rfl ?_
      refine m_need hR hn (p := p0) (by omega) (by omega) (fun r19 e19 => ?_)
      refine r_goto 26 dX11_needs_22 (by decide) ?_
      refine r_ret dX11_needs_26 rfl (k _ 0 ?_)
      unfold gNeeds
      rw [if_pos (by omega)]
      rw [Int.toNat_natCast, e19]
    · refine r_ifeqT 25 0 dX11_needs_13 (by decide) (by decide) (by decide) ?_
      refine r_iconst 26 dX11_needs_25 rfl ?_
      refine r_ret dX11_needs_26 rfl (k _ 0 ?_)
      unfold gNeeds
      rw [if_neg (by omega)]
      
  · refine r_ifeqT 25 0 dX11_needs_5 (by decide) (by decide) (by decide) ?_
    refine r_iconst 26 dX11_needs_25 rfl ?_
    refine r_ret dX11_needs_26 rfl (k _ 0 ?_)
    unfold gNeeds
    rw [if_neg (by omega)]
    
theorem m_hears {z : xZ} {d : Nat} {Q : tQ} {c : tC} {L : tL} {n : Nat} {p h : Int} (hR : RX c) (hn : c 50 0 2 = (n : Int)) (hp : inR p) (hh : inR h) (k : ∀ r w, (r, w) = gHears (c 50 0) (c 51) p h → Q (some (.int (iI r))) (mRe c w) L) : En z (d + 20) MX11_hears Q 0 [some (.ref (xad z 50 0)), some (.int (iI p)), some (.int (iI h))] [] c L := by
  have p1 := hp.1
  have p2 := hp.2
  have h1 := hh.1
  have h2 := hh.2
  have hg := R0_rng hR
  have hc := R0_scal hR
  refine r_aloadN 1 dX11_hears_0 rfl rfl ?_
  refine r_iloadN 2 dX11_hears_1 rfl rfl ?_
  refine r_cv1 5 dX11_hears_2 rfl gX11_197 rfl (by decide) (sh_50 z _) rfl rfl (Nat.le_of_ble_eq_true rfl) (Nat.le_of_ble_eq_true rfl) rfl ?_
  refine m_isPerson hR (by assumption) (fun y2 => ?_) (fun y2 => ?_)
  · refine r_ifeqF 8 dX11_hears_5 rfl 31 (by decide) (by decide) (by decide) ?_
    refine r_aloadN 9 dX11_hears_8 rfl rfl ?_
    refine r_iloadN 10 dX11_hears_9 rfl rfl ?_
    refine r_cv1 13 dX11_hears_10 rfl gX11_177 rfl (by decide) (sh_50 z _) rfl rfl (Nat.le_of_ble_eq_true rfl) (Nat.le_of_ble_eq_true rfl) rfl ?_
    refine m_isHour (by assumption) (fun y10 => ?_) (fun y10 => ?_)
    · refine r_ifeqF 16 dX11_hears_13 rfl 31 (by decide) (by decide) (by decide) ?_
      obtain ⟨p0, hp00⟩ := Int.eq_ofNat_of_zero_le (show 0 ≤ p by omega)
      subst hp00
      have hpp := R0_per hR p0 (by omega)
      obtain ⟨sp, hsp⟩ := Int.eq_ofNat_of_zero_le (show 0 ≤ c 51 14 p0 by omega)
      refine r_aloadN 17 dX11_hears_16 rfl rfl ?_
      refine r_iloadN 18 dX11_hears_17 rfl rfl ?_
      refine r_aloadN 19 dX11_hears_18 rfl rfl ?_
      refine r_getq 22 dX11_hears_19 rfl fX11_29 (by decide) (sh_50 z _) rfl ?_
      refine r_iloadN 23 dX11_hears_22 rfl rfl ?_
      refine r_iald (n := 12) 24 dX11_hears_23 (p0) rfl rfl (by decide) (sh_51 z _) (by decide) (by omega) (by omega) ?_
      refine r_iloadN 25 dX11_hears_24 rfl rfl ?_
      rw [hsp]
      refine r_cv3 28 dX11_hears_25 rfl gX11_299 rfl (by decide) (sh_50 z _) rfl rfl (Nat.le_of_ble_eq_true rfl) (Nat.le_of_ble_eq_true rfl) rfl ?_
      refine m_heard hR hn (p := p0) (sp := sp) (by omega) (by omega) (by omega) (fun r25 e25 => ?_)
      refine r_goto 32 dX11_hears_28 (by decide) ?_
      refine r_ret dX11_hears_32 rfl (k _ 0 ?_)
      unfold gHears
      rw [if_pos (by omega)]
      rw [Int.toNat_natCast, e25, hsp]
    · refine r_ifeqT 31 0 dX11_hears_13 (by decide) (by decide) (by decide) ?_
      refine r_iconst 32 dX11_hears_31 rfl ?_
      refine r_ret dX11_hears_32 rfl (k _ 0 ?_)
      unfold gHears
      rw [if_neg (by omega)]
      
  · refine r_ifeqT 31 0 dX11_hears_5 (by decide) (by decide) (by decide) ?_
    refine r_iconst 32 dX11_hears_31 rfl ?_
    refine r_ret dX11_hears_32 rfl (k _ 0 ?_)
    unfold gHears
    rw [if_neg (by omega)]
    
theorem m_loud_loop {z : xZ} {d : Nat} {Q : tQ} {c : tC} {L : tL} {n p sp : Nat} {h : Int} {F : Nat → Bool} (hR : RX c) (hn : c 50 0 2 = (n : Int)) (hsp : c 51 14 p = (sp : Int)) (hp : (p : Int) < c 50 0 1) (kk : ∀ r, r = fLd F (fun s => fLvl (c 51) s (sp : Int)) n → Q (some (.int (iI r))) c L) : ∀ (k i : Nat) (m : Int), i + k = n → m = fLd F (fun s => fLvl (c 51) s (sp : Int)) i → En z (d + 3) MX11_loudest Q 37 [some (.ref (xad z 50 0)), some (.int (iI (p : Int))), some (.int (iI h)), some (.int (iI ((mkN F n : Nat) : Int))), some (.int (iI m)), some (.int (iI (i : Int)))] [] c L := by
  have hg := R0_rng hR
  have hc := R0_scal hR
  have hpp := R0_per hR p hp
  have hGl := mkN_lt31 F (show n ≤ 14 by omega)
  intro k
  induction k with
  | zero =>
    intro i m hi hm
    refine r_iload 39 dX11_loudest_37 rfl rfl ?_
    refine r_aloadN 40 dX11_loudest_39 rfl rfl ?_
    refine r_geti 43 dX11_loudest_40 rfl fX11_174 (by decide) (sh_50 z _) rfl ?_
    refine r_icge 99 46 dX11_loudest_43 rfl (by decide) (by omega) (by omega) (fun h43 => ?_) (fun h43 => ?_)
    · refine r_iload 101 dX11_loudest_99 rfl rfl ?_
      refine r_ret dX11_loudest_101 rfl (kk _ ?_)
      rw [hm, show i = n by omega]
    · exfalso; omega
  | succ k ih =>
    intro i m hi hm
    have hmb := fLd_bd F (fun s => fLvl (c 51) s (sp : Int)) i
    have hlv := fLvl_bd hR hn (show i < n by omega) (show sp < 64 by omega)
    refine r_iload 39 dX11_loudest_37 rfl rfl ?_
    refine r_aloadN 40 dX11_loudest_39 rfl rfl ?_
    refine r_geti 43 dX11_loudest_40 rfl fX11_174 (by decide) (sh_50 z _) rfl ?_
    refine r_icge 99 46 dX11_loudest_43 rfl (by decide) (by omega) (by omega) (fun h43 => ?_) (fun h43 => ?_)
    · exfalso; omega
    · refine r_iloadN 47 dX11_loudest_46 rfl rfl ?_
      refine r_iload 49 dX11_loudest_47 rfl rfl ?_
      refine r_ishr 50 dX11_loudest_49 rfl ?_
      refine r_iconst 51 dX11_loudest_50 rfl ?_
      refine r_iand 52 dX11_loudest_51 rfl ?_
      rw [ibit hGl (by omega), mk_bit (by omega)]
      refine r_iconst 53 dX11_loudest_52 rfl ?_
      refine r_icne 93 56 dX11_loudest_53 rfl (by decide) (by split <;> omega) (by omega) (fun h53 => ?_) (fun h53 => ?_)
      · refine r_iinc5 96 dX11_loudest_93 rfl rfl (by decide) ?_
        refine r_goto 37 dX11_loudest_96 (by decide) ?_
        refine ih (i + 1) _ (by omega) ?_
        rw [fLd, ← hm]
        cases hFi : F i with
        | false =>
          rw [hFi, if_neg (by decide)] at h53
          first
            | (exfalso; omega)
            | (rw [if_neg (fun q => absurd q.1 (by decide))]; done)
        | true =>
          rw [hFi, if_pos rfl] at h53
          first
            | (exfalso; omega)
            | (rw [if_pos ⟨rfl, Or.inl (by omega)⟩]; done)
            | (rw [if_pos ⟨rfl, Or.inr (by show fLvl (c 51) m.toNat (sp : Int) < fLvl (c 51) i (sp : Int); omega)⟩]; done)
            | (rw [if_pos ⟨rfl, Or.inr (by show fLvl (c 51) m0 (sp : Int) < fLvl (c 51) i (sp : Int); omega)⟩]; done)
            | (rw [if_neg (fun q => by
                rcases q.2 with e | e
                · omega
                · have e2 : fLvl (c 51) m0 (sp : Int) < fLvl (c 51) i (sp : Int) := e
                  omega)]; done)
      · refine r_iload 58 dX11_loudest_56 rfl rfl ?_
        refine r_iconst 59 dX11_loudest_58 rfl ?_
        refine r_iceq 89 62 dX11_loudest_59 rfl (by decide) (by omega) (by omega) (fun h59 => ?_) (fun h59 => ?_)
        · refine r_iload 91 dX11_loudest_89 rfl rfl ?_
          refine r_istore4 93 dX11_loudest_91 rfl rfl (by decide) ?_
          refine r_iinc5 96 dX11_loudest_93 rfl rfl (by decide) ?_
          refine r_goto 37 dX11_loudest_96 (by decide) ?_
          refine ih (i + 1) _ (by omega) ?_
          rw [fLd, ← hm]
          cases hFi : F i with
          | false =>
            rw [hFi, if_neg (by decide)] at h53
            first
              | (exfalso; omega)
              | (rw [if_neg (fun q => absurd q.1 (by decide))]; done)
          | true =>
            rw [hFi, if_pos rfl] at h53
            first
              | (exfalso; omega)
              | (rw [if_pos ⟨rfl, Or.inl (by omega)⟩]; done)
              | (rw [if_pos ⟨rfl, Or.inr (by show fLvl (c 51) m.toNat (sp : Int) < fLvl (c 51) i (sp : Int); omega)⟩]; done)
              | (rw [if_pos ⟨rfl, Or.inr (by show fLvl (c 51) m0 (sp : Int) < fLvl (c 51) i (sp : Int); omega)⟩]; done)
              | (rw [if_neg (fun q => by
                  rcases q.2 with e | e
                  · omega
                  · have e2 : fLvl (c 51) m0 (sp : Int) < fLvl (c 51) i (sp : Int) := e
                    omega)]; done)
        · refine r_aloadN 63 dX11_loudest_62 rfl rfl ?_
          refine r_iload 65 dX11_loudest_63 rfl rfl ?_
          refine r_aloadN 66 dX11_loudest_65 rfl rfl ?_
          refine r_getq 69 dX11_loudest_66 rfl fX11_29 (by decide) (sh_50 z _) rfl ?_
          refine r_iloadN 70 dX11_loudest_69 rfl rfl ?_
          refine r_iald (n := 12) 71 dX11_loudest_70 (p) rfl rfl (by decide) (sh_51 z _) (by decide) (by omega) (by omega) ?_
          rw [hsp]
          refine r_cv2 74 dX11_loudest_71 rfl gX11_282 rfl (by decide) (sh_50 z _) rfl rfl (Nat.le_of_ble_eq_true rfl) (Nat.le_of_ble_eq_true rfl) rfl ?_
          refine m_level hR hn (s := i) (sp := sp) (by omega) (by omega) (fun r71 e71 => ?_)
          refine r_aloadN 75 dX11_loudest_74 rfl rfl ?_
          obtain ⟨m0, hm0⟩ := Int.eq_ofNat_of_zero_le (show 0 ≤ m by omega)
          subst hm0
          have hlv2 := fLvl_bd hR hn (show m0 < n by omega) (show sp < 64 by omega)
          skip
          refine r_iload 77 dX11_loudest_75 rfl rfl ?_
          refine r_aloadN 78 dX11_loudest_77 rfl rfl ?_
          refine r_getq 81 dX11_loudest_78 rfl fX11_29 (by decide) (sh_50 z _) rfl ?_
          refine r_iloadN 82 dX11_loudest_81 rfl rfl ?_
          refine r_iald (n := 12) 83 dX11_loudest_82 (p) rfl rfl (by decide) (sh_51 z _) (by decide) (by omega) (by omega) ?_
          rw [hsp]
          refine r_cv2 86 dX11_loudest_83 rfl gX11_282 rfl (by decide) (sh_50 z _) rfl rfl (Nat.le_of_ble_eq_true rfl) (Nat.le_of_ble_eq_true rfl) rfl ?_
          refine m_level hR hn (s := m0) (sp := sp) (by omega) (by omega) (fun r83 e83 => ?_)
          refine r_icle 93 89 dX11_loudest_86 rfl (by decide) (by omega) (by omega) (fun h86 => ?_) (fun h86 => ?_)
          · refine r_iinc5 96 dX11_loudest_93 rfl rfl (by decide) ?_
            refine r_goto 37 dX11_loudest_96 (by decide) ?_
            refine ih (i + 1) _ (by omega) ?_
            rw [fLd, ← hm]
            cases hFi : F i with
            | false =>
              rw [hFi, if_neg (by decide)] at h53
              first
                | (exfalso; omega)
                | (rw [if_neg (fun q => absurd q.1 (by decide))]; done)
            | true =>
              rw [hFi, if_pos rfl] at h53
              first
                | (exfalso; omega)
                | (rw [if_pos ⟨rfl, Or.inl (by omega)⟩]; done)
                | (rw [if_pos ⟨rfl, Or.inr (by show fLvl (c 51) m.toNat (sp : Int) < fLvl (c 51) i (sp : Int); omega)⟩]; done)
                | (rw [if_pos ⟨rfl, Or.inr (by show fLvl (c 51) m0 (sp : Int) < fLvl (c 51) i (sp : Int); omega)⟩]; done)
                | (rw [if_neg (fun q => by
                    rcases q.2 with e | e
                    · omega
                    · have e2 : fLvl (c 51) m0 (sp : Int) < fLvl (c 51) i (sp : Int) := e
                      omega)]; done)
          · refine r_iload 91 dX11_loudest_89 rfl rfl ?_
            refine r_istore4 93 dX11_loudest_91 rfl rfl (by decide) ?_
            refine r_iinc5 96 dX11_loudest_93 rfl rfl (by decide) ?_
            refine r_goto 37 dX11_loudest_96 (by decide) ?_
            refine ih (i + 1) _ (by omega) ?_
            rw [fLd, ← hm]
            cases hFi : F i with
            | false =>
              rw [hFi, if_neg (by decide)] at h53
              first
                | (exfalso; omega)
                | (rw [if_neg (fun q => absurd q.1 (by decide))]; done)
            | true =>
              rw [hFi, if_pos rfl] at h53
              first
                | (exfalso; omega)
                | (rw [if_pos ⟨rfl, Or.inl (by omega)⟩]; done)
                | (rw [if_pos ⟨rfl, Or.inr (by show fLvl (c 51) m.toNat (sp : Int) < fLvl (c 51) i (sp : Int); omega)⟩]; done)
                | (rw [if_pos ⟨rfl, Or.inr (by show fLvl (c 51) m0 (sp : Int) < fLvl (c 51) i (sp : Int); omega)⟩]; done)
                | (rw [if_neg (fun q => by
                    rcases q.2 with e | e
                    · omega
                    · have e2 : fLvl (c 51) m0 (sp : Int) < fLvl (c 51) i (sp : Int) := e
                      omega)]; done)
theorem m_loudest {z : xZ} {d : Nat} {Q : tQ} {c : tC} {L : tL} {n : Nat} {p h : Int} (hR : RX c) (hn : c 50 0 2 = (n : Int)) (hp : inR p) (hh : inR h) (k : ∀ r w, (r, w) = gLoudest (c 50 0) (c 51) p h → Q (some (.int (iI r))) (mRe c w) L) : En z (d + 20) MX11_loudest Q 0 [some (.ref (xad z 50 0)), some (.int (iI p)), some (.int (iI h)), none, none, none] [] c L := by
  have p1 := hp.1
  have p2 := hp.2
  have h1 := hh.1
  have h2 := hh.2
  have hg := R0_rng hR
  have hc := R0_scal hR
  refine r_aloadN 1 dX11_loudest_0 rfl rfl ?_
  refine r_iloadN 2 dX11_loudest_1 rfl rfl ?_
  refine r_cv1 5 dX11_loudest_2 rfl gX11_197 rfl (by decide) (sh_50 z _) rfl rfl (Nat.le_of_ble_eq_true rfl) (Nat.le_of_ble_eq_true rfl) rfl ?_
  refine m_isPerson hR (by assumption) (fun y2 => ?_) (fun y2 => ?_)
  · refine r_ifeqF 8 dX11_loudest_5 rfl 16 (by decide) (by decide) (by decide) ?_
    refine r_aloadN 9 dX11_loudest_8 rfl rfl ?_
    refine r_iloadN 10 dX11_loudest_9 rfl rfl ?_
    refine r_cv1 13 dX11_loudest_10 rfl gX11_177 rfl (by decide) (sh_50 z _) rfl rfl (Nat.le_of_ble_eq_true rfl) (Nat.le_of_ble_eq_true rfl) rfl ?_
    refine m_isHour (by assumption) (fun y10 => ?_) (fun y10 => ?_)
    · refine r_ifneT 18 0 dX11_loudest_13 (by decide) (by decide) (by decide) ?_
      obtain ⟨p0, hp00⟩ := Int.eq_ofNat_of_zero_le (show 0 ≤ p by omega)
      subst hp00
      have hpp := R0_per hR p0 (by omega)
      obtain ⟨sp, hsp⟩ := Int.eq_ofNat_of_zero_le (show 0 ≤ c 51 14 p0 by omega)
      refine r_aloadN 19 dX11_loudest_18 rfl rfl ?_
      refine r_iloadN 20 dX11_loudest_19 rfl rfl ?_
      refine r_aloadN 21 dX11_loudest_20 rfl rfl ?_
      refine r_getq 24 dX11_loudest_21 rfl fX11_29 (by decide) (sh_50 z _) rfl ?_
      refine r_iloadN 25 dX11_loudest_24 rfl rfl ?_
      refine r_iald (n := 12) 26 dX11_loudest_25 (p0) rfl rfl (by decide) (sh_51 z _) (by decide) (by omega) (by omega) ?_
      refine r_iloadN 27 dX11_loudest_26 rfl rfl ?_
      rw [hsp]
      refine r_cv3 30 dX11_loudest_27 rfl gX11_299 rfl (by decide) (sh_50 z _) rfl rfl (Nat.le_of_ble_eq_true rfl) (Nat.le_of_ble_eq_true rfl) rfl ?_
      refine m_heard hR hn (p := p0) (sp := sp) (by omega) (by omega) (by omega) (fun r27 e27 => ?_)
      unfold fHeard at e27
      rw [hn, Int.toNat_natCast] at e27
      subst e27
      refine r_istore3 31 dX11_loudest_30 rfl rfl (by decide) ?_
      refine r_iconst 32 dX11_loudest_31 rfl ?_
      refine r_istore4 34 dX11_loudest_32 rfl rfl (by decide) ?_
      refine r_iconst 35 dX11_loudest_34 rfl ?_
      refine r_istore5 37 dX11_loudest_35 rfl rfl (by decide) ?_
      exact m_loud_loop hR hn hsp (by omega) (fun r e => k r 0 (by unfold gLoudest; rw [if_pos (by omega), Int.toNat_natCast, hn, Int.toNat_natCast, hsp, e])) n 0 _ (by omega) rfl
    · refine r_ifneF 16 dX11_loudest_13 rfl 18 (by decide) (by decide) (by decide) ?_
      refine r_iconst 17 dX11_loudest_16 rfl ?_
      refine r_ret dX11_loudest_17 rfl (k _ 0 ?_)
      unfold gLoudest
      rw [if_neg (by omega)]
      
  · refine r_ifeqT 16 0 dX11_loudest_5 (by decide) (by decide) (by decide) ?_
    refine r_iconst 17 dX11_loudest_16 rfl ?_
    refine r_ret dX11_loudest_17 rfl (k _ 0 ?_)
    unfold gLoudest
    rw [if_neg (by omega)]
    
theorem m_odds {z : xZ} {d : Nat} {Q : tQ} {c : tC} {L : tL} {n : Nat} {p s : Int} (hR : RX c) (hn : c 50 0 2 = (n : Int)) (hp : inR p) (hs : inR s) (k : ∀ r, r = gOdds c p s → Q (some (.long (lI r))) c L) : En z (d + 20) MX11_odds Q 0 [some (.ref (xad z 50 0)), some (.int (iI p)), some (.int (iI s))] [] c L := by
  have p1 := hp.1
  have p2 := hp.2
  have s1 := hs.1
  have s2 := hs.2
  have hg := R0_rng hR
  have hc := R0_scal hR
  refine r_aloadN 1 dX11_odds_0 rfl rfl ?_
  refine r_iloadN 2 dX11_odds_1 rfl rfl ?_
  refine r_cv1 5 dX11_odds_2 rfl gX11_197 rfl (by decide) (sh_50 z _) rfl rfl (Nat.le_of_ble_eq_true rfl) (Nat.le_of_ble_eq_true rfl) rfl ?_
  refine m_isPerson hR (by assumption) (fun y2 => ?_) (fun y2 => ?_)
  · refine r_ifeqF 8 dX11_odds_5 rfl 25 (by decide) (by decide) (by decide) ?_
    refine r_aloadN 9 dX11_odds_8 rfl rfl ?_
    refine r_iloadN 10 dX11_odds_9 rfl rfl ?_
    refine r_cv1 13 dX11_odds_10 rfl gX11_188 rfl (by decide) (sh_50 z _) rfl rfl (Nat.le_of_ble_eq_true rfl) (Nat.le_of_ble_eq_true rfl) rfl ?_
    refine m_isSource hR (by assumption) (fun y10 => ?_) (fun y10 => ?_)
    · refine r_ifeqF 16 dX11_odds_13 rfl 25 (by decide) (by decide) (by decide) ?_
      obtain ⟨p0, hp00⟩ := Int.eq_ofNat_of_zero_le (show 0 ≤ p by omega)
      subst hp00
      obtain ⟨s0, hs00⟩ := Int.eq_ofNat_of_zero_le (show 0 ≤ s by omega)
      subst hs00
      refine r_aloadN 17 dX11_odds_16 rfl rfl ?_
      refine r_iloadN 18 dX11_odds_17 rfl rfl ?_
      refine r_iloadN 19 dX11_odds_18 rfl rfl ?_
      refine r_cv2 22 dX11_odds_19 rfl gX11_322 rfl (by decide) (sh_50 z _) rfl rfl (Nat.le_of_ble_eq_true rfl) (Nat.le_of_ble_eq_true rfl) rfl ?_
      refine m_worth hR hn (p := p0) (s := s0) (by omega) (by omega) (fun r19 e19 => ?_)
      refine r_goto 26 dX11_odds_22 (by decide) ?_
      first
        | exact r_lret dX11_odds_26 rfl (k 0 (by unfold gOdds; rw [if_neg (by omega)]))
        | exact r_lret dX11_odds_26 rfl (k _ (by unfold gOdds; rw [if_pos (by omega), Int.toNat_natCast, Int.toNat_natCast]; exact e19))
    · refine r_ifeqT 25 0 dX11_odds_13 (by decide) (by decide) (by decide) ?_
      refine r_lconst 26 dX11_odds_25 rfl ?_
      first
        | exact r_lret dX11_odds_26 rfl (k 0 (by unfold gOdds; rw [if_neg (by omega)]))
        | exact r_lret dX11_odds_26 rfl (k _ (by unfold gOdds; rw [if_pos (by omega), Int.toNat_natCast, Int.toNat_natCast]; exact e19))
  · refine r_ifeqT 25 0 dX11_odds_5 (by decide) (by decide) (by decide) ?_
    refine r_lconst 26 dX11_odds_25 rfl ?_
    first
      | exact r_lret dX11_odds_26 rfl (k 0 (by unfold gOdds; rw [if_neg (by omega)]))
      | exact r_lret dX11_odds_26 rfl (k _ (by unfold gOdds; rw [if_pos (by omega), Int.toNat_natCast, Int.toNat_natCast]; exact e19))
theorem m_sure_loop {z : xZ} {d : Nat} {Q : tQ} {c : tC} {L : tL} {n p : Nat} {t : Int} (hR : RX c) (hn : c 50 0 2 = (n : Int)) (ht : 1 ≤ t ∧ t ≤ 100) (hp : (p : Int) < c 50 0 1) (kk : ∀ r, r = fSure (fun s => fWor c p s (c 50 0 9).toNat 16 1) n t → Q (some (.int (iI r))) c L) : ∀ (k i : Nat) (su g sm : Int) (v9 v10 : Option Value), i + k = n → su = fIs (fun s => fWor c p s (c 50 0 9).toNat 16 1) i → g = fMost (fun s => fWor c p s (c 50 0 9).toNat 16 1) i → sm = fAllw (fun s => fWor c p s (c 50 0 9).toNat 16 1) i → En z (d + 8) MX11_sure Q 32 [some (.ref (xad z 50 0)), some (.int (iI (p : Int))), some (.int (iI t)), some (.long (lI sm)), none, some (.long (lI g)), none, some (.int (iI su)), some (.int (iI (i : Int))), v9, v10] [] c L := by
  have hg := R0_rng hR
  have hc := R0_scal hR
  have hw : ∀ s, s < n → 1 ≤ (fun s => fWor c p s (c 50 0 9).toNat 16 1) s ∧ (fun s => fWor c p s (c 50 0 9).toNat 16 1) s ≤ 1853020188851841 := fun s _ => fWor_rng hR p s _ 16 1 (by decide) (by decide)
  intro k
  induction k with
  | zero =>
    intro i su g sm v9 v10 hi hsu hg2 hsm
    have hb := fSure_rng hw i (by omega)
    have hn1 := Int.mul_le_mul ht.2 hb.2.1.2 hb.2.1.1 (by decide : (0 : Int) ≤ 100)
    have hn2 := Int.mul_nonneg (show 0 ≤ t by omega) hb.2.1.1
    rw [← hsm] at hn1 hn2
    refine r_iload 34 dX11_sure_32 rfl rfl ?_
    refine r_aloadN 35 dX11_sure_34 rfl rfl ?_
    refine r_geti 38 dX11_sure_35 rfl fX11_174 (by decide) (sh_50 z _) rfl ?_
    refine r_icge 91 41 dX11_sure_38 rfl (by decide) (by omega) (by omega) (fun h38 => ?_) (fun h38 => ?_)
    · refine r_iload 93 dX11_sure_91 rfl rfl ?_
      refine r_iconst 94 dX11_sure_93 rfl ?_
      refine r_iceq 116 97 dX11_sure_94 rfl (by decide) (by omega) (by omega) (fun h94 => ?_) (fun h94 => ?_)
      · refine r_iconst 117 dX11_sure_116 rfl ?_
        refine r_ret dX11_sure_117 rfl (kk _ ?_)
        rw [← show i = n by omega]
        unfold fSure
        rw [← hg2, ← hsm, ← hsu]
        first
          | (have hcm := cmpI_c (100 * g) (t * sm); rw [if_pos (by omega)]; done)
          | (have hcm := cmpI_c (100 * g) (t * sm); rw [if_neg (by omega)]; done)
          | (split <;> omega)
      · refine r_ldc2 (n := 100) 100 dX11_sure_97 rfl (kX11_326 z) ?_
        refine r_lload 102 dX11_sure_100 rfl rfl ?_
        refine r_lmul 103 dX11_sure_102 rfl ?_
        refine r_iloadN 104 dX11_sure_103 rfl rfl ?_
        refine r_i2l 105 dX11_sure_104 rfl (by omega) ?_
        refine r_lloadN 106 dX11_sure_105 rfl rfl ?_
        refine r_lmul 107 dX11_sure_106 rfl ?_
        refine r_lcmp 108 dX11_sure_107 rfl (inLo (by omega)) (inLo (by omega)) ?_
        refine r_iflt 116 111 dX11_sure_108 rfl (by decide) (cmpI_in' _ _) (fun h108 => ?_) (fun h108 => ?_)
        · refine r_iconst 117 dX11_sure_116 rfl ?_
          refine r_ret dX11_sure_117 rfl (kk _ ?_)
          rw [← show i = n by omega]
          unfold fSure
          rw [← hg2, ← hsm, ← hsu]
          first
            | (have hcm := cmpI_c (100 * g) (t * sm); rw [if_pos (by omega)]; done)
            | (have hcm := cmpI_c (100 * g) (t * sm); rw [if_neg (by omega)]; done)
            | (split <;> omega)
        · refine r_iload 113 dX11_sure_111 rfl rfl ?_
          refine r_goto 117 dX11_sure_113 (by decide) ?_
          refine r_ret dX11_sure_117 rfl (kk _ ?_)
          rw [← show i = n by omega]
          unfold fSure
          rw [← hg2, ← hsm, ← hsu]
          first
            | (have hcm := cmpI_c (100 * g) (t * sm); rw [if_pos (by omega)]; done)
            | (have hcm := cmpI_c (100 * g) (t * sm); rw [if_neg (by omega)]; done)
            | (split <;> omega)
    · exfalso; omega
  | succ k ih =>
    intro i su g sm v9 v10 hi hsu hg2 hsm
    have hb := fSure_rng hw i (by omega)
    have hwi := hw i (by omega)
    refine r_iload 34 dX11_sure_32 rfl rfl ?_
    refine r_aloadN 35 dX11_sure_34 rfl rfl ?_
    refine r_geti 38 dX11_sure_35 rfl fX11_174 (by decide) (sh_50 z _) rfl ?_
    refine r_icge 91 41 dX11_sure_38 rfl (by decide) (by omega) (by omega) (fun h38 => ?_) (fun h38 => ?_)
    · exfalso; omega
    · refine r_aloadN 42 dX11_sure_41 rfl rfl ?_
      refine r_iloadN 43 dX11_sure_42 rfl rfl ?_
      refine r_iload 45 dX11_sure_43 rfl rfl ?_
      refine r_cv2 48 dX11_sure_45 rfl gX11_322 rfl (by decide) (sh_50 z _) rfl rfl (Nat.le_of_ble_eq_true rfl) (Nat.le_of_ble_eq_true rfl) rfl ?_
      refine m_worth hR hn (p := p) (s := i) (by omega) hp (fun r45 e45 => ?_)
      have hr45 : 1 ≤ r45 ∧ r45 ≤ 1853020188851841 := by rw [e45]; exact hwi
      refine r_lstore9 50 dX11_sure_48 rfl rfl (by decide) ?_
      refine r_lloadN 51 dX11_sure_50 rfl rfl ?_
      refine r_lload 53 dX11_sure_51 rfl rfl ?_
      refine r_ladd 54 dX11_sure_53 rfl ?_
      refine r_lstore3 55 dX11_sure_54 rfl rfl (by decide) ?_
      refine r_lload 57 dX11_sure_55 rfl rfl ?_
      refine r_lload 59 dX11_sure_57 rfl rfl ?_
      refine r_lcmp 60 dX11_sure_59 rfl (inLo (by omega)) (inLo (by omega)) ?_
      refine r_ifle 74 63 dX11_sure_60 rfl (by decide) (cmpI_in' _ _) (fun h60 => ?_) (fun h60 => ?_)
      · refine r_lload 76 dX11_sure_74 rfl rfl ?_
        refine r_lload 78 dX11_sure_76 rfl rfl ?_
        refine r_lcmp 79 dX11_sure_78 rfl (inLo (by omega)) (inLo (by omega)) ?_
        refine r_ifne 85 82 dX11_sure_79 rfl (by decide) (cmpI_in' _ _) (fun h79 => ?_) (fun h79 => ?_)
        · refine r_iinc8 88 dX11_sure_85 rfl rfl (by decide) ?_
          refine r_goto 32 dX11_sure_88 (by decide) ?_
          refine ih (i + 1) _ _ _ _ _ (by omega) ?_ ?_ ?_
          · rw [fIs, ← hg2]
            have hcm := cmpI_c r45 g
            rw [← e45]
            first
              | (rw [if_pos (by omega)]; done)
              | (rw [if_neg (by omega), if_pos (by omega)]; done)
              | (rw [if_neg (by omega), if_neg (by omega)]; exact hsu)
          · rw [fMost, ← hg2]
            have hcm := cmpI_c r45 g
            rw [← e45]
            first
              | (rw [if_pos (by omega)]; done)
              | (rw [if_neg (by omega)]; done)
          · rw [fAllw, ← hsm, ← e45]
        · refine r_iconst 83 dX11_sure_82 rfl ?_
          refine r_istore7 85 dX11_sure_83 rfl rfl (by decide) ?_
          refine r_iinc8 88 dX11_sure_85 rfl rfl (by decide) ?_
          refine r_goto 32 dX11_sure_88 (by decide) ?_
          refine ih (i + 1) _ _ _ _ _ (by omega) ?_ ?_ ?_
          · rw [fIs, ← hg2]
            have hcm := cmpI_c r45 g
            rw [← e45]
            first
              | (rw [if_pos (by omega)]; done)
              | (rw [if_neg (by omega), if_pos (by omega)]; done)
              | (rw [if_neg (by omega), if_neg (by omega)]; exact hsu)
          · rw [fMost, ← hg2]
            have hcm := cmpI_c r45 g
            rw [← e45]
            first
              | (rw [if_pos (by omega)]; done)
              | (rw [if_neg (by omega)]; done)
          · rw [fAllw, ← hsm, ← e45]
      · refine r_lload 65 dX11_sure_63 rfl rfl ?_
        refine r_lstore5 67 dX11_sure_65 rfl rfl (by decide) ?_
        refine r_iload 69 dX11_sure_67 rfl rfl ?_
        refine r_istore7 71 dX11_sure_69 rfl rfl (by decide) ?_
        refine r_goto 85 dX11_sure_71 (by decide) ?_
        refine r_iinc8 88 dX11_sure_85 rfl rfl (by decide) ?_
        refine r_goto 32 dX11_sure_88 (by decide) ?_
        refine ih (i + 1) _ _ _ _ _ (by omega) ?_ ?_ ?_
        · rw [fIs, ← hg2]
          have hcm := cmpI_c r45 g
          rw [← e45]
          first
            | (rw [if_pos (by omega)]; done)
            | (rw [if_neg (by omega), if_pos (by omega)]; done)
            | (rw [if_neg (by omega), if_neg (by omega)]; exact hsu)
        · rw [fMost, ← hg2]
          have hcm := cmpI_c r45 g
          rw [← e45]
          first
            | (rw [if_pos (by omega)]; done)
            | (rw [if_neg (by omega)]; done)
        · rw [fAllw, ← hsm, ← e45]
theorem m_sure {z : xZ} {d : Nat} {Q : tQ} {c : tC} {L : tL} {n : Nat} {p t : Int} (hR : RX c) (hn : c 50 0 2 = (n : Int)) (hp : inR p) (ht : inR t) (k : ∀ r w, (r, w) = gSure c p t → Q (some (.int (iI r))) (mRe c w) L) : En z (d + 20) MX11_sure Q 0 [some (.ref (xad z 50 0)), some (.int (iI p)), some (.int (iI t)), none, none, none, none, none, none, none, none] [] c L := by
  have p1 := hp.1
  have p2 := hp.2
  have t1 := ht.1
  have t2 := ht.2
  have hg := R0_rng hR
  have hc := R0_scal hR
  refine r_aloadN 1 dX11_sure_0 rfl rfl ?_
  refine r_iloadN 2 dX11_sure_1 rfl rfl ?_
  refine r_cv1 5 dX11_sure_2 rfl gX11_197 rfl (by decide) (sh_50 z _) rfl rfl (Nat.le_of_ble_eq_true rfl) (Nat.le_of_ble_eq_true rfl) rfl ?_
  refine m_isPerson hR (by assumption) (fun y2 => ?_) (fun y2 => ?_)
  · refine r_ifeqF 8 dX11_sure_5 rfl 19 (by decide) (by decide) (by decide) ?_
    refine r_iloadN 9 dX11_sure_8 rfl rfl ?_
    refine r_iconst 10 dX11_sure_9 rfl ?_
    refine r_iclt 19 13 dX11_sure_10 rfl (by decide) (by omega) (by omega) (fun h10 => ?_) (fun h10 => ?_)
    · refine r_iconst 20 dX11_sure_19 rfl ?_
      refine r_ret dX11_sure_20 rfl (k _ 0 ?_)
      unfold gSure
      rw [if_neg (by omega)]
      
    · refine r_iloadN 14 dX11_sure_13 rfl rfl ?_
      refine r_bipush 16 dX11_sure_14 rfl (by decide) ?_
      refine r_icle 21 19 dX11_sure_16 rfl (by decide) (by omega) (by omega) (fun h16 => ?_) (fun h16 => ?_)
      · obtain ⟨p0, hp00⟩ := Int.eq_ofNat_of_zero_le (show 0 ≤ p by omega)
        subst hp00
        refine r_lconst 22 dX11_sure_21 rfl ?_
        refine r_lstore3 23 dX11_sure_22 rfl rfl (by decide) ?_
        refine r_lconst 24 dX11_sure_23 rfl ?_
        refine r_lstore5 26 dX11_sure_24 rfl rfl (by decide) ?_
        refine r_iconst 27 dX11_sure_26 rfl ?_
        refine r_istore7 29 dX11_sure_27 rfl rfl (by decide) ?_
        refine r_iconst 30 dX11_sure_29 rfl ?_
        refine r_istore8 32 dX11_sure_30 rfl rfl (by decide) ?_
        exact m_sure_loop hR hn (p := p0) (by omega) (by omega) (fun r e => k r 0 (by unfold gSure; rw [if_pos (by omega), Int.toNat_natCast, hn, Int.toNat_natCast, e])) n 0 _ _ _ none none (by omega) rfl rfl rfl
      · refine r_iconst 20 dX11_sure_19 rfl ?_
        refine r_ret dX11_sure_20 rfl (k _ 0 ?_)
        unfold gSure
        rw [if_neg (by omega)]
        
  · refine r_ifeqT 19 0 dX11_sure_5 (by decide) (by decide) (by decide) ?_
    refine r_iconst 20 dX11_sure_19 rfl ?_
    refine r_ret dX11_sure_20 rfl (k _ 0 ?_)
    unfold gSure
    rw [if_neg (by omega)]
    
theorem m_could_loop {z : xZ} {d : Nat} {Q : tQ} {c : tC} {L : tL} {n p sp : Nat} {t : Int} (hR : RX c) (hn : c 50 0 2 = (n : Int)) (hsp : c 51 14 p = (sp : Int)) (ht : 0 ≤ t ∧ t ≤ 99) (hp : (p : Int) < c 50 0 1) (kk : ∀ r, r = ((mkN (fun s => (!fTalk (c 51) s && fNear (c 51) t s) && fHear (c 51) p s (sp : Int)) n : Nat) : Int) → Q (some (.int (iI r))) c L) : ∀ (k i : Nat) (m : Int), i + k = n → m = ((mkN (fun s => (!fTalk (c 51) s && fNear (c 51) t s) && fHear (c 51) p s (sp : Int)) i : Nat) : Int) → En z (d + 4) MX11_could Q 23 [some (.ref (xad z 50 0)), some (.int (iI (p : Int))), some (.int (iI t)), some (.int (iI m)), some (.int (iI (i : Int)))] [] c L := by
  have hg := R0_rng hR
  have hc := R0_scal hR
  have hpp := R0_per hR p hp
  have hlw := R0_law hR
  intro k
  induction k with
  | zero =>
    intro i m hi hm
    refine r_iload 25 dX11_could_23 rfl rfl ?_
    refine r_aloadN 26 dX11_could_25 rfl rfl ?_
    refine r_geti 29 dX11_could_26 rfl fX11_174 (by decide) (sh_50 z _) rfl ?_
    refine r_icge 91 32 dX11_could_29 rfl (by decide) (by omega) (by omega) (fun h29 => ?_) (fun h29 => ?_)
    · refine r_iloadN 92 dX11_could_91 rfl rfl ?_
      refine r_ret dX11_could_92 rfl (kk _ ?_)
      rw [hm, show i = n by omega]
    · exfalso; omega
  | succ k ih =>
    intro i m hi hm
    have hq := R0_src hR i (by omega)
    refine r_iload 25 dX11_could_23 rfl rfl ?_
    refine r_aloadN 26 dX11_could_25 rfl rfl ?_
    refine r_geti 29 dX11_could_26 rfl fX11_174 (by decide) (sh_50 z _) rfl ?_
    refine r_icge 91 32 dX11_could_29 rfl (by decide) (by omega) (by omega) (fun h29 => ?_) (fun h29 => ?_)
    · exfalso; omega
    · refine r_aloadN 33 dX11_could_32 rfl rfl ?_
      refine r_iload 35 dX11_could_33 rfl rfl ?_
      refine r_cv1 38 dX11_could_35 rfl gX11_279 rfl (by decide) (sh_50 z _) rfl rfl (Nat.le_of_ble_eq_true rfl) (Nat.le_of_ble_eq_true rfl) rfl ?_
      refine m_isTalk hR hn (by omega) (fun y35 => ?_) (fun y35 => ?_)
      · refine r_ifneT 85 0 dX11_could_38 (by decide) (by decide) (by decide) ?_
        refine r_iinc4 88 dX11_could_85 rfl rfl (by decide) ?_
        refine r_goto 23 dX11_could_88 (by decide) ?_
        refine ih (i + 1) _ (by omega) ?_
        first
          | exact ior_step (by omega) hm (by show ((!fTalk (c 51) i && fNear (c 51) t i) && fHear (c 51) p i (sp : Int)) = true; rw [y35, y72, show fNear (c 51) t i = true from decide_eq_true (by omega)]; rfl)
          | exact mkN_skip hm (by show ((!fTalk (c 51) i && fNear (c 51) t i) && fHear (c 51) p i (sp : Int)) = false; rw [y72, Bool.and_false])
          | exact mkN_skip hm (by show ((!fTalk (c 51) i && fNear (c 51) t i) && fHear (c 51) p i (sp : Int)) = false; rw [show fNear (c 51) t i = false from decide_eq_false (by omega), Bool.and_false]; rfl)
          | exact mkN_skip hm (by show ((!fTalk (c 51) i && fNear (c 51) t i) && fHear (c 51) p i (sp : Int)) = false; rw [y35]; rfl)
      · refine r_ifneF 41 dX11_could_38 rfl 85 (by decide) (by decide) (by decide) ?_
        refine r_aloadN 42 dX11_could_41 rfl rfl ?_
        refine r_aloadN 43 dX11_could_42 rfl rfl ?_
        refine r_getq 46 dX11_could_43 rfl fX11_50 (by decide) (sh_50 z _) rfl ?_
        refine r_iload 48 dX11_could_46 rfl rfl ?_
        refine r_iald (n := 14) 49 dX11_could_48 (i) rfl rfl (by decide) (sh_51 z _) (by decide) (by omega) (by omega) ?_
        refine r_iloadN 50 dX11_could_49 rfl rfl ?_
        refine r_cv2 53 dX11_could_50 rfl gX11_266 rfl (by decide) (sh_50 z _) rfl rfl (Nat.le_of_ble_eq_true rfl) (Nat.le_of_ble_eq_true rfl) rfl ?_
        refine m_apart (by omega) (by omega) (fun r50 e50 => ?_)
        refine r_aloadN 54 dX11_could_53 rfl rfl ?_
        refine r_getq 57 dX11_could_54 rfl fX11_20 (by decide) (sh_50 z _) rfl ?_
        refine r_iconst 58 dX11_could_57 rfl ?_
        refine r_iald (n := 6) 59 dX11_could_58 (4) rfl rfl (by decide) (sh_51 z _) (by decide) (by omega) (by omega) ?_
        refine r_icgt 85 62 dX11_could_59 rfl (by decide) (by omega) (by omega) (fun h59 => ?_) (fun h59 => ?_)
        · refine r_iinc4 88 dX11_could_85 rfl rfl (by decide) ?_
          refine r_goto 23 dX11_could_88 (by decide) ?_
          refine ih (i + 1) _ (by omega) ?_
          first
            | exact ior_step (by omega) hm (by show ((!fTalk (c 51) i && fNear (c 51) t i) && fHear (c 51) p i (sp : Int)) = true; rw [y35, y72, show fNear (c 51) t i = true from decide_eq_true (by omega)]; rfl)
            | exact mkN_skip hm (by show ((!fTalk (c 51) i && fNear (c 51) t i) && fHear (c 51) p i (sp : Int)) = false; rw [y72, Bool.and_false])
            | exact mkN_skip hm (by show ((!fTalk (c 51) i && fNear (c 51) t i) && fHear (c 51) p i (sp : Int)) = false; rw [show fNear (c 51) t i = false from decide_eq_false (by omega), Bool.and_false]; rfl)
            | exact mkN_skip hm (by show ((!fTalk (c 51) i && fNear (c 51) t i) && fHear (c 51) p i (sp : Int)) = false; rw [y35]; rfl)
        · refine r_aloadN 63 dX11_could_62 rfl rfl ?_
          refine r_iloadN 64 dX11_could_63 rfl rfl ?_
          refine r_iload 66 dX11_could_64 rfl rfl ?_
          refine r_aloadN 67 dX11_could_66 rfl rfl ?_
          refine r_getq 70 dX11_could_67 rfl fX11_29 (by decide) (sh_50 z _) rfl ?_
          refine r_iloadN 71 dX11_could_70 rfl rfl ?_
          refine r_iald (n := 12) 72 dX11_could_71 (p) rfl rfl (by decide) (sh_51 z _) (by decide) (by omega) (by omega) ?_
          rw [hsp]
          refine r_cv3 75 dX11_could_72 rfl gX11_288 rfl (by decide) (sh_50 z _) rfl rfl (Nat.le_of_ble_eq_true rfl) (Nat.le_of_ble_eq_true rfl) rfl ?_
          refine m_couldHear hR hn (s := i) (p := p) (sp := sp) (by omega) (by omega) hp (fun y72 => ?_) (fun y72 => ?_)
          · refine r_ifeqF 78 dX11_could_75 rfl 85 (by decide) (by decide) (by decide) ?_
            refine r_iloadN 79 dX11_could_78 rfl rfl ?_
            refine r_iconst 80 dX11_could_79 rfl ?_
            refine r_iload 82 dX11_could_80 rfl rfl ?_
            refine r_ishl 83 dX11_could_82 rfl ?_
            rw [ishl_one i (by omega)]
            refine r_ior 84 dX11_could_83 rfl ?_
            refine r_istore3 85 dX11_could_84 rfl rfl (by decide) ?_
            refine r_iinc4 88 dX11_could_85 rfl rfl (by decide) ?_
            refine r_goto 23 dX11_could_88 (by decide) ?_
            refine ih (i + 1) _ (by omega) ?_
            first
              | exact ior_step (by omega) hm (by show ((!fTalk (c 51) i && fNear (c 51) t i) && fHear (c 51) p i (sp : Int)) = true; rw [y35, y72, show fNear (c 51) t i = true from decide_eq_true (by omega)]; rfl)
              | exact mkN_skip hm (by show ((!fTalk (c 51) i && fNear (c 51) t i) && fHear (c 51) p i (sp : Int)) = false; rw [y72, Bool.and_false])
              | exact mkN_skip hm (by show ((!fTalk (c 51) i && fNear (c 51) t i) && fHear (c 51) p i (sp : Int)) = false; rw [show fNear (c 51) t i = false from decide_eq_false (by omega), Bool.and_false]; rfl)
              | exact mkN_skip hm (by show ((!fTalk (c 51) i && fNear (c 51) t i) && fHear (c 51) p i (sp : Int)) = false; rw [y35]; rfl)
          · refine r_ifeqT 85 0 dX11_could_75 (by decide) (by decide) (by decide) ?_
            refine r_iinc4 88 dX11_could_85 rfl rfl (by decide) ?_
            refine r_goto 23 dX11_could_88 (by decide) ?_
            refine ih (i + 1) _ (by omega) ?_
            first
              | exact ior_step (by omega) hm (by show ((!fTalk (c 51) i && fNear (c 51) t i) && fHear (c 51) p i (sp : Int)) = true; rw [y35, y72, show fNear (c 51) t i = true from decide_eq_true (by omega)]; rfl)
              | exact mkN_skip hm (by show ((!fTalk (c 51) i && fNear (c 51) t i) && fHear (c 51) p i (sp : Int)) = false; rw [y72, Bool.and_false])
              | exact mkN_skip hm (by show ((!fTalk (c 51) i && fNear (c 51) t i) && fHear (c 51) p i (sp : Int)) = false; rw [show fNear (c 51) t i = false from decide_eq_false (by omega), Bool.and_false]; rfl)
              | exact mkN_skip hm (by show ((!fTalk (c 51) i && fNear (c 51) t i) && fHear (c 51) p i (sp : Int)) = false; rw [y35]; rfl)
theorem m_could {z : xZ} {d : Nat} {Q : tQ} {c : tC} {L : tL} {n : Nat} {p t : Int} (hR : RX c) (hn : c 50 0 2 = (n : Int)) (hp : inR p) (ht : inR t) (k : ∀ r w, (r, w) = gCould (c 50 0) (c 51) p t → Q (some (.int (iI r))) (mRe c w) L) : En z (d + 20) MX11_could Q 0 [some (.ref (xad z 50 0)), some (.int (iI p)), some (.int (iI t)), none, none] [] c L := by
  have p1 := hp.1
  have p2 := hp.2
  have t1 := ht.1
  have t2 := ht.2
  have hg := R0_rng hR
  have hc := R0_scal hR
  refine r_aloadN 1 dX11_could_0 rfl rfl ?_
  refine r_iloadN 2 dX11_could_1 rfl rfl ?_
  refine r_cv1 5 dX11_could_2 rfl gX11_197 rfl (by decide) (sh_50 z _) rfl rfl (Nat.le_of_ble_eq_true rfl) (Nat.le_of_ble_eq_true rfl) rfl ?_
  refine m_isPerson hR (by assumption) (fun y2 => ?_) (fun y2 => ?_)
  · refine r_ifeqF 8 dX11_could_5 rfl 16 (by decide) (by decide) (by decide) ?_
    refine r_aloadN 9 dX11_could_8 rfl rfl ?_
    refine r_iloadN 10 dX11_could_9 rfl rfl ?_
    refine r_cv1 13 dX11_could_10 rfl gX11_194 rfl (by decide) (sh_50 z _) rfl rfl (Nat.le_of_ble_eq_true rfl) (Nat.le_of_ble_eq_true rfl) rfl ?_
    refine m_isTone (by assumption) (fun y10 => ?_) (fun y10 => ?_)
    · refine r_ifneT 18 0 dX11_could_13 (by decide) (by decide) (by decide) ?_
      obtain ⟨p0, hp00⟩ := Int.eq_ofNat_of_zero_le (show 0 ≤ p by omega)
      subst hp00
      have hpp := R0_per hR p0 (by omega)
      obtain ⟨sp, hsp⟩ := Int.eq_ofNat_of_zero_le (show 0 ≤ c 51 14 p0 by omega)
      refine r_iconst 19 dX11_could_18 rfl ?_
      refine r_istore3 20 dX11_could_19 rfl rfl (by decide) ?_
      refine r_iconst 21 dX11_could_20 rfl ?_
      refine r_istore4 23 dX11_could_21 rfl rfl (by decide) ?_
      exact m_could_loop hR hn hsp (by omega) (by omega) (fun r e => k r 0 (by unfold gCould; rw [if_pos (by omega), Int.toNat_natCast, hn, Int.toNat_natCast, hsp, e])) n 0 _ (by omega) rfl
    · refine r_ifneF 16 dX11_could_13 rfl 18 (by decide) (by decide) (by decide) ?_
      refine r_iconst 17 dX11_could_16 rfl ?_
      refine r_ret dX11_could_17 rfl (k _ 0 ?_)
      unfold gCould
      rw [if_neg (by omega)]
      
  · refine r_ifeqT 16 0 dX11_could_5 (by decide) (by decide) (by decide) ?_
    refine r_iconst 17 dX11_could_16 rfl ?_
    refine r_ret dX11_could_17 rfl (k _ 0 ?_)
    unfold gCould
    rw [if_neg (by omega)]
    
theorem m_lack_loop {z : xZ} {d : Nat} {Q : tQ} {c : tC} {L : tL} {n p sp : Nat} (hR : RX c) (hn : c 50 0 2 = (n : Int)) (hsp : c 51 14 p = (sp : Int)) (hp : (p : Int) < c 50 0 1) (kk : ∀ r, r = fLack (c 51) p (sp : Int) n → Q (some (.int (iI r))) c L) : ∀ (k i : Nat) (m : Int) (v4 : Option Value), i + k = n → m = fLack (c 51) p (sp : Int) i → En z (d + 3) MX11_lacks Q 14 [some (.ref (xad z 50 0)), some (.int (iI (p : Int))), some (.int (iI m)), some (.int (iI (i : Int))), v4] [] c L := by
  have hg := R0_rng hR
  have hc := R0_scal hR
  have hpp := R0_per hR p hp
  intro k
  induction k with
  | zero =>
    intro i m v4 hi hm
    refine r_iloadN 15 dX11_lacks_14 rfl rfl ?_
    refine r_aloadN 16 dX11_lacks_15 rfl rfl ?_
    refine r_geti 19 dX11_lacks_16 rfl fX11_174 (by decide) (sh_50 z _) rfl ?_
    refine r_icge 95 22 dX11_lacks_19 rfl (by decide) (by omega) (by omega) (fun h19 => ?_) (fun h19 => ?_)
    · refine r_iloadN 96 dX11_lacks_95 rfl rfl ?_
      refine r_ret dX11_lacks_96 rfl (kk _ ?_)
      rw [hm, show i = n by omega]
    · exfalso; omega
  | succ k ih =>
    intro i m v4 hi hm
    have hb := fLack_bd hR hn hp (show sp < 64 by omega) i (by omega)
    have hq := R0_src hR i (by omega)
    have hlv := fLvl_bd hR hn (show i < n by omega) (show sp < 64 by omega)
    have hnd := fNeed_bd hR hp (t := c 51 21 i) (by omega)
    refine r_iloadN 15 dX11_lacks_14 rfl rfl ?_
    refine r_aloadN 16 dX11_lacks_15 rfl rfl ?_
    refine r_geti 19 dX11_lacks_16 rfl fX11_174 (by decide) (sh_50 z _) rfl ?_
    refine r_icge 95 22 dX11_lacks_19 rfl (by decide) (by omega) (by omega) (fun h19 => ?_) (fun h19 => ?_)
    · exfalso; omega
    · refine r_aloadN 23 dX11_lacks_22 rfl rfl ?_
      refine r_iloadN 24 dX11_lacks_23 rfl rfl ?_
      refine r_cv1 27 dX11_lacks_24 rfl gX11_279 rfl (by decide) (sh_50 z _) rfl rfl (Nat.le_of_ble_eq_true rfl) (Nat.le_of_ble_eq_true rfl) rfl ?_
      refine m_isTalk hR hn (by omega) (fun y24 => ?_) (fun y24 => ?_)
      · refine r_ifeqF 30 dX11_lacks_27 rfl 33 (by decide) (by decide) (by decide) ?_
        refine r_goto 89 dX11_lacks_30 (by decide) ?_
        refine r_iinc3 92 dX11_lacks_89 rfl rfl (by decide) ?_
        refine r_goto 14 dX11_lacks_92 (by decide) ?_
        refine ih (i + 1) _ _ (by omega) ?_
        rw [fLack, ← hm]
        first
          | (rw [if_pos y24]; done)
          | (rw [if_neg (by rw [y24]; decide), if_pos (by omega), ← e41, ← e52]; omega)
          | (rw [if_neg (by rw [y24]; decide), if_neg (by omega), ← e41, ← e52]; omega)
      · refine r_ifeqT 33 0 dX11_lacks_27 (by decide) (by decide) (by decide) ?_
        refine r_aloadN 34 dX11_lacks_33 rfl rfl ?_
        refine r_iloadN 35 dX11_lacks_34 rfl rfl ?_
        refine r_aloadN 36 dX11_lacks_35 rfl rfl ?_
        refine r_getq 39 dX11_lacks_36 rfl fX11_50 (by decide) (sh_50 z _) rfl ?_
        refine r_iloadN 40 dX11_lacks_39 rfl rfl ?_
        refine r_iald (n := 14) 41 dX11_lacks_40 (i) rfl rfl (by decide) (sh_51 z _) (by decide) (by omega) (by omega) ?_
        refine r_cv2 44 dX11_lacks_41 rfl gX11_285 rfl (by decide) (sh_50 z _) rfl rfl (Nat.le_of_ble_eq_true rfl) (Nat.le_of_ble_eq_true rfl) rfl ?_
        refine m_need hR hn hp (by omega) (fun r41 e41 => ?_)
        refine r_aloadN 45 dX11_lacks_44 rfl rfl ?_
        refine r_iloadN 46 dX11_lacks_45 rfl rfl ?_
        refine r_aloadN 47 dX11_lacks_46 rfl rfl ?_
        refine r_getq 50 dX11_lacks_47 rfl fX11_29 (by decide) (sh_50 z _) rfl ?_
        refine r_iloadN 51 dX11_lacks_50 rfl rfl ?_
        refine r_iald (n := 12) 52 dX11_lacks_51 (p) rfl rfl (by decide) (sh_51 z _) (by decide) (by omega) (by omega) ?_
        rw [hsp]
        refine r_cv2 55 dX11_lacks_52 rfl gX11_282 rfl (by decide) (sh_50 z _) rfl rfl (Nat.le_of_ble_eq_true rfl) (Nat.le_of_ble_eq_true rfl) rfl ?_
        refine m_level hR hn (s := i) (sp := sp) (by omega) (by omega) (fun r52 e52 => ?_)
        refine r_isub 56 dX11_lacks_55 rfl ?_
        refine r_istore4 58 dX11_lacks_56 rfl rfl (by decide) ?_
        refine r_iload 60 dX11_lacks_58 rfl rfl ?_
        refine r_ifge 67 63 dX11_lacks_60 rfl (by decide) (by omega) (fun h60 => ?_) (fun h60 => ?_)
        · refine r_iload 69 dX11_lacks_67 rfl rfl ?_
          refine r_istore4 71 dX11_lacks_69 rfl rfl (by decide) ?_
          refine r_iloadN 72 dX11_lacks_71 rfl rfl ?_
          refine r_iconst 73 dX11_lacks_72 rfl ?_
          refine r_iceq 82 76 dX11_lacks_73 rfl (by decide) (by omega) (by omega) (fun h73 => ?_) (fun h73 => ?_)
          · refine r_iload 84 dX11_lacks_82 rfl rfl ?_
            refine r_goto 88 dX11_lacks_84 (by decide) ?_
            refine r_istore2 89 dX11_lacks_88 rfl rfl (by decide) ?_
            refine r_iinc3 92 dX11_lacks_89 rfl rfl (by decide) ?_
            refine r_goto 14 dX11_lacks_92 (by decide) ?_
            refine ih (i + 1) _ _ (by omega) ?_
            rw [fLack, ← hm]
            first
              | (rw [if_pos y24]; done)
              | (rw [if_neg (by rw [y24]; decide), if_pos (by omega), ← e41, ← e52]; omega)
              | (rw [if_neg (by rw [y24]; decide), if_neg (by omega), ← e41, ← e52]; omega)
          · refine r_iload 78 dX11_lacks_76 rfl rfl ?_
            refine r_iloadN 79 dX11_lacks_78 rfl rfl ?_
            refine r_icge 87 82 dX11_lacks_79 rfl (by decide) (by omega) (by omega) (fun h79 => ?_) (fun h79 => ?_)
            · refine r_iloadN 88 dX11_lacks_87 rfl rfl ?_
              refine r_istore2 89 dX11_lacks_88 rfl rfl (by decide) ?_
              refine r_iinc3 92 dX11_lacks_89 rfl rfl (by decide) ?_
              refine r_goto 14 dX11_lacks_92 (by decide) ?_
              refine ih (i + 1) _ _ (by omega) ?_
              rw [fLack, ← hm]
              first
                | (rw [if_pos y24]; done)
                | (rw [if_neg (by rw [y24]; decide), if_pos (by omega), ← e41, ← e52]; omega)
                | (rw [if_neg (by rw [y24]; decide), if_neg (by omega), ← e41, ← e52]; omega)
            · refine r_iload 84 dX11_lacks_82 rfl rfl ?_
              refine r_goto 88 dX11_lacks_84 (by decide) ?_
              refine r_istore2 89 dX11_lacks_88 rfl rfl (by decide) ?_
              refine r_iinc3 92 dX11_lacks_89 rfl rfl (by decide) ?_
              refine r_goto 14 dX11_lacks_92 (by decide) ?_
              refine ih (i + 1) _ _ (by omega) ?_
              rw [fLack, ← hm]
              first
                | (rw [if_pos y24]; done)
                | (rw [if_neg (by rw [y24]; decide), if_pos (by omega), ← e41, ← e52]; omega)
                | (rw [if_neg (by rw [y24]; decide), if_neg (by omega), ← e41, ← e52]; omega)
        · refine r_iconst 64 dX11_lacks_63 rfl ?_
          refine r_goto 69 dX11_lacks_64 (by decide) ?_
          refine r_istore4 71 dX11_lacks_69 rfl rfl (by decide) ?_
          refine r_iloadN 72 dX11_lacks_71 rfl rfl ?_
          refine r_iconst 73 dX11_lacks_72 rfl ?_
          refine r_iceq 82 76 dX11_lacks_73 rfl (by decide) (by omega) (by omega) (fun h73 => ?_) (fun h73 => ?_)
          · refine r_iload 84 dX11_lacks_82 rfl rfl ?_
            refine r_goto 88 dX11_lacks_84 (by decide) ?_
            refine r_istore2 89 dX11_lacks_88 rfl rfl (by decide) ?_
            refine r_iinc3 92 dX11_lacks_89 rfl rfl (by decide) ?_
            refine r_goto 14 dX11_lacks_92 (by decide) ?_
            refine ih (i + 1) _ _ (by omega) ?_
            rw [fLack, ← hm]
            first
              | (rw [if_pos y24]; done)
              | (rw [if_neg (by rw [y24]; decide), if_pos (by omega), ← e41, ← e52]; omega)
              | (rw [if_neg (by rw [y24]; decide), if_neg (by omega), ← e41, ← e52]; omega)
          · refine r_iload 78 dX11_lacks_76 rfl rfl ?_
            refine r_iloadN 79 dX11_lacks_78 rfl rfl ?_
            refine r_icge 87 82 dX11_lacks_79 rfl (by decide) (by omega) (by omega) (fun h79 => ?_) (fun h79 => ?_)
            · refine r_iloadN 88 dX11_lacks_87 rfl rfl ?_
              refine r_istore2 89 dX11_lacks_88 rfl rfl (by decide) ?_
              refine r_iinc3 92 dX11_lacks_89 rfl rfl (by decide) ?_
              refine r_goto 14 dX11_lacks_92 (by decide) ?_
              refine ih (i + 1) _ _ (by omega) ?_
              rw [fLack, ← hm]
              first
                | (rw [if_pos y24]; done)
                | (rw [if_neg (by rw [y24]; decide), if_pos (by omega), ← e41, ← e52]; omega)
                | (rw [if_neg (by rw [y24]; decide), if_neg (by omega), ← e41, ← e52]; omega)
            · refine r_iload 84 dX11_lacks_82 rfl rfl ?_
              refine r_goto 88 dX11_lacks_84 (by decide) ?_
              refine r_istore2 89 dX11_lacks_88 rfl rfl (by decide) ?_
              refine r_iinc3 92 dX11_lacks_89 rfl rfl (by decide) ?_
              refine r_goto 14 dX11_lacks_92 (by decide) ?_
              refine ih (i + 1) _ _ (by omega) ?_
              rw [fLack, ← hm]
              first
                | (rw [if_pos y24]; done)
                | (rw [if_neg (by rw [y24]; decide), if_pos (by omega), ← e41, ← e52]; omega)
                | (rw [if_neg (by rw [y24]; decide), if_neg (by omega), ← e41, ← e52]; omega)
theorem m_lacks {z : xZ} {d : Nat} {Q : tQ} {c : tC} {L : tL} {n : Nat} {p : Int} (hR : RX c) (hn : c 50 0 2 = (n : Int)) (hp : inR p) (k : ∀ r w, (r, w) = gLacks (c 50 0) (c 51) p → Q (some (.int (iI r))) (mRe c w) L) : En z (d + 20) MX11_lacks Q 0 [some (.ref (xad z 50 0)), some (.int (iI p)), none, none, none] [] c L := by
  have p1 := hp.1
  have p2 := hp.2
  have hg := R0_rng hR
  have hc := R0_scal hR
  refine r_aloadN 1 dX11_lacks_0 rfl rfl ?_
  refine r_iloadN 2 dX11_lacks_1 rfl rfl ?_
  refine r_cv1 5 dX11_lacks_2 rfl gX11_197 rfl (by decide) (sh_50 z _) rfl rfl (Nat.le_of_ble_eq_true rfl) (Nat.le_of_ble_eq_true rfl) rfl ?_
  refine m_isPerson hR (by assumption) (fun y2 => ?_) (fun y2 => ?_)
  · refine r_ifneT 10 0 dX11_lacks_5 (by decide) (by decide) (by decide) ?_
    obtain ⟨p0, hp00⟩ := Int.eq_ofNat_of_zero_le (show 0 ≤ p by omega)
    subst hp00
    have hpp := R0_per hR p0 (by omega)
    obtain ⟨sp, hsp⟩ := Int.eq_ofNat_of_zero_le (show 0 ≤ c 51 14 p0 by omega)
    refine r_iconst 11 dX11_lacks_10 rfl ?_
    refine r_istore2 12 dX11_lacks_11 rfl rfl (by decide) ?_
    refine r_iconst 13 dX11_lacks_12 rfl ?_
    refine r_istore3 14 dX11_lacks_13 rfl rfl (by decide) ?_
    exact m_lack_loop hR hn hsp (by omega) (fun r e => k r 0 (by unfold gLacks; rw [if_pos (by omega), Int.toNat_natCast, hn, Int.toNat_natCast, hsp, e])) n 0 _ none (by omega) rfl
  · refine r_ifneF 8 dX11_lacks_5 rfl 10 (by decide) (by decide) (by decide) ?_
    refine r_iconst 9 dX11_lacks_8 rfl ?_
    refine r_ret dX11_lacks_9 rfl (k _ 0 ?_)
    unfold gLacks
    rw [if_neg (by omega)]
    
theorem m_told_loop {z : xZ} {d : Nat} {Q : tQ} {c : tC} {L : tL} {n : Nat} {w : Int} (hR : RX c) (hn : c 50 0 2 = (n : Int)) (hw : 0 ≤ w ∧ w ≤ 2) (kk : ∀ r, r = ((cntN (fLet (c 50 0) (c 51) w) (c 50 0 5).toNat : Nat) : Int) → Q (some (.int (iI r))) c L) : ∀ (k i : Nat) (m : Int), i + k = c 50 0 5 → m = ((cntN (fLet (c 50 0) (c 51) w) i : Nat) : Int) → En z (d + 7) MX11_told Q 20 [some (.ref (xad z 50 0)), some (.int (iI w)), some (.int (iI m)), some (.int (iI (i : Int)))] [] c L := by
  have hg := R0_rng hR
  have hc := R0_scal hR
  have hlw := R0_law hR
  intro k
  induction k with
  | zero =>
    intro i m hi hm
    refine r_iloadN 21 dX11_told_20 rfl rfl ?_
    refine r_aloadN 22 dX11_told_21 rfl rfl ?_
    refine r_geti 25 dX11_told_22 rfl fX11_319 (by decide) (sh_50 z _) rfl ?_
    refine r_icge 114 28 dX11_told_25 rfl (by decide) (by omega) (by omega) (fun h25 => ?_) (fun h25 => ?_)
    · refine r_iloadN 115 dX11_told_114 rfl rfl ?_
      refine r_ret dX11_told_115 rfl (kk _ ?_)
      rw [hm, show i = (c 50 0 5).toNat by omega]
    · exfalso; omega
  | succ k ih =>
    intro i m hi hm
    have hl := R0_let hR i (by omega)
    obtain ⟨p0, hp0⟩ := Int.eq_ofNat_of_zero_le hl.2.1.1
    have hpp := R0_per hR p0 (by omega)
    obtain ⟨sp, hsp⟩ := Int.eq_ofNat_of_zero_le (show 0 ≤ c 51 14 p0 by omega)
    refine r_iloadN 21 dX11_told_20 rfl rfl ?_
    refine r_aloadN 22 dX11_told_21 rfl rfl ?_
    refine r_geti 25 dX11_told_22 rfl fX11_319 (by decide) (sh_50 z _) rfl ?_
    refine r_icge 114 28 dX11_told_25 rfl (by decide) (by omega) (by omega) (fun h25 => ?_) (fun h25 => ?_)
    · exfalso; omega
    · refine r_aloadN 29 dX11_told_28 rfl rfl ?_
      refine r_getq 32 dX11_told_29 rfl fX11_95 (by decide) (sh_50 z _) rfl ?_
      refine r_iloadN 33 dX11_told_32 rfl rfl ?_
      refine r_iald (n := 30) 34 dX11_told_33 (i) rfl rfl (by decide) (sh_51 z _) (by decide) (by omega) (by omega) ?_
      refine r_aloadN 35 dX11_told_34 rfl rfl ?_
      refine r_getq 38 dX11_told_35 rfl fX11_20 (by decide) (sh_50 z _) rfl ?_
      refine r_iconst 39 dX11_told_38 rfl ?_
      refine r_iald (n := 6) 40 dX11_told_39 (5) rfl rfl (by decide) (sh_51 z _) (by decide) (by omega) (by omega) ?_
      refine r_icge 46 43 dX11_told_40 rfl (by decide) (by omega) (by omega) (fun h40 => ?_) (fun h40 => ?_)
      · refine r_iloadN 47 dX11_told_46 rfl rfl ?_
        refine r_ifeq 105 50 dX11_told_47 rfl (by decide) (by omega) (fun h47 => ?_) (fun h47 => ?_)
        · refine r_iinc2 108 dX11_told_105 rfl rfl (by decide) ?_
          refine r_iinc3 111 dX11_told_108 rfl rfl (by decide) ?_
          refine r_goto 20 dX11_told_111 (by decide) ?_
          refine ih (i + 1) _ (by omega) ?_
          rw [cntN]
          first
            | (exfalso; omega)
            | (rw [if_pos (by unfold fLet; rw [decide_eq_true (show c 51 11 5 ≤ c 51 36 i by omega), Bool.true_and]; first
                  | (rw [if_pos (show w = 1 by omega)]; exact decide_eq_true (by omega))
                  | (rw [if_neg (show ¬ w = 1 by omega), if_neg (show ¬ w = 2 by omega)]; done)
                  | (rw [if_neg (show ¬ w = 1 by omega), if_pos (show w = 2 by omega), hp0, Int.toNat_natCast, hsp]; rw [e99] at h102; exact decide_eq_true (by omega)))]; omega)
            | (rw [if_neg (by
                  intro hq
                  unfold fLet at hq
                  rw [Bool.and_eq_true] at hq
                  first
                    | exact absurd (of_decide_eq_true hq.1) (by omega)
                    | (rw [if_pos (show w = 1 by omega)] at hq; exact absurd (of_decide_eq_true hq.2) (by omega))
                    | (rw [if_neg (show ¬ w = 1 by omega), if_pos (show w = 2 by omega), hp0, Int.toNat_natCast, hsp] at hq; rw [e99] at h102; exact absurd (of_decide_eq_true hq.2) (by omega)))]; omega)
        · refine r_iloadN 51 dX11_told_50 rfl rfl ?_
          refine r_iconst 52 dX11_told_51 rfl ?_
          refine r_icne 70 55 dX11_told_52 rfl (by decide) (by omega) (by omega) (fun h52 => ?_) (fun h52 => ?_)
          · refine r_iloadN 71 dX11_told_70 rfl rfl ?_
            refine r_iconst 72 dX11_told_71 rfl ?_
            refine r_icne 108 75 dX11_told_72 rfl (by decide) (by omega) (by omega) (fun h72 => ?_) (fun h72 => ?_)
            · refine r_iinc3 111 dX11_told_108 rfl rfl (by decide) ?_
              refine r_goto 20 dX11_told_111 (by decide) ?_
              refine ih (i + 1) _ (by omega) ?_
              rw [cntN]
              first
                | (exfalso; omega)
                | (rw [if_pos (by unfold fLet; rw [decide_eq_true (show c 51 11 5 ≤ c 51 36 i by omega), Bool.true_and]; first
                      | (rw [if_pos (show w = 1 by omega)]; exact decide_eq_true (by omega))
                      | (rw [if_neg (show ¬ w = 1 by omega), if_neg (show ¬ w = 2 by omega)]; done)
                      | (rw [if_neg (show ¬ w = 1 by omega), if_pos (show w = 2 by omega), hp0, Int.toNat_natCast, hsp]; rw [e99] at h102; exact decide_eq_true (by omega)))]; omega)
                | (rw [if_neg (by
                      intro hq
                      unfold fLet at hq
                      rw [Bool.and_eq_true] at hq
                      first
                        | exact absurd (of_decide_eq_true hq.1) (by omega)
                        | (rw [if_pos (show w = 1 by omega)] at hq; exact absurd (of_decide_eq_true hq.2) (by omega))
                        | (rw [if_neg (show ¬ w = 1 by omega), if_pos (show w = 2 by omega), hp0, Int.toNat_natCast, hsp] at hq; rw [e99] at h102; exact absurd (of_decide_eq_true hq.2) (by omega)))]; omega)
            · refine r_aloadN 76 dX11_told_75 rfl rfl ?_
              refine r_aloadN 77 dX11_told_76 rfl rfl ?_
              refine r_getq 80 dX11_told_77 rfl fX11_92 (by decide) (sh_50 z _) rfl ?_
              refine r_iloadN 81 dX11_told_80 rfl rfl ?_
              refine r_iald (n := 30) 82 dX11_told_81 (i) rfl rfl (by decide) (sh_51 z _) (by decide) (by omega) (by omega) ?_
              rw [hp0]
              refine r_aloadN 83 dX11_told_82 rfl rfl ?_
              refine r_getq 86 dX11_told_83 rfl fX11_29 (by decide) (sh_50 z _) rfl ?_
              refine r_aloadN 87 dX11_told_86 rfl rfl ?_
              refine r_getq 90 dX11_told_87 rfl fX11_92 (by decide) (sh_50 z _) rfl ?_
              refine r_iloadN 91 dX11_told_90 rfl rfl ?_
              refine r_iald (n := 30) 92 dX11_told_91 (i) rfl rfl (by decide) (sh_51 z _) (by decide) (by omega) (by omega) ?_
              rw [hp0]
              refine r_iald (n := 12) 93 dX11_told_92 (p0) rfl rfl (by decide) (sh_51 z _) (by decide) (by omega) (by omega) ?_
              rw [hsp]
              refine r_aloadN 94 dX11_told_93 rfl rfl ?_
              refine r_getq 97 dX11_told_94 rfl fX11_95 (by decide) (sh_50 z _) rfl ?_
              refine r_iloadN 98 dX11_told_97 rfl rfl ?_
              refine r_iald (n := 30) 99 dX11_told_98 (i) rfl rfl (by decide) (sh_51 z _) (by decide) (by omega) (by omega) ?_
              refine r_cv3 102 dX11_told_99 rfl gX11_299 rfl (by decide) (sh_50 z _) rfl rfl (Nat.le_of_ble_eq_true rfl) (Nat.le_of_ble_eq_true rfl) rfl ?_
              refine m_heard hR hn (p := p0) (sp := sp) (by omega) (by omega) (by omega) (fun r99 e99 => ?_)
              refine r_ifne 108 105 dX11_told_102 rfl (by decide) (by have := mkN_lt31 (fun s => fHear (c 51) p0 s (sp : Int) && fSnd (c 50 0) (c 51) s (c 51 36 i)) (show n ≤ 14 by omega); unfold fHeard at e99; rw [hn, Int.toNat_natCast] at e99; omega) (fun h102 => ?_) (fun h102 => ?_)
              · refine r_iinc3 111 dX11_told_108 rfl rfl (by decide) ?_
                refine r_goto 20 dX11_told_111 (by decide) ?_
                refine ih (i + 1) _ (by omega) ?_
                rw [cntN]
                first
                  | (exfalso; omega)
                  | (rw [if_pos (by unfold fLet; rw [decide_eq_true (show c 51 11 5 ≤ c 51 36 i by omega), Bool.true_and]; first
                        | (rw [if_pos (show w = 1 by omega)]; exact decide_eq_true (by omega))
                        | (rw [if_neg (show ¬ w = 1 by omega), if_neg (show ¬ w = 2 by omega)]; done)
                        | (rw [if_neg (show ¬ w = 1 by omega), if_pos (show w = 2 by omega), hp0, Int.toNat_natCast, hsp]; rw [e99] at h102; exact decide_eq_true (by omega)))]; omega)
                  | (rw [if_neg (by
                        intro hq
                        unfold fLet at hq
                        rw [Bool.and_eq_true] at hq
                        first
                          | exact absurd (of_decide_eq_true hq.1) (by omega)
                          | (rw [if_pos (show w = 1 by omega)] at hq; exact absurd (of_decide_eq_true hq.2) (by omega))
                          | (rw [if_neg (show ¬ w = 1 by omega), if_pos (show w = 2 by omega), hp0, Int.toNat_natCast, hsp] at hq; rw [e99] at h102; exact absurd (of_decide_eq_true hq.2) (by omega)))]; omega)
              · refine r_iinc2 108 dX11_told_105 rfl rfl (by decide) ?_
                refine r_iinc3 111 dX11_told_108 rfl rfl (by decide) ?_
                refine r_goto 20 dX11_told_111 (by decide) ?_
                refine ih (i + 1) _ (by omega) ?_
                rw [cntN]
                first
                  | (exfalso; omega)
                  | (rw [if_pos (by unfold fLet; rw [decide_eq_true (show c 51 11 5 ≤ c 51 36 i by omega), Bool.true_and]; first
                        | (rw [if_pos (show w = 1 by omega)]; exact decide_eq_true (by omega))
                        | (rw [if_neg (show ¬ w = 1 by omega), if_neg (show ¬ w = 2 by omega)]; done)
                        | (rw [if_neg (show ¬ w = 1 by omega), if_pos (show w = 2 by omega), hp0, Int.toNat_natCast, hsp]; rw [e99] at h102; exact decide_eq_true (by omega)))]; omega)
                  | (rw [if_neg (by
                        intro hq
                        unfold fLet at hq
                        rw [Bool.and_eq_true] at hq
                        first
                          | exact absurd (of_decide_eq_true hq.1) (by omega)
                          | (rw [if_pos (show w = 1 by omega)] at hq; exact absurd (of_decide_eq_true hq.2) (by omega))
                          | (rw [if_neg (show ¬ w = 1 by omega), if_pos (show w = 2 by omega), hp0, Int.toNat_natCast, hsp] at hq; rw [e99] at h102; exact absurd (of_decide_eq_true hq.2) (by omega)))]; omega)
          · refine r_aloadN 56 dX11_told_55 rfl rfl ?_
            refine r_getq 59 dX11_told_56 rfl fX11_98 (by decide) (sh_50 z _) rfl ?_
            refine r_iloadN 60 dX11_told_59 rfl rfl ?_
            refine r_iald (n := 30) 61 dX11_told_60 (i) rfl rfl (by decide) (sh_51 z _) (by decide) (by omega) (by omega) ?_
            refine r_aloadN 62 dX11_told_61 rfl rfl ?_
            refine r_getq 65 dX11_told_62 rfl fX11_20 (by decide) (sh_50 z _) rfl ?_
            refine r_iconst 66 dX11_told_65 rfl ?_
            refine r_iald (n := 6) 67 dX11_told_66 (5) rfl rfl (by decide) (sh_51 z _) (by decide) (by omega) (by omega) ?_
            refine r_iclt 105 70 dX11_told_67 rfl (by decide) (by omega) (by omega) (fun h67 => ?_) (fun h67 => ?_)
            · refine r_iinc2 108 dX11_told_105 rfl rfl (by decide) ?_
              refine r_iinc3 111 dX11_told_108 rfl rfl (by decide) ?_
              refine r_goto 20 dX11_told_111 (by decide) ?_
              refine ih (i + 1) _ (by omega) ?_
              rw [cntN]
              first
                | (exfalso; omega)
                | (rw [if_pos (by unfold fLet; rw [decide_eq_true (show c 51 11 5 ≤ c 51 36 i by omega), Bool.true_and]; first
                      | (rw [if_pos (show w = 1 by omega)]; exact decide_eq_true (by omega))
                      | (rw [if_neg (show ¬ w = 1 by omega), if_neg (show ¬ w = 2 by omega)]; done)
                      | (rw [if_neg (show ¬ w = 1 by omega), if_pos (show w = 2 by omega), hp0, Int.toNat_natCast, hsp]; rw [e99] at h102; exact decide_eq_true (by omega)))]; omega)
                | (rw [if_neg (by
                      intro hq
                      unfold fLet at hq
                      rw [Bool.and_eq_true] at hq
                      first
                        | exact absurd (of_decide_eq_true hq.1) (by omega)
                        | (rw [if_pos (show w = 1 by omega)] at hq; exact absurd (of_decide_eq_true hq.2) (by omega))
                        | (rw [if_neg (show ¬ w = 1 by omega), if_pos (show w = 2 by omega), hp0, Int.toNat_natCast, hsp] at hq; rw [e99] at h102; exact absurd (of_decide_eq_true hq.2) (by omega)))]; omega)
            · refine r_iloadN 71 dX11_told_70 rfl rfl ?_
              refine r_iconst 72 dX11_told_71 rfl ?_
              refine r_icne 108 75 dX11_told_72 rfl (by decide) (by omega) (by omega) (fun h72 => ?_) (fun h72 => ?_)
              · refine r_iinc3 111 dX11_told_108 rfl rfl (by decide) ?_
                refine r_goto 20 dX11_told_111 (by decide) ?_
                refine ih (i + 1) _ (by omega) ?_
                rw [cntN]
                first
                  | (exfalso; omega)
                  | (rw [if_pos (by unfold fLet; rw [decide_eq_true (show c 51 11 5 ≤ c 51 36 i by omega), Bool.true_and]; first
                        | (rw [if_pos (show w = 1 by omega)]; exact decide_eq_true (by omega))
                        | (rw [if_neg (show ¬ w = 1 by omega), if_neg (show ¬ w = 2 by omega)]; done)
                        | (rw [if_neg (show ¬ w = 1 by omega), if_pos (show w = 2 by omega), hp0, Int.toNat_natCast, hsp]; rw [e99] at h102; exact decide_eq_true (by omega)))]; omega)
                  | (rw [if_neg (by
                        intro hq
                        unfold fLet at hq
                        rw [Bool.and_eq_true] at hq
                        first
                          | exact absurd (of_decide_eq_true hq.1) (by omega)
                          | (rw [if_pos (show w = 1 by omega)] at hq; exact absurd (of_decide_eq_true hq.2) (by omega))
                          | (rw [if_neg (show ¬ w = 1 by omega), if_pos (show w = 2 by omega), hp0, Int.toNat_natCast, hsp] at hq; rw [e99] at h102; exact absurd (of_decide_eq_true hq.2) (by omega)))]; omega)
              · refine r_aloadN 76 dX11_told_75 rfl rfl ?_
                refine r_aloadN 77 dX11_told_76 rfl rfl ?_
                refine r_getq 80 dX11_told_77 rfl fX11_92 (by decide) (sh_50 z _) rfl ?_
                refine r_iloadN 81 dX11_told_80 rfl rfl ?_
                refine r_iald (n := 30) 82 dX11_told_81 (i) rfl rfl (by decide) (sh_51 z _) (by decide) (by omega) (by omega) ?_
                rw [hp0]
                refine r_aloadN 83 dX11_told_82 rfl rfl ?_
                refine r_getq 86 dX11_told_83 rfl fX11_29 (by decide) (sh_50 z _) rfl ?_
                refine r_aloadN 87 dX11_told_86 rfl rfl ?_
                refine r_getq 90 dX11_told_87 rfl fX11_92 (by decide) (sh_50 z _) rfl ?_
                refine r_iloadN 91 dX11_told_90 rfl rfl ?_
                refine r_iald (n := 30) 92 dX11_told_91 (i) rfl rfl (by decide) (sh_51 z _) (by decide) (by omega) (by omega) ?_
                rw [hp0]
                refine r_iald (n := 12) 93 dX11_told_92 (p0) rfl rfl (by decide) (sh_51 z _) (by decide) (by omega) (by omega) ?_
                rw [hsp]
                refine r_aloadN 94 dX11_told_93 rfl rfl ?_
                refine r_getq 97 dX11_told_94 rfl fX11_95 (by decide) (sh_50 z _) rfl ?_
                refine r_iloadN 98 dX11_told_97 rfl rfl ?_
                refine r_iald (n := 30) 99 dX11_told_98 (i) rfl rfl (by decide) (sh_51 z _) (by decide) (by omega) (by omega) ?_
                refine r_cv3 102 dX11_told_99 rfl gX11_299 rfl (by decide) (sh_50 z _) rfl rfl (Nat.le_of_ble_eq_true rfl) (Nat.le_of_ble_eq_true rfl) rfl ?_
                refine m_heard hR hn (p := p0) (sp := sp) (by omega) (by omega) (by omega) (fun r99 e99 => ?_)
                refine r_ifne 108 105 dX11_told_102 rfl (by decide) (by have := mkN_lt31 (fun s => fHear (c 51) p0 s (sp : Int) && fSnd (c 50 0) (c 51) s (c 51 36 i)) (show n ≤ 14 by omega); unfold fHeard at e99; rw [hn, Int.toNat_natCast] at e99; omega) (fun h102 => ?_) (fun h102 => ?_)
                · refine r_iinc3 111 dX11_told_108 rfl rfl (by decide) ?_
                  refine r_goto 20 dX11_told_111 (by decide) ?_
                  refine ih (i + 1) _ (by omega) ?_
                  rw [cntN]
                  first
                    | (exfalso; omega)
                    | (rw [if_pos (by unfold fLet; rw [decide_eq_true (show c 51 11 5 ≤ c 51 36 i by omega), Bool.true_and]; first
                          | (rw [if_pos (show w = 1 by omega)]; exact decide_eq_true (by omega))
                          | (rw [if_neg (show ¬ w = 1 by omega), if_neg (show ¬ w = 2 by omega)]; done)
                          | (rw [if_neg (show ¬ w = 1 by omega), if_pos (show w = 2 by omega), hp0, Int.toNat_natCast, hsp]; rw [e99] at h102; exact decide_eq_true (by omega)))]; omega)
                    | (rw [if_neg (by
                          intro hq
                          unfold fLet at hq
                          rw [Bool.and_eq_true] at hq
                          first
                            | exact absurd (of_decide_eq_true hq.1) (by omega)
                            | (rw [if_pos (show w = 1 by omega)] at hq; exact absurd (of_decide_eq_true hq.2) (by omega))
                            | (rw [if_neg (show ¬ w = 1 by omega), if_pos (show w = 2 by omega), hp0, Int.toNat_natCast, hsp] at hq; rw [e99] at h102; exact absurd (of_decide_eq_true hq.2) (by omega)))]; omega)
                · refine r_iinc2 108 dX11_told_105 rfl rfl (by decide) ?_
                  refine r_iinc3 111 dX11_told_108 rfl rfl (by decide) ?_
                  refine r_goto 20 dX11_told_111 (by decide) ?_
                  refine ih (i + 1) _ (by omega) ?_
                  rw [cntN]
                  first
                    | (exfalso; omega)
                    | (rw [if_pos (by unfold fLet; rw [decide_eq_true (show c 51 11 5 ≤ c 51 36 i by omega), Bool.true_and]; first
                          | (rw [if_pos (show w = 1 by omega)]; exact decide_eq_true (by omega))
                          | (rw [if_neg (show ¬ w = 1 by omega), if_neg (show ¬ w = 2 by omega)]; done)
                          | (rw [if_neg (show ¬ w = 1 by omega), if_pos (show w = 2 by omega), hp0, Int.toNat_natCast, hsp]; rw [e99] at h102; exact decide_eq_true (by omega)))]; omega)
                    | (rw [if_neg (by
                          intro hq
                          unfold fLet at hq
                          rw [Bool.and_eq_true] at hq
                          first
                            | exact absurd (of_decide_eq_true hq.1) (by omega)
                            | (rw [if_pos (show w = 1 by omega)] at hq; exact absurd (of_decide_eq_true hq.2) (by omega))
                            | (rw [if_neg (show ¬ w = 1 by omega), if_pos (show w = 2 by omega), hp0, Int.toNat_natCast, hsp] at hq; rw [e99] at h102; exact absurd (of_decide_eq_true hq.2) (by omega)))]; omega)
      · refine r_goto 108 dX11_told_43 (by decide) ?_
        refine r_iinc3 111 dX11_told_108 rfl rfl (by decide) ?_
        refine r_goto 20 dX11_told_111 (by decide) ?_
        refine ih (i + 1) _ (by omega) ?_
        rw [cntN]
        first
          | (exfalso; omega)
          | (rw [if_pos (by unfold fLet; rw [decide_eq_true (show c 51 11 5 ≤ c 51 36 i by omega), Bool.true_and]; first
                | (rw [if_pos (show w = 1 by omega)]; exact decide_eq_true (by omega))
                | (rw [if_neg (show ¬ w = 1 by omega), if_neg (show ¬ w = 2 by omega)]; done)
                | (rw [if_neg (show ¬ w = 1 by omega), if_pos (show w = 2 by omega), hp0, Int.toNat_natCast, hsp]; rw [e99] at h102; exact decide_eq_true (by omega)))]; omega)
          | (rw [if_neg (by
                intro hq
                unfold fLet at hq
                rw [Bool.and_eq_true] at hq
                first
                  | exact absurd (of_decide_eq_true hq.1) (by omega)
                  | (rw [if_pos (show w = 1 by omega)] at hq; exact absurd (of_decide_eq_true hq.2) (by omega))
                  | (rw [if_neg (show ¬ w = 1 by omega), if_pos (show w = 2 by omega), hp0, Int.toNat_natCast, hsp] at hq; rw [e99] at h102; exact absurd (of_decide_eq_true hq.2) (by omega)))]; omega)
theorem m_told {z : xZ} {d : Nat} {Q : tQ} {c : tC} {L : tL} {n : Nat} {w0 : Int} (hR : RX c) (hn : c 50 0 2 = (n : Int)) (hw0 : inR w0) (k : ∀ r w, (r, w) = gTold (c 50 0) (c 51) w0 → Q (some (.int (iI r))) (mRe c w) L) : En z (d + 20) MX11_told Q 0 [some (.ref (xad z 50 0)), some (.int (iI w0)), none, none] [] c L := by
  have w01 := hw0.1
  have w02 := hw0.2
  have hg := R0_rng hR
  have hc := R0_scal hR
  refine r_iloadN 1 dX11_told_0 rfl rfl ?_
  refine r_iflt 9 4 dX11_told_1 rfl (by decide) (by omega) (fun h1 => ?_) (fun h1 => ?_)
  · refine r_aloadN 10 dX11_told_9 rfl rfl ?_
    refine r_bipush 12 dX11_told_10 rfl (by decide) ?_
    refine r_cv1 15 dX11_told_12 rfl gX11_184 rfl (by decide) (sh_50 z _) rfl rfl (Nat.le_of_ble_eq_true rfl) (Nat.le_of_ble_eq_true rfl) rfl ?_
    refine m_no (k0 := 5) (by decide) (by decide) ?_
    refine r_ret dX11_told_15 rfl (k _ 5 ?_)
    unfold gTold
    rw [if_neg (by omega)]
    
  · refine r_iloadN 5 dX11_told_4 rfl rfl ?_
    refine r_iconst 6 dX11_told_5 rfl ?_
    refine r_icle 16 9 dX11_told_6 rfl (by decide) (by omega) (by omega) (fun h6 => ?_) (fun h6 => ?_)
    · refine r_iconst 17 dX11_told_16 rfl ?_
      refine r_istore2 18 dX11_told_17 rfl rfl (by decide) ?_
      refine r_iconst 19 dX11_told_18 rfl ?_
      refine r_istore3 20 dX11_told_19 rfl rfl (by decide) ?_
      exact m_told_loop hR hn (by omega) (fun r e => k r 0 (by unfold gTold; rw [if_pos (by omega), e])) (c 50 0 5).toNat 0 _ (by omega) rfl
    · refine r_aloadN 10 dX11_told_9 rfl rfl ?_
      refine r_bipush 12 dX11_told_10 rfl (by decide) ?_
      refine r_cv1 15 dX11_told_12 rfl gX11_184 rfl (by decide) (sh_50 z _) rfl rfl (Nat.le_of_ble_eq_true rfl) (Nat.le_of_ble_eq_true rfl) rfl ?_
      refine m_no (k0 := 5) (by decide) (by decide) ?_
      refine r_ret dX11_told_15 rfl (k _ 5 ?_)
      unfold gTold
      rw [if_neg (by omega)]
      
