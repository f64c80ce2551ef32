/-! source -/
def gSource (S : sS) (kd wh t st : Int) : gA := if ¬ ((1 ≤ kd ∧ kd ≤ 7) ∧ ((kd = 4 ∧ isPe S wh) ∨ (kd ≠ 4 ∧ isSp wh))) then (-1, 1) else if ¬ (isTo t ∧ 1 ≤ st ∧ st ≤ 99) then (-6, 6) else if S 2 = 14 then (-7, 7) else (S 2, 0)
def uSrc (c : tC) (n : Nat) (kd wh t st : Int) : tC := cu (cu (cu (cu (cu (cu (cu (cu c 13 n 0 kd) 13 n 1 wh) 13 n 2 t) 13 n 3 st) 13 n 4 0) 13 n 5 23) 13 n 6 0) 13 n 7 0
theorem uSrc_ne {c : tC} {n : Nat} {kd wh t st : Int} {g i j : Nat} (h : ¬ (g = 13 ∧ i = n)) : uSrc c n kd wh t st g i j = c g i j := by
  have hh : ∀ x, ¬ (g = 13 ∧ i = n ∧ j = x) := fun x q => h ⟨q.1, q.2.1⟩
  unfold uSrc
  simp only [cu_ap]
  rw [if_neg (hh _), if_neg (hh _), if_neg (hh _), if_neg (hh _), if_neg (hh _), if_neg (hh _), if_neg (hh _), if_neg (hh _)]
theorem fBeat_comm (a b : Int) : fBeat a b = fBeat b a := by
  unfold fBeat
  rw [show max (a - b) (b - a) = max (b - a) (a - b) by omega]
theorem x_sbegin {z : xZ} {d : Nat} {Q : tQ} {c : tC} {L : tL} {n : Nat} {kd wh t st : Int} (hn : n < 28) (k : Q none (uSrc c n kd wh t st) L) : En z (d + 1) MX8_begin Q 0 [some (.ref (xad z 13 n)), some (.int (iI kd)), some (.int (iI wh)), some (.int (iI t)), some (.int (iI st))] [] c L := by
  refine r_aloadN 1 dX8_begin_0 rfl rfl ?_
  refine r_iloadN 2 dX8_begin_1 rfl rfl ?_
  refine r_puti 5 dX8_begin_2 rfl pX8_9 (ct_13 (by omega)) (sh_13 z _) rfl ?_
  refine r_aloadN 6 dX8_begin_5 rfl rfl ?_
  refine r_iloadN 7 dX8_begin_6 rfl rfl ?_
  refine r_puti 10 dX8_begin_7 rfl pX8_15 (ct_13 (by omega)) (sh_13 z _) rfl ?_
  refine r_aloadN 11 dX8_begin_10 rfl rfl ?_
  refine r_iloadN 12 dX8_begin_11 rfl rfl ?_
  refine r_puti 15 dX8_begin_12 rfl pX8_18 (ct_13 (by omega)) (sh_13 z _) rfl ?_
  refine r_aloadN 16 dX8_begin_15 rfl rfl ?_
  refine r_iload 18 dX8_begin_16 rfl rfl ?_
  refine r_puti 21 dX8_begin_18 rfl pX8_21 (ct_13 (by omega)) (sh_13 z _) rfl ?_
  refine r_aloadN 22 dX8_begin_21 rfl rfl ?_
  refine r_iconst 23 dX8_begin_22 rfl ?_
  refine r_puti 26 dX8_begin_23 rfl pX8_24 (ct_13 (by omega)) (sh_13 z _) rfl ?_
  refine r_aloadN 27 dX8_begin_26 rfl rfl ?_
  refine r_bipush 29 dX8_begin_27 rfl (by decide) ?_
  refine r_puti 32 dX8_begin_29 rfl pX8_27 (ct_13 (by omega)) (sh_13 z _) rfl ?_
  refine r_aloadN 33 dX8_begin_32 rfl rfl ?_
  refine r_iconst 34 dX8_begin_33 rfl ?_
  refine r_puti 37 dX8_begin_34 rfl pX8_30 (ct_13 (by omega)) (sh_13 z _) rfl ?_
  refine r_aloadN 38 dX8_begin_37 rfl rfl ?_
  refine r_iconst 39 dX8_begin_38 rfl ?_
  refine r_puti 42 dX8_begin_39 rfl pX8_33 (ct_13 (by omega)) (sh_13 z _) rfl ?_
  exact r_vret dX8_begin_42 rfl k
theorem x_addSource_loop {z : xZ} {d : Nat} {Q : tQ} {L : tL} {n : Nat} {kd wh t st : Int} {c0 : tC} (hR : RX c0) (hn : c0 50 0 2 = (n : Int)) (hn14 : n < 14) (ht : 0 ≤ t ∧ t ≤ 99) (kk : ∀ c : tC, (∀ g a b, ¬ (g = 13 ∧ a ≤ n ∧ b = 7) → c g a b = uSrc c0 n kd wh t st g a b) → c 13 n 7 = ((mkN (fun j => fBeat t (c0 51 21 j)) n : Nat) : Int) → (∀ j : Nat, j < n → c 13 j 7 = ((mkN (fun q => fBeat (c0 51 21 j) (if q = n then t else c0 51 21 q)) (n + 1) : Nat) : Int)) → Q (some (.int (iI (n : Int)))) (cu c 8 0 2 ((n : Int) + 1)) L) : ∀ (k i : Nat) (c : tC), i + k = n → (∀ g a b, ¬ (g = 13 ∧ a ≤ n ∧ b = 7) → c g a b = uSrc c0 n kd wh t st g a b) → c 13 n 7 = ((mkN (fun j => fBeat t (c0 51 21 j)) i : Nat) : Int) → (∀ j : Nat, j < i → c 13 j 7 = ((mkN (fun q => fBeat (c0 51 21 j) (if q = n then t else c0 51 21 q)) (n + 1) : Nat) : Int)) → (∀ j : Nat, i ≤ j → j < n → c 13 j 7 = c0 13 j 7) → En z (d + 2) MX9_addSource Q 24 [some (.ref (xad z 8 0)), some (.int (iI kd)), some (.int (iI wh)), some (.int (iI t)), some (.int (iI st)), some (.ref (xad z 13 n)), some (.int (iI (i : Int)))] [] c L := by
  intro k
  induction k with
  | zero =>
    intro i c hi hF hN hB hU
    have h8 : c 8 0 2 = (n : Int) := (hF 8 0 2 (by omega)).trans ((uSrc_ne (by omega)).trans (R0_scal hR).2.2.1) |>.trans hn
    refine r_iload 26 dX9_addSource_24 rfl rfl ?_
    refine r_aloadN 27 dX9_addSource_26 rfl rfl ?_
    refine r_geti 30 dX9_addSource_27 rfl fX9_18 (by decide) (sh_8 z _) rfl ?_
    rw [h8]
    refine r_icge 93 33 dX9_addSource_30 rfl (by decide) (by omega) (by omega) (fun h30 => ?_) (fun h30 => ?_)
    · refine r_aloadN 94 dX9_addSource_93 rfl rfl ?_
      refine r_dupr 95 dX9_addSource_94 rfl ?_
      refine r_geti 98 dX9_addSource_95 rfl fX9_18 (by decide) (sh_8 z _) rfl ?_
      rw [h8]
      refine r_iconst 99 dX9_addSource_98 rfl ?_
      refine r_iadd 100 dX9_addSource_99 rfl ?_
      refine r_puti 103 dX9_addSource_100 rfl pX9_18 (by decide) (sh_8 z _) rfl ?_
      refine r_aloadN 104 dX9_addSource_103 rfl rfl ?_
      refine r_geti 107 dX9_addSource_104 rfl fX9_18 (by decide) (sh_8 z _) rfl ?_
      rw [cu_ap, if_pos ⟨rfl, rfl, rfl⟩]
      refine r_iconst 108 dX9_addSource_107 rfl ?_
      refine r_isub 109 dX9_addSource_108 rfl ?_
      rw [show (n : Int) + 1 - 1 = (n : Int) by omega]
      exact r_ret dX9_addSource_109 rfl (kk c hF (by rw [hN, show i = n by omega]) (fun j hj => hB j (by omega)))
    · exfalso; omega
  | succ k ih =>
    intro i c hi hF hN hB hU
    have h8 : c 8 0 2 = (n : Int) := (hF 8 0 2 (by omega)).trans ((uSrc_ne (by omega)).trans (R0_scal hR).2.2.1) |>.trans hn
    have hq := R0_src hR i (by omega)
    have hti : c 13 i 2 = c0 51 21 i := (hF 13 i 2 (by omega)).trans ((uSrc_ne (by omega)).trans hq.1.2.2.1)
    have hbi : c 13 i 7 = ((mkN (fun q => fBeat (c0 51 21 i) (if q = n then t else c0 51 21 q)) n : Nat) : Int) := by
      rw [hU i (by omega) (by omega), R0_beat hR i (by omega), hn, Int.toNat_natCast]
      exact congrArg Nat.cast (mkN_ext fun q hq2 => by rw [if_neg (by omega)])
    refine r_iload 26 dX9_addSource_24 rfl rfl ?_
    refine r_aloadN 27 dX9_addSource_26 rfl rfl ?_
    refine r_geti 30 dX9_addSource_27 rfl fX9_18 (by decide) (sh_8 z _) rfl ?_
    rw [h8]
    refine r_icge 93 33 dX9_addSource_30 rfl (by decide) (by omega) (by omega) (fun h30 => ?_) (fun h30 => ?_)
    · exfalso; omega
    · refine r_iloadN 34 dX9_addSource_33 rfl rfl ?_
      refine r_aloadN 35 dX9_addSource_34 rfl rfl ?_
      refine r_getq 38 dX9_addSource_35 rfl fX9_38 (by decide) (sh_8 z _) rfl ?_
      refine r_iload 40 dX9_addSource_38 rfl rfl ?_
      refine r_aald 41 dX9_addSource_40 (i) rfl rfl (by decide) (sh_10a z) rfl (by decide) (by omega) (by omega) ?_
      refine r_geti 44 dX9_addSource_41 rfl fX9_111 (ct_13 (by omega)) (sh_13 z _) rfl ?_
      rw [hti]
      refine r_cs2 47 dX9_addSource_44 rfl gX9_114 (Nat.le_of_ble_eq_true rfl) (Nat.le_of_ble_eq_true rfl) rfl ?_
      refine x_beat ht (by omega) (fun y44 => ?_) (fun y44 => ?_)
      · refine r_ifeqF 50 dX9_addSource_47 rfl 87 (by decide) (by decide) (by decide) ?_
        refine r_aload 52 dX9_addSource_50 rfl rfl ?_
        refine r_dupr 53 dX9_addSource_52 rfl ?_
        refine r_geti 56 dX9_addSource_53 rfl fX9_118 (ct_13 (by omega)) (sh_13 z _) rfl ?_
        refine r_iload 58 dX9_addSource_56 rfl rfl ?_
        refine r_cs1 61 dX9_addSource_58 rfl gX9_100 (Nat.le_of_ble_eq_true rfl) (Nat.le_of_ble_eq_true rfl) rfl ?_
        refine x_bit (by omega) ?_
        refine r_ior 62 dX9_addSource_61 rfl ?_
        rw [ior_step (by omega) hN y44]
        refine r_puti 65 dX9_addSource_62 rfl pX9_118 (ct_13 (by omega)) (sh_13 z _) rfl ?_
        refine r_aloadN 66 dX9_addSource_65 rfl rfl ?_
        refine r_getq 69 dX9_addSource_66 rfl fX9_38 (by decide) (sh_8 z _) rfl ?_
        refine r_iload 71 dX9_addSource_69 rfl rfl ?_
        refine r_aald 72 dX9_addSource_71 (i) rfl rfl (by decide) (sh_10a z) rfl (by decide) (by omega) (by omega) ?_
        refine r_dupr 73 dX9_addSource_72 rfl ?_
        refine r_geti 76 dX9_addSource_73 rfl fX9_118 (ct_13 (by omega)) (sh_13 z _) rfl ?_
        rw [cu_ap, if_neg (by omega)]
        refine r_aloadN 77 dX9_addSource_76 rfl rfl ?_
        refine r_geti 80 dX9_addSource_77 rfl fX9_18 (by decide) (sh_8 z _) rfl ?_
        rw [cu_ap, if_neg (by omega), h8]
        refine r_cs1 83 dX9_addSource_80 rfl gX9_100 (Nat.le_of_ble_eq_true rfl) (Nat.le_of_ble_eq_true rfl) rfl ?_
        refine x_bit (i := n) (by omega) ?_
        refine r_ior 84 dX9_addSource_83 rfl ?_
        rw [ior_step (i := n) (by omega) hbi (by show fBeat (c0 51 21 i) (if n = n then t else c0 51 21 n) = true; rw [if_pos rfl, fBeat_comm]; exact y44)]
        refine r_puti 87 dX9_addSource_84 rfl pX9_118 (ct_13 (by omega)) (sh_13 z _) rfl ?_
        refine r_iinc6 90 dX9_addSource_87 rfl rfl (by decide) ?_
        refine r_goto 24 dX9_addSource_90 (by decide) ?_
        refine ih (i + 1) _ (by omega) ?_ ?_ ?_ ?_
        · intro g a b h
          first
            | (rw [cu_ap, if_neg (by omega), cu_ap, if_neg (by omega)]; exact hF g a b h)
            | exact hF g a b h
        · first
            | (rw [cu_ap, if_neg (by omega), cu_ap, if_pos ⟨rfl, rfl, rfl⟩]; done)
            | exact mkN_skip hN y44
        · intro j hj
          by_cases e : j = i
          · rw [e]
            first
              | (rw [cu_ap, if_pos ⟨rfl, rfl, rfl⟩]; done)
              | exact mkN_skip hbi (by show fBeat (c0 51 21 i) (if n = n then t else c0 51 21 n) = false; rw [if_pos rfl, fBeat_comm]; exact y44)
          · first
              | (rw [cu_ap, if_neg (by omega), cu_ap, if_neg (by omega)]; exact hB j (by omega))
              | exact hB j (by omega)
        · intro j h1 h2
          first
            | (rw [cu_ap, if_neg (by omega), cu_ap, if_neg (by omega)]; exact hU j (by omega) h2)
            | exact hU j (by omega) h2
      · refine r_ifeqT 87 0 dX9_addSource_47 (by decide) (by decide) (by decide) ?_
        refine r_iinc6 90 dX9_addSource_87 rfl rfl (by decide) ?_
        refine r_goto 24 dX9_addSource_90 (by decide) ?_
        refine ih (i + 1) _ (by omega) ?_ ?_ ?_ ?_
        · intro g a b h
          first
            | (rw [cu_ap, if_neg (by omega), cu_ap, if_neg (by omega)]; exact hF g a b h)
            | exact hF g a b h
        · first
            | (rw [cu_ap, if_neg (by omega), cu_ap, if_pos ⟨rfl, rfl, rfl⟩]; done)
            | exact mkN_skip hN y44
        · intro j hj
          by_cases e : j = i
          · rw [e]
            first
              | (rw [cu_ap, if_pos ⟨rfl, rfl, rfl⟩]; done)
              | exact mkN_skip hbi (by show fBeat (c0 51 21 i) (if n = n then t else c0 51 21 n) = false; rw [if_pos rfl, fBeat_comm]; exact y44)
          · first
              | (rw [cu_ap, if_neg (by omega), cu_ap, if_neg (by omega)]; exact hB j (by omega))
              | exact hB j (by omega)
        · intro j h1 h2
          first
            | (rw [cu_ap, if_neg (by omega), cu_ap, if_neg (by omega)]; exact hU j (by omega) h2)
            | exact hU j (by omega) h2
theorem x_addSource {z : xZ} {d : Nat} {Q : tQ} {c : tC} {L : tL} {n : Nat} {kd wh t st : Int} (hR : RX c) (hn : c 50 0 2 = (n : Int)) (hn14 : n < 14) (ht : 0 ≤ t ∧ t ≤ 99) (k : ∀ c2 : tC, (∀ g a b, ¬ (g = 13 ∧ a ≤ n ∧ b = 7) → c2 g a b = uSrc c n kd wh t st g a b) → c2 13 n 7 = ((mkN (fun j => fBeat t (c 51 21 j)) n : Nat) : Int) → (∀ j : Nat, j < n → c2 13 j 7 = ((mkN (fun q => fBeat (c 51 21 j) (if q = n then t else c 51 21 q)) (n + 1) : Nat) : Int)) → Q (some (.int (iI (n : Int)))) (cu c2 8 0 2 ((n : Int) + 1)) L) : En z (d + 2) MX9_addSource Q 0 [some (.ref (xad z 8 0)), some (.int (iI kd)), some (.int (iI wh)), some (.int (iI t)), some (.int (iI st)), none, none] [] c L := by
  have hc := R0_scal hR
  refine r_aloadN 1 dX9_addSource_0 rfl rfl ?_
  refine r_getq 4 dX9_addSource_1 rfl fX9_38 (by decide) (sh_8 z _) rfl ?_
  refine r_aloadN 5 dX9_addSource_4 rfl rfl ?_
  refine r_geti 8 dX9_addSource_5 rfl fX9_18 (by decide) (sh_8 z _) rfl ?_
  rw [show c 8 0 2 = (n : Int) by omega]
  refine r_aald 9 dX9_addSource_8 (n) rfl rfl (by decide) (sh_10a z) rfl (by decide) (by omega) (by omega) ?_
  refine r_astore5 11 dX9_addSource_9 rfl rfl (by decide) ?_
  refine r_aload 13 dX9_addSource_11 rfl rfl ?_
  refine r_iloadN 14 dX9_addSource_13 rfl rfl ?_
  refine r_iloadN 15 dX9_addSource_14 rfl rfl ?_
  refine r_iloadN 16 dX9_addSource_15 rfl rfl ?_
  refine r_iload 18 dX9_addSource_16 rfl rfl ?_
  refine r_cv4 21 dX9_addSource_18 rfl gX9_108 rfl (ct_13 (by omega)) (sh_13 z _) rfl rfl (Nat.le_of_ble_eq_true rfl) (Nat.le_of_ble_eq_true rfl) rfl ?_
  refine x_sbegin (by omega) ?_
  refine r_iconst 22 dX9_addSource_21 rfl ?_
  refine r_istore6 24 dX9_addSource_22 rfl rfl (by decide) ?_
  exact x_addSource_loop hR hn hn14 ht k n 0 _ (by omega) (fun _ _ _ _ => rfl) (by unfold uSrc; rw [cu_ap, if_pos ⟨rfl, rfl, rfl⟩]; rfl) (fun j hj => absurd hj (Nat.not_lt_zero _)) (fun j _ h2 => uSrc_ne (by omega))
theorem x_source {z : xZ} {d : Nat} {Q : tQ} {c : tC} {L : tL} {n : Nat} {kd wh t st : Int} (hR : RX c) (hn : c 50 0 2 = (n : Int)) (hkd : inR kd) (hwh : inR wh) (ht : inR t) (hst : inR st) (kb : ∀ r w, w ≠ 0 → (r, w) = gSource (c 50 0) kd wh t st → Q (some (.int (iI r))) (xRe c w) L) (k : ∀ r c2, (∀ g a b, ¬ (g = 13 ∧ a ≤ n ∧ b = 7) → c2 g a b = uSrc c n kd wh t st g a b) → c2 13 n 7 = ((mkN (fun j => fBeat t (c 51 21 j)) n : Nat) : Int) → (∀ j : Nat, j < n → c2 13 j 7 = ((mkN (fun q => fBeat (c 51 21 j) (if q = n then t else c 51 21 q)) (n + 1) : Nat) : Int)) → (r, 0) = gSource (c 50 0) kd wh t st → Q (some (.int (iI r))) (cu c2 8 0 2 ((n : Int) + 1)) L) : En z (d + 20) MX10_source Q 0 [some (.ref (xad z 0 0)), some (.int (iI kd)), some (.int (iI wh)), some (.int (iI t)), some (.int (iI st))] [] c L := by
  have kd1 := hkd.1
  have kd2 := hkd.2
  have wh1 := hwh.1
  have wh2 := hwh.2
  have t1 := ht.1
  have t2 := ht.2
  have st1 := hst.1
  have st2 := hst.2
  have hg := R0_rng hR
  have hc := R0_scal hR
  refine r_iloadN 1 dX10_source_0 rfl rfl ?_
  refine r_iconst 2 dX10_source_1 rfl ?_
  refine r_bipush 4 dX10_source_2 rfl (by decide) ?_
  refine r_cs3 7 dX10_source_4 rfl gX10_137 (Nat.le_of_ble_eq_true rfl) (Nat.le_of_ble_eq_true rfl) rfl ?_
  refine x_isWithin (by assumption) (by omega) (by omega) (fun y4 => ?_) (fun y4 => ?_)
  · refine r_ifneT 16 0 dX10_source_7 (by decide) (by decide) (by decide) ?_
    refine r_iloadN 17 dX10_source_16 rfl rfl ?_
    refine r_iconst 18 dX10_source_17 rfl ?_
    refine r_icne 35 21 dX10_source_18 rfl (by decide) (by omega) (by omega) (fun h18 => ?_) (fun h18 => ?_)
    · refine r_iloadN 36 dX10_source_35 rfl rfl ?_
      refine r_cs1 39 dX10_source_36 rfl gX10_131 (Nat.le_of_ble_eq_true rfl) (Nat.le_of_ble_eq_true rfl) rfl ?_
      refine x_isSpot (by assumption) (fun y36 => ?_) (fun y36 => ?_)
      · refine r_ifneT 48 0 dX10_source_39 (by decide) (by decide) (by decide) ?_
        refine r_iloadN 49 dX10_source_48 rfl rfl ?_
        refine r_cs1 52 dX10_source_49 rfl gX10_134 (Nat.le_of_ble_eq_true rfl) (Nat.le_of_ble_eq_true rfl) rfl ?_
        refine x_isTone (by assumption) (fun y49 => ?_) (fun y49 => ?_)
        · refine r_ifeqF 55 dX10_source_52 rfl 66 (by decide) (by decide) (by decide) ?_
          refine r_iload 57 dX10_source_55 rfl rfl ?_
          refine r_iconst 58 dX10_source_57 rfl ?_
          refine r_bipush 60 dX10_source_58 rfl (by decide) ?_
          refine r_cs3 63 dX10_source_60 rfl gX10_137 (Nat.le_of_ble_eq_true rfl) (Nat.le_of_ble_eq_true rfl) rfl ?_
          refine x_isWithin (by assumption) (by omega) (by omega) (fun y60 => ?_) (fun y60 => ?_)
          · refine r_ifneT 73 0 dX10_source_63 (by decide) (by decide) (by decide) ?_
            refine r_aloadN 74 dX10_source_73 rfl rfl ?_
            refine r_getq 77 dX10_source_74 rfl fX10_26 (by decide) (sh_0 z _) rfl ?_
            refine r_geti 80 dX10_source_77 rfl fX10_161 (by decide) (sh_8 z _) rfl ?_
            refine r_bipush 82 dX10_source_80 rfl (by decide) ?_
            refine r_iclt 92 85 dX10_source_82 rfl (by decide) (by omega) (by omega) (fun h82 => ?_) (fun h82 => ?_)
            · refine r_aloadN 93 dX10_source_92 rfl rfl ?_
              refine r_getq 96 dX10_source_93 rfl fX10_26 (by decide) (sh_0 z _) rfl ?_
              refine r_iloadN 97 dX10_source_96 rfl rfl ?_
              refine r_iloadN 98 dX10_source_97 rfl rfl ?_
              refine r_iloadN 99 dX10_source_98 rfl rfl ?_
              refine r_iload 101 dX10_source_99 rfl rfl ?_
              refine r_cv4 104 dX10_source_101 rfl gX10_164 rfl (by decide) (sh_8 z _) rfl rfl (Nat.le_of_ble_eq_true rfl) (Nat.le_of_ble_eq_true rfl) rfl ?_
              refine x_addSource hR hn (by omega) (by omega) (fun c2 g1 g2 g3 => ?_)
              refine r_ret dX10_source_104 rfl (k _ c2 g1 g2 g3 ?_)
              unfold gSource
              rw [if_neg (by omega), if_neg (by omega), if_neg (by omega)]
              rw [hn]
            · refine r_aloadN 86 dX10_source_85 rfl rfl ?_
              refine r_bipush 88 dX10_source_86 rfl (by decide) ?_
              refine r_cv1 91 dX10_source_88 rfl gX10_60 rfl (by decide) (sh_0 z _) rfl rfl (Nat.le_of_ble_eq_true rfl) (Nat.le_of_ble_eq_true rfl) rfl ?_
              refine x_refuse (k0 := 7) (by decide) (by decide) ?_
              refine r_ret dX10_source_91 rfl (kb _ 7 (by decide) ?_)
              unfold gSource
              rw [if_neg (by omega), if_neg (by omega), if_pos (by omega)]
          · refine r_ifneF 66 dX10_source_63 rfl 73 (by decide) (by decide) (by decide) ?_
            refine r_aloadN 67 dX10_source_66 rfl rfl ?_
            refine r_bipush 69 dX10_source_67 rfl (by decide) ?_
            refine r_cv1 72 dX10_source_69 rfl gX10_60 rfl (by decide) (sh_0 z _) rfl rfl (Nat.le_of_ble_eq_true rfl) (Nat.le_of_ble_eq_true rfl) rfl ?_
            refine x_refuse (k0 := 6) (by decide) (by decide) ?_
            refine r_ret dX10_source_72 rfl (kb _ 6 (by decide) ?_)
            unfold gSource
            rw [if_neg (by omega), if_pos (by omega)]
        · refine r_ifeqT 66 0 dX10_source_52 (by decide) (by decide) (by decide) ?_
          refine r_aloadN 67 dX10_source_66 rfl rfl ?_
          refine r_bipush 69 dX10_source_67 rfl (by decide) ?_
          refine r_cv1 72 dX10_source_69 rfl gX10_60 rfl (by decide) (sh_0 z _) rfl rfl (Nat.le_of_ble_eq_true rfl) (Nat.le_of_ble_eq_true rfl) rfl ?_
          refine x_refuse (k0 := 6) (by decide) (by decide) ?_
          refine r_ret dX10_source_72 rfl (kb _ 6 (by decide) ?_)
          unfold gSource
          rw [if_neg (by omega), if_pos (by omega)]
      · refine r_ifneF 42 dX10_source_39 rfl 48 (by decide) (by decide) (by decide) ?_
        refine r_aloadN 43 dX10_source_42 rfl rfl ?_
        refine r_iconst 44 dX10_source_43 rfl ?_
        refine r_cv1 47 dX10_source_44 rfl gX10_60 rfl (by decide) (sh_0 z _) rfl rfl (Nat.le_of_ble_eq_true rfl) (Nat.le_of_ble_eq_true rfl) rfl ?_
        refine x_refuse (k0 := 1) (by decide) (by decide) ?_
        refine r_ret dX10_source_47 rfl (kb _ 1 (by decide) ?_)
        unfold gSource
        rw [if_pos (by omega)]
    · refine r_aloadN 22 dX10_source_21 rfl rfl ?_
      refine r_getq 25 dX10_source_22 rfl fX10_26 (by decide) (sh_0 z _) rfl ?_
      refine r_iloadN 26 dX10_source_25 rfl rfl ?_
      refine r_cv1 29 dX10_source_26 rfl gX10_149 rfl (by decide) (sh_8 z _) rfl rfl (Nat.le_of_ble_eq_true rfl) (Nat.le_of_ble_eq_true rfl) rfl ?_
      refine x_isPerson hR (by assumption) (fun y26 => ?_) (fun y26 => ?_)
      · refine r_ifneT 48 0 dX10_source_29 (by decide) (by decide) (by decide) ?_
        refine r_iloadN 49 dX10_source_48 rfl rfl ?_
        refine r_cs1 52 dX10_source_49 rfl gX10_134 (Nat.le_of_ble_eq_true rfl) (Nat.le_of_ble_eq_true rfl) rfl ?_
        refine x_isTone (by assumption) (fun y49 => ?_) (fun y49 => ?_)
        · refine r_ifeqF 55 dX10_source_52 rfl 66 (by decide) (by decide) (by decide) ?_
          refine r_iload 57 dX10_source_55 rfl rfl ?_
          refine r_iconst 58 dX10_source_57 rfl ?_
          refine r_bipush 60 dX10_source_58 rfl (by decide) ?_
          refine r_cs3 63 dX10_source_60 rfl gX10_137 (Nat.le_of_ble_eq_true rfl) (Nat.le_of_ble_eq_true rfl) rfl ?_
          refine x_isWithin (by assumption) (by omega) (by omega) (fun y60 => ?_) (fun y60 => ?_)
          · refine r_ifneT 73 0 dX10_source_63 (by decide) (by decide) (by decide) ?_
            refine r_aloadN 74 dX10_source_73 rfl rfl ?_
            refine r_getq 77 dX10_source_74 rfl fX10_26 (by decide) (sh_0 z _) rfl ?_
            refine r_geti 80 dX10_source_77 rfl fX10_161 (by decide) (sh_8 z _) rfl ?_
            refine r_bipush 82 dX10_source_80 rfl (by decide) ?_
            refine r_iclt 92 85 dX10_source_82 rfl (by decide) (by omega) (by omega) (fun h82 => ?_) (fun h82 => ?_)
            · refine r_aloadN 93 dX10_source_92 rfl rfl ?_
              refine r_getq 96 dX10_source_93 rfl fX10_26 (by decide) (sh_0 z _) rfl ?_
              refine r_iloadN 97 dX10_source_96 rfl rfl ?_
              refine r_iloadN 98 dX10_source_97 rfl rfl ?_
              refine r_iloadN 99 dX10_source_98 rfl rfl ?_
              refine r_iload 101 dX10_source_99 rfl rfl ?_
              refine r_cv4 104 dX10_source_101 rfl gX10_164 rfl (by decide) (sh_8 z _) rfl rfl (Nat.le_of_ble_eq_true rfl) (Nat.le_of_ble_eq_true rfl) rfl ?_
              refine x_addSource hR hn (by omega) (by omega) (fun c2 g1 g2 g3 => ?_)
              refine r_ret dX10_source_104 rfl (k _ c2 g1 g2 g3 ?_)
              unfold gSource
              rw [if_neg (by omega), if_neg (by omega), if_neg (by omega)]
              rw [hn]
            · refine r_aloadN 86 dX10_source_85 rfl rfl ?_
              refine r_bipush 88 dX10_source_86 rfl (by decide) ?_
              refine r_cv1 91 dX10_source_88 rfl gX10_60 rfl (by decide) (sh_0 z _) rfl rfl (Nat.le_of_ble_eq_true rfl) (Nat.le_of_ble_eq_true rfl) rfl ?_
              refine x_refuse (k0 := 7) (by decide) (by decide) ?_
              refine r_ret dX10_source_91 rfl (kb _ 7 (by decide) ?_)
              unfold gSource
              rw [if_neg (by omega), if_neg (by omega), if_pos (by omega)]
          · refine r_ifneF 66 dX10_source_63 rfl 73 (by decide) (by decide) (by decide) ?_
            refine r_aloadN 67 dX10_source_66 rfl rfl ?_
            refine r_bipush 69 dX10_source_67 rfl (by decide) ?_
            refine r_cv1 72 dX10_source_69 rfl gX10_60 rfl (by decide) (sh_0 z _) rfl rfl (Nat.le_of_ble_eq_true rfl) (Nat.le_of_ble_eq_true rfl) rfl ?_
            refine x_refuse (k0 := 6) (by decide) (by decide) ?_
            refine r_ret dX10_source_72 rfl (kb _ 6 (by decide) ?_)
            unfold gSource
            rw [if_neg (by omega), if_pos (by omega)]
        · refine r_ifeqT 66 0 dX10_source_52 (by decide) (by decide) (by decide) ?_
          refine r_aloadN 67 dX10_source_66 rfl rfl ?_
          refine r_bipush 69 dX10_source_67 rfl (by decide) ?_
          refine r_cv1 72 dX10_source_69 rfl gX10_60 rfl (by decide) (sh_0 z _) rfl rfl (Nat.le_of_ble_eq_true rfl) (Nat.le_of_ble_eq_true rfl) rfl ?_
          refine x_refuse (k0 := 6) (by decide) (by decide) ?_
          refine r_ret dX10_source_72 rfl (kb _ 6 (by decide) ?_)
          unfold gSource
          rw [if_neg (by omega), if_pos (by omega)]
      · refine r_ifneF 32 dX10_source_29 rfl 48 (by decide) (by decide) (by decide) ?_
        refine r_goto 42 dX10_source_32 (by decide) ?_
        refine r_aloadN 43 dX10_source_42 rfl rfl ?_
        refine r_iconst 44 dX10_source_43 rfl ?_
        refine r_cv1 47 dX10_source_44 rfl gX10_60 rfl (by decide) (sh_0 z _) rfl rfl (Nat.le_of_ble_eq_true rfl) (Nat.le_of_ble_eq_true rfl) rfl ?_
        refine x_refuse (k0 := 1) (by decide) (by decide) ?_
        refine r_ret dX10_source_47 rfl (kb _ 1 (by decide) ?_)
        unfold gSource
        rw [if_pos (by omega)]
  · refine r_ifneF 10 dX10_source_7 rfl 16 (by decide) (by decide) (by decide) ?_
    refine r_aloadN 11 dX10_source_10 rfl rfl ?_
    refine r_iconst 12 dX10_source_11 rfl ?_
    refine r_cv1 15 dX10_source_12 rfl gX10_60 rfl (by decide) (sh_0 z _) rfl rfl (Nat.le_of_ble_eq_true rfl) (Nat.le_of_ble_eq_true rfl) rfl ?_
    refine x_refuse (k0 := 1) (by decide) (by decide) ?_
    refine r_ret dX10_source_15 rfl (kb _ 1 (by decide) ?_)
    unfold gSource
    rw [if_pos (by omega)]
theorem m_source {z : xZ} {d : Nat} {Q : tQ} {c : tC} {L : tL} {kd wh t st : Int} {n : Nat} (hg : MG c) (hkd : inR kd) (hwh : inR wh) (ht : inR t) (hst : inR st) (hcn : c 50 0 2 = (n : Int)) (kb : ∀ r w, w ≠ 0 → (r, w) = gSource (c 50 0) kd wh t st → Q (some (.int (iI r))) (mRe c w) L) (k : ∀ r, (r, 0) = gSource (c 50 0) kd wh t st → Q (some (.int (iI r))) (cu (cu (cu (cu (cu (cu (cu (cu (cu c 51 19 n kd) 51 20 n wh) 51 21 n t) 51 22 n st) 51 23 n 0) 51 24 n 23) 51 25 n 0) 51 26 n 0) 50 0 2 ((n : Int) + 1)) L) : En z (d + 20) MX11_source Q 0 [some (.ref (xad z 50 0)), some (.int (iI kd)), some (.int (iI wh)), some (.int (iI t)), some (.int (iI st))] [] c L := by
  have kd1 := hkd.1
  have kd2 := hkd.2
  have wh1 := hwh.1
  have wh2 := hwh.2
  have t1 := ht.1
  have t2 := ht.2
  have st1 := hst.1
  have st2 := hst.2
  unfold MG RT_rng at hg
  refine r_iloadN 1 dX11_source_0 rfl rfl ?_
  refine r_iconst 2 dX11_source_1 rfl ?_
  refine r_iclt 35 5 dX11_source_2 rfl (by decide) (by omega) (by omega) (fun h2 => ?_) (fun h2 => ?_)
  · refine r_aloadN 36 dX11_source_35 rfl rfl ?_
    refine r_iconst 37 dX11_source_36 rfl ?_
    refine r_cv1 40 dX11_source_37 rfl gX11_184 rfl (by decide) (sh_50 z _) rfl rfl (Nat.le_of_ble_eq_true rfl) (Nat.le_of_ble_eq_true rfl) rfl ?_
    refine m_no (k0 := 1) (by decide) (by decide) ?_
    refine r_ret dX11_source_40 rfl (kb _ 1 (by decide) ?_)
    unfold gSource
    rw [if_pos (by omega)]
  · refine r_iloadN 6 dX11_source_5 rfl rfl ?_
    refine r_bipush 8 dX11_source_6 rfl (by decide) ?_
    refine r_icgt 35 11 dX11_source_8 rfl (by decide) (by omega) (by omega) (fun h8 => ?_) (fun h8 => ?_)
    · refine r_aloadN 36 dX11_source_35 rfl rfl ?_
      refine r_iconst 37 dX11_source_36 rfl ?_
      refine r_cv1 40 dX11_source_37 rfl gX11_184 rfl (by decide) (sh_50 z _) rfl rfl (Nat.le_of_ble_eq_true rfl) (Nat.le_of_ble_eq_true rfl) rfl ?_
      refine m_no (k0 := 1) (by decide) (by decide) ?_
      refine r_ret dX11_source_40 rfl (kb _ 1 (by decide) ?_)
      unfold gSource
      rw [if_pos (by omega)]
    · refine r_iloadN 12 dX11_source_11 rfl rfl ?_
      refine r_iconst 13 dX11_source_12 rfl ?_
      refine r_icne 27 16 dX11_source_13 rfl (by decide) (by omega) (by omega) (fun h13 => ?_) (fun h13 => ?_)
      · refine r_aloadN 28 dX11_source_27 rfl rfl ?_
        refine r_iloadN 29 dX11_source_28 rfl rfl ?_
        refine r_cv1 32 dX11_source_29 rfl gX11_191 rfl (by decide) (sh_50 z _) rfl rfl (Nat.le_of_ble_eq_true rfl) (Nat.le_of_ble_eq_true rfl) rfl ?_
        refine m_isSpot (by assumption) (fun y29 => ?_) (fun y29 => ?_)
        · refine r_ifneT 41 0 dX11_source_32 (by decide) (by decide) (by decide) ?_
          refine r_aloadN 42 dX11_source_41 rfl rfl ?_
          refine r_iloadN 43 dX11_source_42 rfl rfl ?_
          refine r_cv1 46 dX11_source_43 rfl gX11_194 rfl (by decide) (sh_50 z _) rfl rfl (Nat.le_of_ble_eq_true rfl) (Nat.le_of_ble_eq_true rfl) rfl ?_
          refine m_isTone (by assumption) (fun y43 => ?_) (fun y43 => ?_)
          · refine r_ifeqF 49 dX11_source_46 rfl 62 (by decide) (by decide) (by decide) ?_
            refine r_iload 51 dX11_source_49 rfl rfl ?_
            refine r_iconst 52 dX11_source_51 rfl ?_
            refine r_iclt 62 55 dX11_source_52 rfl (by decide) (by omega) (by omega) (fun h52 => ?_) (fun h52 => ?_)
            · refine r_aloadN 63 dX11_source_62 rfl rfl ?_
              refine r_bipush 65 dX11_source_63 rfl (by decide) ?_
              refine r_cv1 68 dX11_source_65 rfl gX11_184 rfl (by decide) (sh_50 z _) rfl rfl (Nat.le_of_ble_eq_true rfl) (Nat.le_of_ble_eq_true rfl) rfl ?_
              refine m_no (k0 := 6) (by decide) (by decide) ?_
              refine r_ret dX11_source_68 rfl (kb _ 6 (by decide) ?_)
              unfold gSource
              rw [if_neg (by omega), if_pos (by omega)]
            · refine r_iload 57 dX11_source_55 rfl rfl ?_
              refine r_bipush 59 dX11_source_57 rfl (by decide) ?_
              refine r_icle 69 62 dX11_source_59 rfl (by decide) (by omega) (by omega) (fun h59 => ?_) (fun h59 => ?_)
              · refine r_aloadN 70 dX11_source_69 rfl rfl ?_
                refine r_geti 73 dX11_source_70 rfl fX11_174 (by decide) (sh_50 z _) rfl ?_
                rw [hcn]
                refine r_bipush 75 dX11_source_73 rfl (by decide) ?_
                refine r_icne 85 78 dX11_source_75 rfl (by decide) (by omega) (by omega) (fun h75 => ?_) (fun h75 => ?_)
                · refine r_aloadN 86 dX11_source_85 rfl rfl ?_
                  refine r_getq 89 dX11_source_86 rfl fX11_44 (by decide) (sh_50 z _) rfl ?_
                  refine r_aloadN 90 dX11_source_89 rfl rfl ?_
                  refine r_geti 93 dX11_source_90 rfl fX11_174 (by decide) (sh_50 z _) rfl ?_
                  (try simp only [cu_ap, Nat.reduceEqDiff, false_and, and_false, if_false, reduceIte])
                  rw [hcn]
                  refine r_iloadN 94 dX11_source_93 rfl rfl ?_
                  refine r_iast (n := 14) 95 dX11_source_94 (n) rfl rfl (by decide) (sh_51 z _) (by decide) (by omega) (by omega) ?_
                  refine r_aloadN 96 dX11_source_95 rfl rfl ?_
                  refine r_getq 99 dX11_source_96 rfl fX11_47 (by decide) (sh_50 z _) rfl ?_
                  refine r_aloadN 100 dX11_source_99 rfl rfl ?_
                  refine r_geti 103 dX11_source_100 rfl fX11_174 (by decide) (sh_50 z _) rfl ?_
                  (try simp only [cu_ap, Nat.reduceEqDiff, false_and, and_false, if_false, reduceIte])
                  rw [hcn]
                  refine r_iloadN 104 dX11_source_103 rfl rfl ?_
                  refine r_iast (n := 14) 105 dX11_source_104 (n) rfl rfl (by decide) (sh_51 z _) (by decide) (by omega) (by omega) ?_
                  refine r_aloadN 106 dX11_source_105 rfl rfl ?_
                  refine r_getq 109 dX11_source_106 rfl fX11_50 (by decide) (sh_50 z _) rfl ?_
                  refine r_aloadN 110 dX11_source_109 rfl rfl ?_
                  refine r_geti 113 dX11_source_110 rfl fX11_174 (by decide) (sh_50 z _) rfl ?_
                  (try simp only [cu_ap, Nat.reduceEqDiff, false_and, and_false, if_false, reduceIte])
                  rw [hcn]
                  refine r_iloadN 114 dX11_source_113 rfl rfl ?_
                  refine r_iast (n := 14) 115 dX11_source_114 (n) rfl rfl (by decide) (sh_51 z _) (by decide) (by omega) (by omega) ?_
                  refine r_aloadN 116 dX11_source_115 rfl rfl ?_
                  refine r_getq 119 dX11_source_116 rfl fX11_53 (by decide) (sh_50 z _) rfl ?_
                  refine r_aloadN 120 dX11_source_119 rfl rfl ?_
                  refine r_geti 123 dX11_source_120 rfl fX11_174 (by decide) (sh_50 z _) rfl ?_
                  (try simp only [cu_ap, Nat.reduceEqDiff, false_and, and_false, if_false, reduceIte])
                  rw [hcn]
                  refine r_iload 125 dX11_source_123 rfl rfl ?_
                  refine r_iast (n := 14) 126 dX11_source_125 (n) rfl rfl (by decide) (sh_51 z _) (by decide) (by omega) (by omega) ?_
                  refine r_aloadN 127 dX11_source_126 rfl rfl ?_
                  refine r_getq 130 dX11_source_127 rfl fX11_56 (by decide) (sh_50 z _) rfl ?_
                  refine r_aloadN 131 dX11_source_130 rfl rfl ?_
                  refine r_geti 134 dX11_source_131 rfl fX11_174 (by decide) (sh_50 z _) rfl ?_
                  (try simp only [cu_ap, Nat.reduceEqDiff, false_and, and_false, if_false, reduceIte])
                  rw [hcn]
                  refine r_iconst 135 dX11_source_134 rfl ?_
                  refine r_iast (n := 14) 136 dX11_source_135 (n) rfl rfl (by decide) (sh_51 z _) (by decide) (by omega) (by omega) ?_
                  refine r_aloadN 137 dX11_source_136 rfl rfl ?_
                  refine r_getq 140 dX11_source_137 rfl fX11_59 (by decide) (sh_50 z _) rfl ?_
                  refine r_aloadN 141 dX11_source_140 rfl rfl ?_
                  refine r_geti 144 dX11_source_141 rfl fX11_174 (by decide) (sh_50 z _) rfl ?_
                  (try simp only [cu_ap, Nat.reduceEqDiff, false_and, and_false, if_false, reduceIte])
                  rw [hcn]
                  refine r_bipush 146 dX11_source_144 rfl (by decide) ?_
                  refine r_iast (n := 14) 147 dX11_source_146 (n) rfl rfl (by decide) (sh_51 z _) (by decide) (by omega) (by omega) ?_
                  refine r_aloadN 148 dX11_source_147 rfl rfl ?_
                  refine r_getq 151 dX11_source_148 rfl fX11_62 (by decide) (sh_50 z _) rfl ?_
                  refine r_aloadN 152 dX11_source_151 rfl rfl ?_
                  refine r_geti 155 dX11_source_152 rfl fX11_174 (by decide) (sh_50 z _) rfl ?_
                  (try simp only [cu_ap, Nat.reduceEqDiff, false_and, and_false, if_false, reduceIte])
                  rw [hcn]
                  refine r_iconst 156 dX11_source_155 rfl ?_
                  refine r_iast (n := 14) 157 dX11_source_156 (n) rfl rfl (by decide) (sh_51 z _) (by decide) (by omega) (by omega) ?_
                  refine r_aloadN 158 dX11_source_157 rfl rfl ?_
                  refine r_getq 161 dX11_source_158 rfl fX11_65 (by decide) (sh_50 z _) rfl ?_
                  refine r_aloadN 162 dX11_source_161 rfl rfl ?_
                  refine r_geti 165 dX11_source_162 rfl fX11_174 (by decide) (sh_50 z _) rfl ?_
                  (try simp only [cu_ap, Nat.reduceEqDiff, false_and, and_false, if_false, reduceIte])
                  rw [hcn]
                  refine r_iconst 166 dX11_source_165 rfl ?_
                  refine r_iast (n := 14) 167 dX11_source_166 (n) rfl rfl (by decide) (sh_51 z _) (by decide) (by omega) (by omega) ?_
                  refine r_aloadN 168 dX11_source_167 rfl rfl ?_
                  refine r_dupr 169 dX11_source_168 rfl ?_
                  refine r_geti 172 dX11_source_169 rfl fX11_174 (by decide) (sh_50 z _) rfl ?_
                  (try simp only [cu_ap, Nat.reduceEqDiff, false_and, and_false, if_false, reduceIte])
                  rw [hcn]
                  refine r_dupx1 173 dX11_source_172 rfl ?_
                  refine r_iconst 174 dX11_source_173 rfl ?_
                  refine r_iadd 175 dX11_source_174 rfl ?_
                  refine r_puti 178 dX11_source_175 rfl pX11_174 (by decide) (sh_50 z _) rfl ?_
                  refine r_ret dX11_source_178 rfl (k _ ?_)
                  unfold gSource
                  rw [if_neg (by omega), if_neg (by omega), if_neg (by omega)]
                  rw [hcn]
                · refine r_aloadN 79 dX11_source_78 rfl rfl ?_
                  refine r_bipush 81 dX11_source_79 rfl (by decide) ?_
                  refine r_cv1 84 dX11_source_81 rfl gX11_184 rfl (by decide) (sh_50 z _) rfl rfl (Nat.le_of_ble_eq_true rfl) (Nat.le_of_ble_eq_true rfl) rfl ?_
                  refine m_no (k0 := 7) (by decide) (by decide) ?_
                  refine r_ret dX11_source_84 rfl (kb _ 7 (by decide) ?_)
                  unfold gSource
                  rw [if_neg (by omega), if_neg (by omega), if_pos (by omega)]
              · refine r_aloadN 63 dX11_source_62 rfl rfl ?_
                refine r_bipush 65 dX11_source_63 rfl (by decide) ?_
                refine r_cv1 68 dX11_source_65 rfl gX11_184 rfl (by decide) (sh_50 z _) rfl rfl (Nat.le_of_ble_eq_true rfl) (Nat.le_of_ble_eq_true rfl) rfl ?_
                refine m_no (k0 := 6) (by decide) (by decide) ?_
                refine r_ret dX11_source_68 rfl (kb _ 6 (by decide) ?_)
                unfold gSource
                rw [if_neg (by omega), if_pos (by omega)]
          · refine r_ifeqT 62 0 dX11_source_46 (by decide) (by decide) (by decide) ?_
            refine r_aloadN 63 dX11_source_62 rfl rfl ?_
            refine r_bipush 65 dX11_source_63 rfl (by decide) ?_
            refine r_cv1 68 dX11_source_65 rfl gX11_184 rfl (by decide) (sh_50 z _) rfl rfl (Nat.le_of_ble_eq_true rfl) (Nat.le_of_ble_eq_true rfl) rfl ?_
            refine m_no (k0 := 6) (by decide) (by decide) ?_
            refine r_ret dX11_source_68 rfl (kb _ 6 (by decide) ?_)
            unfold gSource
            rw [if_neg (by omega), if_pos (by omega)]
        · refine r_ifneF 35 dX11_source_32 rfl 41 (by decide) (by decide) (by decide) ?_
          refine r_aloadN 36 dX11_source_35 rfl rfl ?_
          refine r_iconst 37 dX11_source_36 rfl ?_
          refine r_cv1 40 dX11_source_37 rfl gX11_184 rfl (by decide) (sh_50 z _) rfl rfl (Nat.le_of_ble_eq_true rfl) (Nat.le_of_ble_eq_true rfl) rfl ?_
          refine m_no (k0 := 1) (by decide) (by decide) ?_
          refine r_ret dX11_source_40 rfl (kb _ 1 (by decide) ?_)
          unfold gSource
          rw [if_pos (by omega)]
      · refine r_aloadN 17 dX11_source_16 rfl rfl ?_
        refine r_iloadN 18 dX11_source_17 rfl rfl ?_
        refine r_cv1 21 dX11_source_18 rfl gX11_197 rfl (by decide) (sh_50 z _) rfl rfl (Nat.le_of_ble_eq_true rfl) (Nat.le_of_ble_eq_true rfl) rfl ?_
        refine m_isPer hg (by assumption) (fun y18 => ?_) (fun y18 => ?_)
        · refine r_ifneT 41 0 dX11_source_21 (by decide) (by decide) (by decide) ?_
          refine r_aloadN 42 dX11_source_41 rfl rfl ?_
          refine r_iloadN 43 dX11_source_42 rfl rfl ?_
          refine r_cv1 46 dX11_source_43 rfl gX11_194 rfl (by decide) (sh_50 z _) rfl rfl (Nat.le_of_ble_eq_true rfl) (Nat.le_of_ble_eq_true rfl) rfl ?_
          refine m_isTone (by assumption) (fun y43 => ?_) (fun y43 => ?_)
          · refine r_ifeqF 49 dX11_source_46 rfl 62 (by decide) (by decide) (by decide) ?_
            refine r_iload 51 dX11_source_49 rfl rfl ?_
            refine r_iconst 52 dX11_source_51 rfl ?_
            refine r_iclt 62 55 dX11_source_52 rfl (by decide) (by omega) (by omega) (fun h52 => ?_) (fun h52 => ?_)
            · refine r_aloadN 63 dX11_source_62 rfl rfl ?_
              refine r_bipush 65 dX11_source_63 rfl (by decide) ?_
              refine r_cv1 68 dX11_source_65 rfl gX11_184 rfl (by decide) (sh_50 z _) rfl rfl (Nat.le_of_ble_eq_true rfl) (Nat.le_of_ble_eq_true rfl) rfl ?_
              refine m_no (k0 := 6) (by decide) (by decide) ?_
              refine r_ret dX11_source_68 rfl (kb _ 6 (by decide) ?_)
              unfold gSource
              rw [if_neg (by omega), if_pos (by omega)]
            · refine r_iload 57 dX11_source_55 rfl rfl ?_
              refine r_bipush 59 dX11_source_57 rfl (by decide) ?_
              refine r_icle 69 62 dX11_source_59 rfl (by decide) (by omega) (by omega) (fun h59 => ?_) (fun h59 => ?_)
              · refine r_aloadN 70 dX11_source_69 rfl rfl ?_
                refine r_geti 73 dX11_source_70 rfl fX11_174 (by decide) (sh_50 z _) rfl ?_
                rw [hcn]
                refine r_bipush 75 dX11_source_73 rfl (by decide) ?_
                refine r_icne 85 78 dX11_source_75 rfl (by decide) (by omega) (by omega) (fun h75 => ?_) (fun h75 => ?_)
                · refine r_aloadN 86 dX11_source_85 rfl rfl ?_
                  refine r_getq 89 dX11_source_86 rfl fX11_44 (by decide) (sh_50 z _) rfl ?_
                  refine r_aloadN 90 dX11_source_89 rfl rfl ?_
                  refine r_geti 93 dX11_source_90 rfl fX11_174 (by decide) (sh_50 z _) rfl ?_
                  (try simp only [cu_ap, Nat.reduceEqDiff, false_and, and_false, if_false, reduceIte])
                  rw [hcn]
                  refine r_iloadN 94 dX11_source_93 rfl rfl ?_
                  refine r_iast (n := 14) 95 dX11_source_94 (n) rfl rfl (by decide) (sh_51 z _) (by decide) (by omega) (by omega) ?_
                  refine r_aloadN 96 dX11_source_95 rfl rfl ?_
                  refine r_getq 99 dX11_source_96 rfl fX11_47 (by decide) (sh_50 z _) rfl ?_
                  refine r_aloadN 100 dX11_source_99 rfl rfl ?_
                  refine r_geti 103 dX11_source_100 rfl fX11_174 (by decide) (sh_50 z _) rfl ?_
                  (try simp only [cu_ap, Nat.reduceEqDiff, false_and, and_false, if_false, reduceIte])
                  rw [hcn]
                  refine r_iloadN 104 dX11_source_103 rfl rfl ?_
                  refine r_iast (n := 14) 105 dX11_source_104 (n) rfl rfl (by decide) (sh_51 z _) (by decide) (by omega) (by omega) ?_
                  refine r_aloadN 106 dX11_source_105 rfl rfl ?_
                  refine r_getq 109 dX11_source_106 rfl fX11_50 (by decide) (sh_50 z _) rfl ?_
                  refine r_aloadN 110 dX11_source_109 rfl rfl ?_
                  refine r_geti 113 dX11_source_110 rfl fX11_174 (by decide) (sh_50 z _) rfl ?_
                  (try simp only [cu_ap, Nat.reduceEqDiff, false_and, and_false, if_false, reduceIte])
                  rw [hcn]
                  refine r_iloadN 114 dX11_source_113 rfl rfl ?_
                  refine r_iast (n := 14) 115 dX11_source_114 (n) rfl rfl (by decide) (sh_51 z _) (by decide) (by omega) (by omega) ?_
                  refine r_aloadN 116 dX11_source_115 rfl rfl ?_
                  refine r_getq 119 dX11_source_116 rfl fX11_53 (by decide) (sh_50 z _) rfl ?_
                  refine r_aloadN 120 dX11_source_119 rfl rfl ?_
                  refine r_geti 123 dX11_source_120 rfl fX11_174 (by decide) (sh_50 z _) rfl ?_
                  (try simp only [cu_ap, Nat.reduceEqDiff, false_and, and_false, if_false, reduceIte])
                  rw [hcn]
                  refine r_iload 125 dX11_source_123 rfl rfl ?_
                  refine r_iast (n := 14) 126 dX11_source_125 (n) rfl rfl (by decide) (sh_51 z _) (by decide) (by omega) (by omega) ?_
                  refine r_aloadN 127 dX11_source_126 rfl rfl ?_
                  refine r_getq 130 dX11_source_127 rfl fX11_56 (by decide) (sh_50 z _) rfl ?_
                  refine r_aloadN 131 dX11_source_130 rfl rfl ?_
                  refine r_geti 134 dX11_source_131 rfl fX11_174 (by decide) (sh_50 z _) rfl ?_
                  (try simp only [cu_ap, Nat.reduceEqDiff, false_and, and_false, if_false, reduceIte])
                  rw [hcn]
                  refine r_iconst 135 dX11_source_134 rfl ?_
                  refine r_iast (n := 14) 136 dX11_source_135 (n) rfl rfl (by decide) (sh_51 z _) (by decide) (by omega) (by omega) ?_
                  refine r_aloadN 137 dX11_source_136 rfl rfl ?_
                  refine r_getq 140 dX11_source_137 rfl fX11_59 (by decide) (sh_50 z _) rfl ?_
                  refine r_aloadN 141 dX11_source_140 rfl rfl ?_
                  refine r_geti 144 dX11_source_141 rfl fX11_174 (by decide) (sh_50 z _) rfl ?_
                  (try simp only [cu_ap, Nat.reduceEqDiff, false_and, and_false, if_false, reduceIte])
                  rw [hcn]
                  refine r_bipush 146 dX11_source_144 rfl (by decide) ?_
                  refine r_iast (n := 14) 147 dX11_source_146 (n) rfl rfl (by decide) (sh_51 z _) (by decide) (by omega) (by omega) ?_
                  refine r_aloadN 148 dX11_source_147 rfl rfl ?_
                  refine r_getq 151 dX11_source_148 rfl fX11_62 (by decide) (sh_50 z _) rfl ?_
                  refine r_aloadN 152 dX11_source_151 rfl rfl ?_
                  refine r_geti 155 dX11_source_152 rfl fX11_174 (by decide) (sh_50 z _) rfl ?_
                  (try simp only [cu_ap, Nat.reduceEqDiff, false_and, and_false, if_false, reduceIte])
                  rw [hcn]
                  refine r_iconst 156 dX11_source_155 rfl ?_
                  refine r_iast (n := 14) 157 dX11_source_156 (n) rfl rfl (by decide) (sh_51 z _) (by decide) (by omega) (by omega) ?_
                  refine r_aloadN 158 dX11_source_157 rfl rfl ?_
                  refine r_getq 161 dX11_source_158 rfl fX11_65 (by decide) (sh_50 z _) rfl ?_
                  refine r_aloadN 162 dX11_source_161 rfl rfl ?_
                  refine r_geti 165 dX11_source_162 rfl fX11_174 (by decide) (sh_50 z _) rfl ?_
                  (try simp only [cu_ap, Nat.reduceEqDiff, false_and, and_false, if_false, reduceIte])
                  rw [hcn]
                  refine r_iconst 166 dX11_source_165 rfl ?_
                  refine r_iast (n := 14) 167 dX11_source_166 (n) rfl rfl (by decide) (sh_51 z _) (by decide) (by omega) (by omega) ?_
                  refine r_aloadN 168 dX11_source_167 rfl rfl ?_
                  refine r_dupr 169 dX11_source_168 rfl ?_
                  refine r_geti 172 dX11_source_169 rfl fX11_174 (by decide) (sh_50 z _) rfl ?_
                  (try simp only [cu_ap, Nat.reduceEqDiff, false_and, and_false, if_false, reduceIte])
                  rw [hcn]
                  refine r_dupx1 173 dX11_source_172 rfl ?_
                  refine r_iconst 174 dX11_source_173 rfl ?_
                  refine r_iadd 175 dX11_source_174 rfl ?_
                  refine r_puti 178 dX11_source_175 rfl pX11_174 (by decide) (sh_50 z _) rfl ?_
                  refine r_ret dX11_source_178 rfl (k _ ?_)
                  unfold gSource
                  rw [if_neg (by omega), if_neg (by omega), if_neg (by omega)]
                  rw [hcn]
                · refine r_aloadN 79 dX11_source_78 rfl rfl ?_
                  refine r_bipush 81 dX11_source_79 rfl (by decide) ?_
                  refine r_cv1 84 dX11_source_81 rfl gX11_184 rfl (by decide) (sh_50 z _) rfl rfl (Nat.le_of_ble_eq_true rfl) (Nat.le_of_ble_eq_true rfl) rfl ?_
                  refine m_no (k0 := 7) (by decide) (by decide) ?_
                  refine r_ret dX11_source_84 rfl (kb _ 7 (by decide) ?_)
                  unfold gSource
                  rw [if_neg (by omega), if_neg (by omega), if_pos (by omega)]
              · refine r_aloadN 63 dX11_source_62 rfl rfl ?_
                refine r_bipush 65 dX11_source_63 rfl (by decide) ?_
                refine r_cv1 68 dX11_source_65 rfl gX11_184 rfl (by decide) (sh_50 z _) rfl rfl (Nat.le_of_ble_eq_true rfl) (Nat.le_of_ble_eq_true rfl) rfl ?_
                refine m_no (k0 := 6) (by decide) (by decide) ?_
                refine r_ret dX11_source_68 rfl (kb _ 6 (by decide) ?_)
                unfold gSource
                rw [if_neg (by omega), if_pos (by omega)]
          · refine r_ifeqT 62 0 dX11_source_46 (by decide) (by decide) (by decide) ?_
            refine r_aloadN 63 dX11_source_62 rfl rfl ?_
            refine r_bipush 65 dX11_source_63 rfl (by decide) ?_
            refine r_cv1 68 dX11_source_65 rfl gX11_184 rfl (by decide) (sh_50 z _) rfl rfl (Nat.le_of_ble_eq_true rfl) (Nat.le_of_ble_eq_true rfl) rfl ?_
            refine m_no (k0 := 6) (by decide) (by decide) ?_
            refine r_ret dX11_source_68 rfl (kb _ 6 (by decide) ?_)
            unfold gSource
            rw [if_neg (by omega), if_pos (by omega)]
        · refine r_ifneF 24 dX11_source_21 rfl 41 (by decide) (by decide) (by decide) ?_
          refine r_goto 35 dX11_source_24 (by decide) ?_
          refine r_aloadN 36 dX11_source_35 rfl rfl ?_
          refine r_iconst 37 dX11_source_36 rfl ?_
          refine r_cv1 40 dX11_source_37 rfl gX11_184 rfl (by decide) (sh_50 z _) rfl rfl (Nat.le_of_ble_eq_true rfl) (Nat.le_of_ble_eq_true rfl) rfl ?_
          refine m_no (k0 := 1) (by decide) (by decide) ?_
          refine r_ret dX11_source_40 rfl (kb _ 1 (by decide) ?_)
          unfold gSource
          rw [if_pos (by omega)]
