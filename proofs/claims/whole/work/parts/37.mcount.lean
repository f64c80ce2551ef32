theorem cu_ap (c : tC) (g i j : Nat) (v : Int) (g2 i2 j2 : Nat) : cu c g i j v g2 i2 j2 = if g2 = g ∧ i2 = i ∧ j2 = j then v else c g2 i2 j2 := rfl
theorem m_match {z : xZ} {d : Nat} {Q : tQ} {c : tC} {L : tL} {p t : Int} {n : Nat} {m : Int} (hg : MG c) (hp : inR p) (ht : inR t) (h4 : c 50 0 4 = (n : Int)) (h9 : c 50 0 9 = m) (kb : ∀ r w, w ≠ 0 → (r, w) = gMatch (c 50 0) p t → Q (some (.int (iI r))) (mRe c w) L) (k : ∀ r, (r, 0) = gMatch (c 50 0) p t → Q (some (.int (iI r))) (cu (cu (cu (cu (cu c 51 32 n p) 51 33 n t) 50 0 9 (m + 1)) 51 34 n m) 50 0 4 ((n : Int) + 1)) L) : En z (d + 20) MX11_match Q 0 [some (.ref (xad z 50 0)), some (.int (iI p)), some (.int (iI t))] [] c L := by
  have p1 := hp.1
  have p2 := hp.2
  have t1 := ht.1
  have t2 := ht.2
  unfold MG RT_rng at hg
  refine r_aloadN 1 dX11_match_0 rfl rfl ?_
  refine r_iloadN 2 dX11_match_1 rfl rfl ?_
  refine r_cv1 5 dX11_match_2 rfl gX11_197 rfl (by decide) (sh_50 z _) rfl rfl (Nat.le_of_ble_eq_true rfl) (Nat.le_of_ble_eq_true rfl) rfl ?_
  refine m_isPer hg (by assumption) (fun y2 => ?_) (fun y2 => ?_)
  · refine r_ifneT 14 0 dX11_match_5 (by decide) (by decide) (by decide) ?_
    refine r_aloadN 15 dX11_match_14 rfl rfl ?_
    refine r_iloadN 16 dX11_match_15 rfl rfl ?_
    refine r_cv1 19 dX11_match_16 rfl gX11_194 rfl (by decide) (sh_50 z _) rfl rfl (Nat.le_of_ble_eq_true rfl) (Nat.le_of_ble_eq_true rfl) rfl ?_
    refine m_isTone (by assumption) (fun y16 => ?_) (fun y16 => ?_)
    · refine r_ifneT 29 0 dX11_match_19 (by decide) (by decide) (by decide) ?_
      refine r_aloadN 30 dX11_match_29 rfl rfl ?_
      refine r_geti 33 dX11_match_30 rfl fX11_316 (by decide) (sh_50 z _) rfl ?_
      refine r_bipush 35 dX11_match_33 rfl (by decide) ?_
      refine r_icne 45 38 dX11_match_35 rfl (by decide) (by omega) (by omega) (fun h35 => ?_) (fun h35 => ?_)
      · refine r_aloadN 46 dX11_match_45 rfl rfl ?_
        refine r_getq 49 dX11_match_46 rfl fX11_83 (by decide) (sh_50 z _) rfl ?_
        refine r_aloadN 50 dX11_match_49 rfl rfl ?_
        refine r_geti 53 dX11_match_50 rfl fX11_316 (by decide) (sh_50 z _) rfl ?_
        rw [h4]
        refine r_iloadN 54 dX11_match_53 rfl rfl ?_
        refine r_iast (n := 20) 55 dX11_match_54 (n) rfl rfl (by decide) (sh_51 z _) (by decide) (by omega) (by omega) ?_
        refine r_aloadN 56 dX11_match_55 rfl rfl ?_
        refine r_getq 59 dX11_match_56 rfl fX11_86 (by decide) (sh_50 z _) rfl ?_
        refine r_aloadN 60 dX11_match_59 rfl rfl ?_
        refine r_geti 63 dX11_match_60 rfl fX11_316 (by decide) (sh_50 z _) rfl ?_
        (try simp only [cu_ap, Nat.reduceEqDiff, false_and, and_false, if_false, reduceIte])
        rw [h4]
        refine r_iloadN 64 dX11_match_63 rfl rfl ?_
        refine r_iast (n := 20) 65 dX11_match_64 (n) rfl rfl (by decide) (sh_51 z _) (by decide) (by omega) (by omega) ?_
        refine r_aloadN 66 dX11_match_65 rfl rfl ?_
        refine r_getq 69 dX11_match_66 rfl fX11_89 (by decide) (sh_50 z _) rfl ?_
        refine r_aloadN 70 dX11_match_69 rfl rfl ?_
        refine r_geti 73 dX11_match_70 rfl fX11_316 (by decide) (sh_50 z _) rfl ?_
        (try simp only [cu_ap, Nat.reduceEqDiff, false_and, and_false, if_false, reduceIte])
        rw [h4]
        refine r_aloadN 74 dX11_match_73 rfl rfl ?_
        refine r_dupr 75 dX11_match_74 rfl ?_
        refine r_geti 78 dX11_match_75 rfl fX11_306 (by decide) (sh_50 z _) rfl ?_
        (try simp only [cu_ap, Nat.reduceEqDiff, false_and, and_false, if_false, reduceIte])
        rw [h9]
        refine r_dupx1 79 dX11_match_78 rfl ?_
        refine r_iconst 80 dX11_match_79 rfl ?_
        refine r_iadd 81 dX11_match_80 rfl ?_
        refine r_puti 84 dX11_match_81 rfl pX11_306 (by decide) (sh_50 z _) rfl ?_
        refine r_iast (n := 20) 85 dX11_match_84 (n) rfl rfl (by decide) (sh_51 z _) (by decide) (by omega) (by omega) ?_
        refine r_aloadN 86 dX11_match_85 rfl rfl ?_
        refine r_dupr 87 dX11_match_86 rfl ?_
        refine r_geti 90 dX11_match_87 rfl fX11_316 (by decide) (sh_50 z _) rfl ?_
        (try simp only [cu_ap, Nat.reduceEqDiff, false_and, and_false, if_false, reduceIte])
        rw [h4]
        refine r_iconst 91 dX11_match_90 rfl ?_
        refine r_iadd 92 dX11_match_91 rfl ?_
        refine r_dupx1 93 dX11_match_92 rfl ?_
        refine r_puti 96 dX11_match_93 rfl pX11_316 (by decide) (sh_50 z _) rfl ?_
        refine r_ret dX11_match_96 rfl (k _ ?_)
        unfold gMatch
        rw [if_neg (by omega), if_neg (by omega), if_neg (by omega), h4]
      · refine r_aloadN 39 dX11_match_38 rfl rfl ?_
        refine r_bipush 41 dX11_match_39 rfl (by decide) ?_
        refine r_cv1 44 dX11_match_41 rfl gX11_184 rfl (by decide) (sh_50 z _) rfl rfl (Nat.le_of_ble_eq_true rfl) (Nat.le_of_ble_eq_true rfl) rfl ?_
        refine m_no (k0 := 7) (by decide) (by decide) ?_
        refine r_ret dX11_match_44 rfl (kb _ 7 (by decide) ?_)
        unfold gMatch
        rw [if_neg (by omega), if_neg (by omega), if_pos (by omega)]
    · refine r_ifneF 22 dX11_match_19 rfl 29 (by decide) (by decide) (by decide) ?_
      refine r_aloadN 23 dX11_match_22 rfl rfl ?_
      refine r_bipush 25 dX11_match_23 rfl (by decide) ?_
      refine r_cv1 28 dX11_match_25 rfl gX11_184 rfl (by decide) (sh_50 z _) rfl rfl (Nat.le_of_ble_eq_true rfl) (Nat.le_of_ble_eq_true rfl) rfl ?_
      refine m_no (k0 := 6) (by decide) (by decide) ?_
      refine r_ret dX11_match_28 rfl (kb _ 6 (by decide) ?_)
      unfold gMatch
      rw [if_neg (by omega), if_pos (by omega)]
  · refine r_ifneF 8 dX11_match_5 rfl 14 (by decide) (by decide) (by decide) ?_
    refine r_aloadN 9 dX11_match_8 rfl rfl ?_
    refine r_iconst 10 dX11_match_9 rfl ?_
    refine r_cv1 13 dX11_match_10 rfl gX11_184 rfl (by decide) (sh_50 z _) rfl rfl (Nat.le_of_ble_eq_true rfl) (Nat.le_of_ble_eq_true rfl) rfl ?_
    refine m_no (k0 := 1) (by decide) (by decide) ?_
    refine r_ret dX11_match_13 rfl (kb _ 1 (by decide) ?_)
    unfold gMatch
    rw [if_pos (by omega)]
theorem m_letter {z : xZ} {d : Nat} {Q : tQ} {c : tC} {L : tL} {p t : Int} {n : Nat} (hg : MG c) (hp : inR p) (ht : inR t) (h4 : c 50 0 5 = (n : Int)) (kb : ∀ r w, w ≠ 0 → (r, w) = gLetter (c 50 0) p t → Q (some (.int (iI r))) (mRe c w) L) (k : ∀ r, (r, 0) = gLetter (c 50 0) p t → Q (some (.int (iI r))) (cu (cu (cu (cu c 51 35 n p) 51 36 n (c 50 0 0)) 51 37 n t) 50 0 5 ((n : Int) + 1)) L) : En z (d + 20) MX11_letter_ Q 0 [some (.ref (xad z 50 0)), some (.int (iI p)), some (.int (iI t))] [] c L := by
  have p1 := hp.1
  have p2 := hp.2
  have t1 := ht.1
  have t2 := ht.2
  unfold MG RT_rng at hg
  refine r_aloadN 1 dX11_letter__0 rfl rfl ?_
  refine r_iloadN 2 dX11_letter__1 rfl rfl ?_
  refine r_cv1 5 dX11_letter__2 rfl gX11_197 rfl (by decide) (sh_50 z _) rfl rfl (Nat.le_of_ble_eq_true rfl) (Nat.le_of_ble_eq_true rfl) rfl ?_
  refine m_isPer hg (by assumption) (fun y2 => ?_) (fun y2 => ?_)
  · refine r_ifneT 14 0 dX11_letter__5 (by decide) (by decide) (by decide) ?_
    refine r_iloadN 15 dX11_letter__14 rfl rfl ?_
    refine r_iflt 26 18 dX11_letter__15 rfl (by decide) (by omega) (fun h15 => ?_) (fun h15 => ?_)
    · refine r_aloadN 27 dX11_letter__26 rfl rfl ?_
      refine r_bipush 29 dX11_letter__27 rfl (by decide) ?_
      refine r_cv1 32 dX11_letter__29 rfl gX11_184 rfl (by decide) (sh_50 z _) rfl rfl (Nat.le_of_ble_eq_true rfl) (Nat.le_of_ble_eq_true rfl) rfl ?_
      refine m_no (k0 := 6) (by decide) (by decide) ?_
      refine r_ret dX11_letter__32 rfl (kb _ 6 (by decide) ?_)
      unfold gLetter
      rw [if_neg (by omega), if_pos (by omega)]
    · refine r_iloadN 19 dX11_letter__18 rfl rfl ?_
      refine r_aloadN 20 dX11_letter__19 rfl rfl ?_
      refine r_geti 23 dX11_letter__20 rfl fX11_200 (by decide) (sh_50 z _) rfl ?_
      refine r_icle 33 26 dX11_letter__23 rfl (by decide) (by omega) (by omega) (fun h23 => ?_) (fun h23 => ?_)
      · refine r_aloadN 34 dX11_letter__33 rfl rfl ?_
        refine r_geti 37 dX11_letter__34 rfl fX11_319 (by decide) (sh_50 z _) rfl ?_
        refine r_bipush 39 dX11_letter__37 rfl (by decide) ?_
        refine r_icne 49 42 dX11_letter__39 rfl (by decide) (by omega) (by omega) (fun h39 => ?_) (fun h39 => ?_)
        · refine r_aloadN 50 dX11_letter__49 rfl rfl ?_
          refine r_getq 53 dX11_letter__50 rfl fX11_92 (by decide) (sh_50 z _) rfl ?_
          refine r_aloadN 54 dX11_letter__53 rfl rfl ?_
          refine r_geti 57 dX11_letter__54 rfl fX11_319 (by decide) (sh_50 z _) rfl ?_
          rw [h4]
          refine r_iloadN 58 dX11_letter__57 rfl rfl ?_
          refine r_iast (n := 30) 59 dX11_letter__58 (n) rfl rfl (by decide) (sh_51 z _) (by decide) (by omega) (by omega) ?_
          refine r_aloadN 60 dX11_letter__59 rfl rfl ?_
          refine r_getq 63 dX11_letter__60 rfl fX11_95 (by decide) (sh_50 z _) rfl ?_
          refine r_aloadN 64 dX11_letter__63 rfl rfl ?_
          refine r_geti 67 dX11_letter__64 rfl fX11_319 (by decide) (sh_50 z _) rfl ?_
          (try simp only [cu_ap, Nat.reduceEqDiff, false_and, and_false, if_false, reduceIte])
          rw [h4]
          refine r_aloadN 68 dX11_letter__67 rfl rfl ?_
          refine r_geti 71 dX11_letter__68 rfl fX11_200 (by decide) (sh_50 z _) rfl ?_
          (try simp only [cu_ap, Nat.reduceEqDiff, false_and, and_false, if_false, reduceIte])
          refine r_iast (n := 30) 72 dX11_letter__71 (n) rfl rfl (by decide) (sh_51 z _) (by decide) (by omega) (by omega) ?_
          refine r_aloadN 73 dX11_letter__72 rfl rfl ?_
          refine r_getq 76 dX11_letter__73 rfl fX11_98 (by decide) (sh_50 z _) rfl ?_
          refine r_aloadN 77 dX11_letter__76 rfl rfl ?_
          refine r_geti 80 dX11_letter__77 rfl fX11_319 (by decide) (sh_50 z _) rfl ?_
          (try simp only [cu_ap, Nat.reduceEqDiff, false_and, and_false, if_false, reduceIte])
          rw [h4]
          refine r_iloadN 81 dX11_letter__80 rfl rfl ?_
          refine r_iast (n := 30) 82 dX11_letter__81 (n) rfl rfl (by decide) (sh_51 z _) (by decide) (by omega) (by omega) ?_
          refine r_aloadN 83 dX11_letter__82 rfl rfl ?_
          refine r_dupr 84 dX11_letter__83 rfl ?_
          refine r_geti 87 dX11_letter__84 rfl fX11_319 (by decide) (sh_50 z _) rfl ?_
          (try simp only [cu_ap, Nat.reduceEqDiff, false_and, and_false, if_false, reduceIte])
          rw [h4]
          refine r_iconst 88 dX11_letter__87 rfl ?_
          refine r_iadd 89 dX11_letter__88 rfl ?_
          refine r_dupx1 90 dX11_letter__89 rfl ?_
          refine r_puti 93 dX11_letter__90 rfl pX11_319 (by decide) (sh_50 z _) rfl ?_
          refine r_ret dX11_letter__93 rfl (k _ ?_)
          unfold gLetter
          rw [if_neg (by omega), if_neg (by omega), if_neg (by omega), h4]
        · refine r_aloadN 43 dX11_letter__42 rfl rfl ?_
          refine r_bipush 45 dX11_letter__43 rfl (by decide) ?_
          refine r_cv1 48 dX11_letter__45 rfl gX11_184 rfl (by decide) (sh_50 z _) rfl rfl (Nat.le_of_ble_eq_true rfl) (Nat.le_of_ble_eq_true rfl) rfl ?_
          refine m_no (k0 := 7) (by decide) (by decide) ?_
          refine r_ret dX11_letter__48 rfl (kb _ 7 (by decide) ?_)
          unfold gLetter
          rw [if_neg (by omega), if_neg (by omega), if_pos (by omega)]
      · refine r_aloadN 27 dX11_letter__26 rfl rfl ?_
        refine r_bipush 29 dX11_letter__27 rfl (by decide) ?_
        refine r_cv1 32 dX11_letter__29 rfl gX11_184 rfl (by decide) (sh_50 z _) rfl rfl (Nat.le_of_ble_eq_true rfl) (Nat.le_of_ble_eq_true rfl) rfl ?_
        refine m_no (k0 := 6) (by decide) (by decide) ?_
        refine r_ret dX11_letter__32 rfl (kb _ 6 (by decide) ?_)
        unfold gLetter
        rw [if_neg (by omega), if_pos (by omega)]
  · refine r_ifneF 8 dX11_letter__5 rfl 14 (by decide) (by decide) (by decide) ?_
    refine r_aloadN 9 dX11_letter__8 rfl rfl ?_
    refine r_iconst 10 dX11_letter__9 rfl ?_
    refine r_cv1 13 dX11_letter__10 rfl gX11_184 rfl (by decide) (sh_50 z _) rfl rfl (Nat.le_of_ble_eq_true rfl) (Nat.le_of_ble_eq_true rfl) rfl ?_
    refine m_no (k0 := 1) (by decide) (by decide) ?_
    refine r_ret dX11_letter__13 rfl (kb _ 1 (by decide) ?_)
    unfold gLetter
    rw [if_pos (by omega)]
theorem m_person {z : xZ} {d : Nat} {Q : tQ} {c : tC} {L : tL} {v b l q rd : Int} {n : Nat} (hg : MG c) (hv : inR v) (hb : inR b) (hl : inR l) (hq : inR q) (hrd : inR rd) (h4 : c 50 0 1 = (n : Int)) (hr01 : rd = 0 ∨ rd = 1) (kb : ∀ r w, w ≠ 0 → (r, w) = gPerson (c 50 0) v b l q → Q (some (.int (iI r))) (mRe c w) L) (k : ∀ r, (r, 0) = gPerson (c 50 0) v b l q → Q (some (.int (iI r))) (cu (cu (cu (cu (cu (cu c 51 14 n v) 51 15 n b) 51 16 n l) 51 17 n q) 51 18 n rd) 50 0 1 ((n : Int) + 1)) L) : En z (d + 20) MX11_person Q 0 [some (.ref (xad z 50 0)), some (.int (iI v)), some (.int (iI b)), some (.int (iI l)), some (.int (iI q)), some (.int (iI rd))] [] c L := by
  have v1 := hv.1
  have v2 := hv.2
  have b1 := hb.1
  have b2 := hb.2
  have l1 := hl.1
  have l2 := hl.2
  have q1 := hq.1
  have q2 := hq.2
  have rd1 := hrd.1
  have rd2 := hrd.2
  unfold MG RT_rng at hg
  refine r_aloadN 1 dX11_person_0 rfl rfl ?_
  refine r_iloadN 2 dX11_person_1 rfl rfl ?_
  refine r_cv1 5 dX11_person_2 rfl gX11_191 rfl (by decide) (sh_50 z _) rfl rfl (Nat.le_of_ble_eq_true rfl) (Nat.le_of_ble_eq_true rfl) rfl ?_
  refine m_isSpot (by assumption) (fun y2 => ?_) (fun y2 => ?_)
  · refine r_ifneT 14 0 dX11_person_5 (by decide) (by decide) (by decide) ?_
    refine r_aloadN 15 dX11_person_14 rfl rfl ?_
    refine r_iloadN 16 dX11_person_15 rfl rfl ?_
    refine r_cv1 19 dX11_person_16 rfl gX11_194 rfl (by decide) (sh_50 z _) rfl rfl (Nat.le_of_ble_eq_true rfl) (Nat.le_of_ble_eq_true rfl) rfl ?_
    refine m_isTone (by assumption) (fun y16 => ?_) (fun y16 => ?_)
    · refine r_ifeqF 22 dX11_person_19 rfl 44 (by decide) (by decide) (by decide) ?_
      refine r_iloadN 23 dX11_person_22 rfl rfl ?_
      refine r_iflt 44 26 dX11_person_23 rfl (by decide) (by omega) (fun h23 => ?_) (fun h23 => ?_)
      · refine r_aloadN 45 dX11_person_44 rfl rfl ?_
        refine r_bipush 47 dX11_person_45 rfl (by decide) ?_
        refine r_cv1 50 dX11_person_47 rfl gX11_184 rfl (by decide) (sh_50 z _) rfl rfl (Nat.le_of_ble_eq_true rfl) (Nat.le_of_ble_eq_true rfl) rfl ?_
        refine m_no (k0 := 6) (by decide) (by decide) ?_
        refine r_ret dX11_person_50 rfl (kb _ 6 (by decide) ?_)
        unfold gPerson
        rw [if_neg (by omega), if_pos (by omega)]
      · refine r_iloadN 27 dX11_person_26 rfl rfl ?_
        refine r_bipush 29 dX11_person_27 rfl (by decide) ?_
        refine r_icgt 44 32 dX11_person_29 rfl (by decide) (by omega) (by omega) (fun h29 => ?_) (fun h29 => ?_)
        · refine r_aloadN 45 dX11_person_44 rfl rfl ?_
          refine r_bipush 47 dX11_person_45 rfl (by decide) ?_
          refine r_cv1 50 dX11_person_47 rfl gX11_184 rfl (by decide) (sh_50 z _) rfl rfl (Nat.le_of_ble_eq_true rfl) (Nat.le_of_ble_eq_true rfl) rfl ?_
          refine m_no (k0 := 6) (by decide) (by decide) ?_
          refine r_ret dX11_person_50 rfl (kb _ 6 (by decide) ?_)
          unfold gPerson
          rw [if_neg (by omega), if_pos (by omega)]
        · refine r_iload 34 dX11_person_32 rfl rfl ?_
          refine r_iflt 44 37 dX11_person_34 rfl (by decide) (by omega) (fun h34 => ?_) (fun h34 => ?_)
          · refine r_aloadN 45 dX11_person_44 rfl rfl ?_
            refine r_bipush 47 dX11_person_45 rfl (by decide) ?_
            refine r_cv1 50 dX11_person_47 rfl gX11_184 rfl (by decide) (sh_50 z _) rfl rfl (Nat.le_of_ble_eq_true rfl) (Nat.le_of_ble_eq_true rfl) rfl ?_
            refine m_no (k0 := 6) (by decide) (by decide) ?_
            refine r_ret dX11_person_50 rfl (kb _ 6 (by decide) ?_)
            unfold gPerson
            rw [if_neg (by omega), if_pos (by omega)]
          · refine r_iload 39 dX11_person_37 rfl rfl ?_
            refine r_bipush 41 dX11_person_39 rfl (by decide) ?_
            refine r_icle 51 44 dX11_person_41 rfl (by decide) (by omega) (by omega) (fun h41 => ?_) (fun h41 => ?_)
            · refine r_aloadN 52 dX11_person_51 rfl rfl ?_
              refine r_geti 55 dX11_person_52 rfl fX11_171 (by decide) (sh_50 z _) rfl ?_
              refine r_bipush 57 dX11_person_55 rfl (by decide) ?_
              refine r_icne 67 60 dX11_person_57 rfl (by decide) (by omega) (by omega) (fun h57 => ?_) (fun h57 => ?_)
              · refine r_aloadN 68 dX11_person_67 rfl rfl ?_
                refine r_getq 71 dX11_person_68 rfl fX11_29 (by decide) (sh_50 z _) rfl ?_
                refine r_aloadN 72 dX11_person_71 rfl rfl ?_
                refine r_geti 75 dX11_person_72 rfl fX11_171 (by decide) (sh_50 z _) rfl ?_
                rw [h4]
                refine r_iloadN 76 dX11_person_75 rfl rfl ?_
                refine r_iast (n := 12) 77 dX11_person_76 (n) rfl rfl (by decide) (sh_51 z _) (by decide) (by omega) (by omega) ?_
                refine r_aloadN 78 dX11_person_77 rfl rfl ?_
                refine r_getq 81 dX11_person_78 rfl fX11_32 (by decide) (sh_50 z _) rfl ?_
                refine r_aloadN 82 dX11_person_81 rfl rfl ?_
                refine r_geti 85 dX11_person_82 rfl fX11_171 (by decide) (sh_50 z _) rfl ?_
                (try simp only [cu_ap, Nat.reduceEqDiff, false_and, and_false, if_false, reduceIte])
                rw [h4]
                refine r_iloadN 86 dX11_person_85 rfl rfl ?_
                refine r_iast (n := 12) 87 dX11_person_86 (n) rfl rfl (by decide) (sh_51 z _) (by decide) (by omega) (by omega) ?_
                refine r_aloadN 88 dX11_person_87 rfl rfl ?_
                refine r_getq 91 dX11_person_88 rfl fX11_35 (by decide) (sh_50 z _) rfl ?_
                refine r_aloadN 92 dX11_person_91 rfl rfl ?_
                refine r_geti 95 dX11_person_92 rfl fX11_171 (by decide) (sh_50 z _) rfl ?_
                (try simp only [cu_ap, Nat.reduceEqDiff, false_and, and_false, if_false, reduceIte])
                rw [h4]
                refine r_iloadN 96 dX11_person_95 rfl rfl ?_
                refine r_iast (n := 12) 97 dX11_person_96 (n) rfl rfl (by decide) (sh_51 z _) (by decide) (by omega) (by omega) ?_
                refine r_aloadN 98 dX11_person_97 rfl rfl ?_
                refine r_getq 101 dX11_person_98 rfl fX11_38 (by decide) (sh_50 z _) rfl ?_
                refine r_aloadN 102 dX11_person_101 rfl rfl ?_
                refine r_geti 105 dX11_person_102 rfl fX11_171 (by decide) (sh_50 z _) rfl ?_
                (try simp only [cu_ap, Nat.reduceEqDiff, false_and, and_false, if_false, reduceIte])
                rw [h4]
                refine r_iload 107 dX11_person_105 rfl rfl ?_
                refine r_iast (n := 12) 108 dX11_person_107 (n) rfl rfl (by decide) (sh_51 z _) (by decide) (by omega) (by omega) ?_
                refine r_aloadN 109 dX11_person_108 rfl rfl ?_
                refine r_getq 112 dX11_person_109 rfl fX11_41 (by decide) (sh_50 z _) rfl ?_
                refine r_aloadN 113 dX11_person_112 rfl rfl ?_
                refine r_geti 116 dX11_person_113 rfl fX11_171 (by decide) (sh_50 z _) rfl ?_
                (try simp only [cu_ap, Nat.reduceEqDiff, false_and, and_false, if_false, reduceIte])
                rw [h4]
                refine r_iload 118 dX11_person_116 rfl rfl ?_
                refine r_ifeq 125 121 dX11_person_118 rfl (by decide) (by omega) (fun h118 => ?_) (fun h118 => ?_)
                · obtain rfl : rd = 0 := by omega
                  refine r_iconst 126 dX11_person_125 rfl ?_
                  refine r_iast (n := 12) 127 dX11_person_126 (n) rfl rfl (by decide) (sh_51 z _) (by decide) (by omega) (by omega) ?_
                  refine r_aloadN 128 dX11_person_127 rfl rfl ?_
                  refine r_dupr 129 dX11_person_128 rfl ?_
                  refine r_geti 132 dX11_person_129 rfl fX11_171 (by decide) (sh_50 z _) rfl ?_
                  (try simp only [cu_ap, Nat.reduceEqDiff, false_and, and_false, if_false, reduceIte])
                  rw [h4]
                  refine r_dupx1 133 dX11_person_132 rfl ?_
                  refine r_iconst 134 dX11_person_133 rfl ?_
                  refine r_iadd 135 dX11_person_134 rfl ?_
                  refine r_puti 138 dX11_person_135 rfl pX11_171 (by decide) (sh_50 z _) rfl ?_
                  refine r_ret dX11_person_138 rfl (k _ ?_)
                  unfold gPerson
                  rw [if_neg (by omega), if_neg (by omega), if_neg (by omega), h4]
                · obtain rfl : rd = 1 := by omega
                  refine r_iconst 122 dX11_person_121 rfl ?_
                  refine r_goto 126 dX11_person_122 (by decide) ?_
                  refine r_iast (n := 12) 127 dX11_person_126 (n) rfl rfl (by decide) (sh_51 z _) (by decide) (by omega) (by omega) ?_
                  refine r_aloadN 128 dX11_person_127 rfl rfl ?_
                  refine r_dupr 129 dX11_person_128 rfl ?_
                  refine r_geti 132 dX11_person_129 rfl fX11_171 (by decide) (sh_50 z _) rfl ?_
                  (try simp only [cu_ap, Nat.reduceEqDiff, false_and, and_false, if_false, reduceIte])
                  rw [h4]
                  refine r_dupx1 133 dX11_person_132 rfl ?_
                  refine r_iconst 134 dX11_person_133 rfl ?_
                  refine r_iadd 135 dX11_person_134 rfl ?_
                  refine r_puti 138 dX11_person_135 rfl pX11_171 (by decide) (sh_50 z _) rfl ?_
                  refine r_ret dX11_person_138 rfl (k _ ?_)
                  unfold gPerson
                  rw [if_neg (by omega), if_neg (by omega), if_neg (by omega), h4]
              · refine r_aloadN 61 dX11_person_60 rfl rfl ?_
                refine r_bipush 63 dX11_person_61 rfl (by decide) ?_
                refine r_cv1 66 dX11_person_63 rfl gX11_184 rfl (by decide) (sh_50 z _) rfl rfl (Nat.le_of_ble_eq_true rfl) (Nat.le_of_ble_eq_true rfl) rfl ?_
                refine m_no (k0 := 7) (by decide) (by decide) ?_
                refine r_ret dX11_person_66 rfl (kb _ 7 (by decide) ?_)
                unfold gPerson
                rw [if_neg (by omega), if_neg (by omega), if_pos (by omega)]
            · refine r_aloadN 45 dX11_person_44 rfl rfl ?_
              refine r_bipush 47 dX11_person_45 rfl (by decide) ?_
              refine r_cv1 50 dX11_person_47 rfl gX11_184 rfl (by decide) (sh_50 z _) rfl rfl (Nat.le_of_ble_eq_true rfl) (Nat.le_of_ble_eq_true rfl) rfl ?_
              refine m_no (k0 := 6) (by decide) (by decide) ?_
              refine r_ret dX11_person_50 rfl (kb _ 6 (by decide) ?_)
              unfold gPerson
              rw [if_neg (by omega), if_pos (by omega)]
    · refine r_ifeqT 44 0 dX11_person_19 (by decide) (by decide) (by decide) ?_
      refine r_aloadN 45 dX11_person_44 rfl rfl ?_
      refine r_bipush 47 dX11_person_45 rfl (by decide) ?_
      refine r_cv1 50 dX11_person_47 rfl gX11_184 rfl (by decide) (sh_50 z _) rfl rfl (Nat.le_of_ble_eq_true rfl) (Nat.le_of_ble_eq_true rfl) rfl ?_
      refine m_no (k0 := 6) (by decide) (by decide) ?_
      refine r_ret dX11_person_50 rfl (kb _ 6 (by decide) ?_)
      unfold gPerson
      rw [if_neg (by omega), if_pos (by omega)]
  · refine r_ifneF 8 dX11_person_5 rfl 14 (by decide) (by decide) (by decide) ?_
    refine r_aloadN 9 dX11_person_8 rfl rfl ?_
    refine r_iconst 10 dX11_person_9 rfl ?_
    refine r_cv1 13 dX11_person_10 rfl gX11_184 rfl (by decide) (sh_50 z _) rfl rfl (Nat.le_of_ble_eq_true rfl) (Nat.le_of_ble_eq_true rfl) rfl ?_
    refine m_no (k0 := 1) (by decide) (by decide) ?_
    refine r_ret dX11_person_13 rfl (kb _ 1 (by decide) ?_)
    unfold gPerson
    rw [if_pos (by omega)]
