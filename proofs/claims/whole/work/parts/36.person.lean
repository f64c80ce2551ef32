def gPerson (S : sS) (v b l q : Int) : gA := if ¬ isSp v then (-1, 1) else if ¬ (isTo b ∧ (0 ≤ l ∧ l ≤ 99) ∧ 0 ≤ q ∧ q ≤ 9) then (-6, 6) else if S 1 = 12 then (-7, 7) else (S 1, 0)
def gMatch (S : sS) (p t : Int) : gA := if ¬ isPe S p then (-1, 1) else if ¬ isTo t then (-6, 6) else if S 4 = 20 then (-7, 7) else (S 4 + 1, 0)
def gLetter (S : sS) (p t : Int) : gA := if ¬ isPe S p then (-1, 1) else if ¬ (0 ≤ t ∧ t ≤ S 0) then (-6, 6) else if S 5 = 30 then (-7, 7) else (S 5 + 1, 0)
def gPress (S : sS) (p : Int) : gA := if ¬ isPe S p then (-1, 1) else if S 3 = 60 then (-7, 7) else (S 3 + 1, 0)
abbrev uPer (c : tC) (n : Nat) (v b l q r : Int) : tC := cu (cu (cu (cu (cu c 12 n 0 v) 12 n 1 b) 12 n 2 l) 12 n 3 q) 12 n 4 r
theorem x_begin3 {z : xZ} {d : Nat} {Q : tQ} {c : tC} {L : tL} {n : Nat} {v b l q r : Int} (hn : n < 24) (hr : r = 0 ∨ r = 1) (k : Q none (uPer c n v b l q r) L) : En z (d + 1) MX3_begin Q 0 [some (.ref (xad z 12 n)), some (.int (iI v)), some (.int (iI b)), some (.int (iI l)), some (.int (iI q)), some (.int (iI r))] [] c L := by
  refine r_aloadN 1 dX3_begin_0 rfl rfl ?_
  refine r_iloadN 2 dX3_begin_1 rfl rfl ?_
  refine r_puti 5 dX3_begin_2 rfl pX3_7 (ct_12 (by omega)) (sh_12 z _) rfl ?_
  refine r_aloadN 6 dX3_begin_5 rfl rfl ?_
  refine r_iloadN 7 dX3_begin_6 rfl rfl ?_
  refine r_puti 10 dX3_begin_7 rfl pX3_13 (ct_12 (by omega)) (sh_12 z _) rfl ?_
  refine r_aloadN 11 dX3_begin_10 rfl rfl ?_
  refine r_iloadN 12 dX3_begin_11 rfl rfl ?_
  refine r_puti 15 dX3_begin_12 rfl pX3_16 (ct_12 (by omega)) (sh_12 z _) rfl ?_
  refine r_aloadN 16 dX3_begin_15 rfl rfl ?_
  refine r_iload 18 dX3_begin_16 rfl rfl ?_
  refine r_puti 21 dX3_begin_18 rfl pX3_19 (ct_12 (by omega)) (sh_12 z _) rfl ?_
  refine r_aloadN 22 dX3_begin_21 rfl rfl ?_
  refine r_iload 24 dX3_begin_22 rfl rfl ?_
  refine r_putz 27 dX3_begin_24 rfl pX3_22 (ct_12 (by omega)) (sh_12 z _) rfl (by omega) ?_
  exact r_vret dX3_begin_27 rfl k
theorem x_addPerson {z : xZ} {d : Nat} {Q : tQ} {c : tC} {L : tL} {n : Nat} {v b l q r : Int} (hn : n < 12) (h1 : c 8 0 1 = (n : Int)) (hr : r = 0 ∨ r = 1) (k : Q (some (.int (iI (n : Int)))) (cu (uPer c n v b l q r) 8 0 1 ((n : Int) + 1)) L) : En z (d + 2) MX9_addPerson Q 0 [some (.ref (xad z 8 0)), some (.int (iI v)), some (.int (iI b)), some (.int (iI l)), some (.int (iI q)), some (.int (iI r))] [] c L := by
  refine r_aloadN 1 dX9_addPerson_0 rfl rfl ?_
  refine r_getq 4 dX9_addPerson_1 rfl fX9_32 (by decide) (sh_8 z _) rfl ?_
  refine r_aloadN 5 dX9_addPerson_4 rfl rfl ?_
  refine r_geti 8 dX9_addPerson_5 rfl fX9_15 (by decide) (sh_8 z _) rfl ?_
  rw [h1]
  refine r_aald 9 dX9_addPerson_8 (n) rfl rfl (by decide) (sh_9a z) rfl (by decide) (by omega) (by omega) ?_
  refine r_iloadN 10 dX9_addPerson_9 rfl rfl ?_
  refine r_iloadN 11 dX9_addPerson_10 rfl rfl ?_
  refine r_iloadN 12 dX9_addPerson_11 rfl rfl ?_
  refine r_iload 14 dX9_addPerson_12 rfl rfl ?_
  refine r_iload 16 dX9_addPerson_14 rfl rfl ?_
  refine r_cv5 19 dX9_addPerson_16 rfl gX9_104 rfl (ct_12 (by omega)) (sh_12 z _) rfl rfl (Nat.le_of_ble_eq_true rfl) (Nat.le_of_ble_eq_true rfl) rfl ?_
  refine x_begin3 (by omega) hr ?_
  refine r_aloadN 20 dX9_addPerson_19 rfl rfl ?_
  refine r_dupr 21 dX9_addPerson_20 rfl ?_
  refine r_geti 24 dX9_addPerson_21 rfl fX9_15 (by decide) (sh_8 z _) rfl ?_
  rw [show uPer c n v b l q r 8 0 1 = (n : Int) from h1]
  refine r_iconst 25 dX9_addPerson_24 rfl ?_
  refine r_iadd 26 dX9_addPerson_25 rfl ?_
  refine r_puti 29 dX9_addPerson_26 rfl pX9_15 (by decide) (sh_8 z _) rfl ?_
  refine r_aloadN 30 dX9_addPerson_29 rfl rfl ?_
  refine r_geti 33 dX9_addPerson_30 rfl fX9_15 (by decide) (sh_8 z _) rfl ?_
  rw [show cu (uPer c n v b l q r) 8 0 1 ((n : Int) + 1) 8 0 1 = (n : Int) + 1 from rfl]
  refine r_iconst 34 dX9_addPerson_33 rfl ?_
  refine r_isub 35 dX9_addPerson_34 rfl ?_
  rw [show (n : Int) + 1 - 1 = (n : Int) by omega]
  exact r_ret dX9_addPerson_35 rfl k
theorem x_person {z : xZ} {d : Nat} {Q : tQ} {c : tC} {L : tL} {n : Nat} {v b l q rd : Int} {pn : Nat} (hR : RX c) (hn : c 50 0 2 = (n : Int)) (hv : inR v) (hb : inR b) (hl : inR l) (hq : inR q) (hrd : inR rd) (hr01 : rd = 0 ∨ rd = 1) (hpn : c 50 0 1 = (pn : Int)) (kb : ∀ r w, w ≠ 0 → (r, w) = gPerson (c 50 0) v b l q → Q (some (.int (iI r))) (xRe c w) L) (k : ∀ r, (r, 0) = gPerson (c 50 0) v b l q → Q (some (.int (iI r))) (cu (uPer c pn v b l q rd) 8 0 1 ((pn : Int) + 1)) L) : En z (d + 20) MX10_person Q 0 [some (.ref (xad z 0 0)), some (.int (iI v)), some (.int (iI b)), some (.int (iI l)), some (.int (iI q)), some (.int (iI rd))] [] c L := by
  have v1 := hv.1
  have v2 := hv.2
  have b1 := hb.1
  have b2 := hb.2
  have l1 := hl.1
  have l2 := hl.2
  have q1 := hq.1
  have q2 := hq.2
  have rd1 := hrd.1
  have rd2 := hrd.2
  have hg := R0_rng hR
  have hc := R0_scal hR
  refine r_iloadN 1 dX10_person_0 rfl rfl ?_
  refine r_cs1 4 dX10_person_1 rfl gX10_131 (Nat.le_of_ble_eq_true rfl) (Nat.le_of_ble_eq_true rfl) rfl ?_
  refine x_isSpot (by assumption) (fun y1 => ?_) (fun y1 => ?_)
  · refine r_ifneT 13 0 dX10_person_4 (by decide) (by decide) (by decide) ?_
    refine r_iloadN 14 dX10_person_13 rfl rfl ?_
    refine r_cs1 17 dX10_person_14 rfl gX10_134 (Nat.le_of_ble_eq_true rfl) (Nat.le_of_ble_eq_true rfl) rfl ?_
    refine x_isTone (by assumption) (fun y14 => ?_) (fun y14 => ?_)
    · refine r_ifeqF 20 dX10_person_17 rfl 41 (by decide) (by decide) (by decide) ?_
      refine r_iloadN 21 dX10_person_20 rfl rfl ?_
      refine r_iconst 22 dX10_person_21 rfl ?_
      refine r_bipush 24 dX10_person_22 rfl (by decide) ?_
      refine r_cs3 27 dX10_person_24 rfl gX10_137 (Nat.le_of_ble_eq_true rfl) (Nat.le_of_ble_eq_true rfl) rfl ?_
      refine x_isWithin (by assumption) (by omega) (by omega) (fun y24 => ?_) (fun y24 => ?_)
      · refine r_ifeqF 30 dX10_person_27 rfl 41 (by decide) (by decide) (by decide) ?_
        refine r_iload 32 dX10_person_30 rfl rfl ?_
        refine r_iconst 33 dX10_person_32 rfl ?_
        refine r_bipush 35 dX10_person_33 rfl (by decide) ?_
        refine r_cs3 38 dX10_person_35 rfl gX10_137 (Nat.le_of_ble_eq_true rfl) (Nat.le_of_ble_eq_true rfl) rfl ?_
        refine x_isWithin (by assumption) (by omega) (by omega) (fun y35 => ?_) (fun y35 => ?_)
        · refine r_ifneT 48 0 dX10_person_38 (by decide) (by decide) (by decide) ?_
          refine r_aloadN 49 dX10_person_48 rfl rfl ?_
          refine r_getq 52 dX10_person_49 rfl fX10_26 (by decide) (sh_0 z _) rfl ?_
          refine r_geti 55 dX10_person_52 rfl fX10_141 (by decide) (sh_8 z _) rfl ?_
          refine r_bipush 57 dX10_person_55 rfl (by decide) ?_
          refine r_iclt 67 60 dX10_person_57 rfl (by decide) (by omega) (by omega) (fun h57 => ?_) (fun h57 => ?_)
          · refine r_aloadN 68 dX10_person_67 rfl rfl ?_
            refine r_getq 71 dX10_person_68 rfl fX10_26 (by decide) (sh_0 z _) rfl ?_
            refine r_iloadN 72 dX10_person_71 rfl rfl ?_
            refine r_iloadN 73 dX10_person_72 rfl rfl ?_
            refine r_iloadN 74 dX10_person_73 rfl rfl ?_
            refine r_iload 76 dX10_person_74 rfl rfl ?_
            refine r_iload 78 dX10_person_76 rfl rfl ?_
            refine r_cv5 81 dX10_person_78 rfl gX10_145 rfl (by decide) (sh_8 z _) rfl rfl (Nat.le_of_ble_eq_true rfl) (Nat.le_of_ble_eq_true rfl) rfl ?_
            refine x_addPerson (n := pn) (by omega) (by omega) hr01 ?_
            refine r_ret dX10_person_81 rfl (k _ ?_)
            unfold gPerson
            rw [if_neg (by omega), if_neg (by omega), if_neg (by omega), hpn]
          · refine r_aloadN 61 dX10_person_60 rfl rfl ?_
            refine r_bipush 63 dX10_person_61 rfl (by decide) ?_
            refine r_cv1 66 dX10_person_63 rfl gX10_60 rfl (by decide) (sh_0 z _) rfl rfl (Nat.le_of_ble_eq_true rfl) (Nat.le_of_ble_eq_true rfl) rfl ?_
            refine x_refuse (k0 := 7) (by decide) (by decide) ?_
            refine r_ret dX10_person_66 rfl (kb _ 7 (by decide) ?_)
            unfold gPerson
            rw [if_neg (by omega), if_neg (by omega), if_pos (by omega)]
        · refine r_ifneF 41 dX10_person_38 rfl 48 (by decide) (by decide) (by decide) ?_
          refine r_aloadN 42 dX10_person_41 rfl rfl ?_
          refine r_bipush 44 dX10_person_42 rfl (by decide) ?_
          refine r_cv1 47 dX10_person_44 rfl gX10_60 rfl (by decide) (sh_0 z _) rfl rfl (Nat.le_of_ble_eq_true rfl) (Nat.le_of_ble_eq_true rfl) rfl ?_
          refine x_refuse (k0 := 6) (by decide) (by decide) ?_
          refine r_ret dX10_person_47 rfl (kb _ 6 (by decide) ?_)
          unfold gPerson
          rw [if_neg (by omega), if_pos (by omega)]
      · refine r_ifeqT 41 0 dX10_person_27 (by decide) (by decide) (by decide) ?_
        refine r_aloadN 42 dX10_person_41 rfl rfl ?_
        refine r_bipush 44 dX10_person_42 rfl (by decide) ?_
        refine r_cv1 47 dX10_person_44 rfl gX10_60 rfl (by decide) (sh_0 z _) rfl rfl (Nat.le_of_ble_eq_true rfl) (Nat.le_of_ble_eq_true rfl) rfl ?_
        refine x_refuse (k0 := 6) (by decide) (by decide) ?_
        refine r_ret dX10_person_47 rfl (kb _ 6 (by decide) ?_)
        unfold gPerson
        rw [if_neg (by omega), if_pos (by omega)]
    · refine r_ifeqT 41 0 dX10_person_17 (by decide) (by decide) (by decide) ?_
      refine r_aloadN 42 dX10_person_41 rfl rfl ?_
      refine r_bipush 44 dX10_person_42 rfl (by decide) ?_
      refine r_cv1 47 dX10_person_44 rfl gX10_60 rfl (by decide) (sh_0 z _) rfl rfl (Nat.le_of_ble_eq_true rfl) (Nat.le_of_ble_eq_true rfl) rfl ?_
      refine x_refuse (k0 := 6) (by decide) (by decide) ?_
      refine r_ret dX10_person_47 rfl (kb _ 6 (by decide) ?_)
      unfold gPerson
      rw [if_neg (by omega), if_pos (by omega)]
  · refine r_ifneF 7 dX10_person_4 rfl 13 (by decide) (by decide) (by decide) ?_
    refine r_aloadN 8 dX10_person_7 rfl rfl ?_
    refine r_iconst 9 dX10_person_8 rfl ?_
    refine r_cv1 12 dX10_person_9 rfl gX10_60 rfl (by decide) (sh_0 z _) rfl rfl (Nat.le_of_ble_eq_true rfl) (Nat.le_of_ble_eq_true rfl) rfl ?_
    refine x_refuse (k0 := 1) (by decide) (by decide) ?_
    refine r_ret dX10_person_12 rfl (kb _ 1 (by decide) ?_)
    unfold gPerson
    rw [if_pos (by omega)]
