/-- what bars a row: a refusal, or 0 -/
def fBar (A : sA) (s : Int) : Int := if ¬ (0 ≤ s ∧ s ≤ 7) then -1 else if A 44 s.toNat = 2 then -2 else if A 44 s.toNat = 0 then -3 else 0
theorem x_bar {z : xZ} {d : Nat} {Q : tQ} {c : tC} {L : tL} {s : Int} (hg : MG c) (hS : SH c L) (hs : inR s) (k : ∀ r, r = fBar (c 51) s → Q (some (.int (iI r))) c L) : En z (d + 4) MX10_refusalOfRow Q 0 [some (.ref (xad z 0 0)), some (.int (iI s))] [] c L := by
  refine r_iloadN 1 dX10_refusalOfRow_0 rfl rfl ?_
  refine r_cs1 4 dX10_refusalOfRow_1 rfl gX10_56 (Nat.le_of_ble_eq_true rfl) (Nat.le_of_ble_eq_true rfl) rfl ?_
  refine x_isShelf (by assumption) (fun y1 => ?_) (fun y1 => ?_)
  · refine r_ifneT 9 0 dX10_refusalOfRow_4 (by decide) (by decide) (by decide) ?_
    obtain ⟨sh, hsh0⟩ := Int.eq_ofNat_of_zero_le (show 0 ≤ s by omega)
    subst hsh0
    have hi := SH_i hS sh (by omega)
    refine r_aloadN 10 dX10_refusalOfRow_9 rfl rfl ?_
    refine r_getq 13 dX10_refusalOfRow_10 rfl fX10_11 (by decide) (sh_0 z _) rfl ?_
    refine r_iloadN 14 dX10_refusalOfRow_13 rfl rfl ?_
    refine r_aald 15 dX10_refusalOfRow_14 (sh) rfl rfl (by decide) (sh_1 z _) rfl (by decide) (by omega) (by omega) ?_
    refine r_cv0 18 dX10_refusalOfRow_15 rfl gX10_78 rfl (ct_2 (by omega)) (sh_2 z _) rfl rfl (Nat.le_of_ble_eq_true rfl) (Nat.le_of_ble_eq_true rfl) rfl ?_
    refine x_holdsSource hg (s := sh) (by omega) hi (fun y15 => ?_) (fun y15 => ?_)
    · refine r_ifeqF 21 dX10_refusalOfRow_18 rfl 24 (by decide) (by decide) (by decide) ?_
      refine r_bipush 23 dX10_refusalOfRow_21 rfl (by decide) ?_
      refine r_ret dX10_refusalOfRow_23 rfl (k _ ?_)
      unfold fBar
      rw [if_neg (by omega), Int.toNat_natCast, if_pos y15]
    · refine r_ifeqT 24 0 dX10_refusalOfRow_18 (by decide) (by decide) (by decide) ?_
      refine r_aloadN 25 dX10_refusalOfRow_24 rfl rfl ?_
      refine r_getq 28 dX10_refusalOfRow_25 rfl fX10_11 (by decide) (sh_0 z _) rfl ?_
      refine r_iloadN 29 dX10_refusalOfRow_28 rfl rfl ?_
      refine r_aald 30 dX10_refusalOfRow_29 (sh) rfl rfl (by decide) (sh_1 z _) rfl (by decide) (by omega) (by omega) ?_
      refine r_cv0 33 dX10_refusalOfRow_30 rfl gX10_86 rfl (ct_2 (by omega)) (sh_2 z _) rfl rfl (Nat.le_of_ble_eq_true rfl) (Nat.le_of_ble_eq_true rfl) rfl ?_
      refine x_holdsNothing hg (s := sh) (by omega) hi (fun y30 => ?_) (fun y30 => ?_)
      · refine r_ifeqF 36 dX10_refusalOfRow_33 rfl 41 (by decide) (by decide) (by decide) ?_
        refine r_bipush 38 dX10_refusalOfRow_36 rfl (by decide) ?_
        refine r_goto 42 dX10_refusalOfRow_38 (by decide) ?_
        refine r_ret dX10_refusalOfRow_42 rfl (k _ ?_)
        unfold fBar
        first
          | (rw [if_neg (by omega), Int.toNat_natCast, if_neg y15, if_pos y30]; done)
          | (rw [if_neg (by omega), Int.toNat_natCast, if_neg y15, if_neg y30]; done)
      · refine r_ifeqT 41 0 dX10_refusalOfRow_33 (by decide) (by decide) (by decide) ?_
        refine r_iconst 42 dX10_refusalOfRow_41 rfl ?_
        refine r_ret dX10_refusalOfRow_42 rfl (k _ ?_)
        unfold fBar
        first
          | (rw [if_neg (by omega), Int.toNat_natCast, if_neg y15, if_pos y30]; done)
          | (rw [if_neg (by omega), Int.toNat_natCast, if_neg y15, if_neg y30]; done)
  · refine r_ifneF 7 dX10_refusalOfRow_4 rfl 9 (by decide) (by decide) (by decide) ?_
    refine r_iconst 8 dX10_refusalOfRow_7 rfl ?_
    refine r_ret dX10_refusalOfRow_8 rfl (k _ ?_)
    unfold fBar
    rw [if_pos (by omega)]
