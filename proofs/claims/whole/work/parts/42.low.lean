/-- what a row of a sort keeps of a number -/
def fLow (o : Int) (v : Int64) : Int64 := if o = 0 then v.toInt32.toInt8.toInt32.toInt64 else if o = 1 then v.toInt32.toInt16.toInt32.toInt64 else if o = 2 then v.toInt32.toInt64 else v
theorem x_low {z : xZ} {d : Nat} {Q : tQ} {c : tC} {L : tL} {s : Nat} {v : Int64} {o : Int} (hs : s < 8) (ho : 0 ≤ o ∧ o ≤ 3) (h0 : c 2 s 0 = 100 + o) (k : ∀ x, x = fLow o v → Q (some (.long x)) c L) : En z (d + 1) MX7_lowestBits Q 0 [some (.ref (xad z 2 s)), some (.long v), none] [] c L := by
  refine r_aloadN 1 dX7_lowestBits_0 rfl rfl ?_
  refine r_geti 4 dX7_lowestBits_1 rfl fX7_9 (ct_2 (by omega)) (sh_2 z _) rfl ?_
  refine r_bipush 6 dX7_lowestBits_4 rfl (by decide) ?_
  refine r_isub 7 dX7_lowestBits_6 rfl ?_
  rw [show c 2 s 0 - 100 = o by omega]
  rcases (show o = 0 ∨ o = 1 ∨ o = 2 ∨ ¬ (0 ≤ o ∧ o ≤ 2) by omega) with e9 | e9 | e9 | e9
  · refine r_tin (25) 32 dX7_lowestBits_7 (by omega) (by omega) (by omega) (by rw [e9]; rfl) (by decide) ?_
    refine r_lloadN 33 dX7_lowestBits_32 rfl rfl ?_
    refine r_l2iX 34 dX7_lowestBits_33 rfl ?_
    refine r_i2b 35 dX7_lowestBits_34 rfl ?_
    refine r_i2lR 36 dX7_lowestBits_35 rfl ?_
    refine r_lret dX7_lowestBits_36 rfl (k _ ?_)
    unfold fLow
    first
      | (rw [e9]; rfl)
      | (rw [if_neg (by omega), if_neg (by omega), if_neg (by omega)]; done)
  · refine r_tin (30) 37 dX7_lowestBits_7 (by omega) (by omega) (by omega) (by rw [e9]; rfl) (by decide) ?_
    refine r_lloadN 38 dX7_lowestBits_37 rfl rfl ?_
    refine r_l2iX 39 dX7_lowestBits_38 rfl ?_
    refine r_i2s 40 dX7_lowestBits_39 rfl ?_
    refine r_i2lR 41 dX7_lowestBits_40 rfl ?_
    refine r_lret dX7_lowestBits_41 rfl (k _ ?_)
    unfold fLow
    first
      | (rw [e9]; rfl)
      | (rw [if_neg (by omega), if_neg (by omega), if_neg (by omega)]; done)
  · refine r_tin (35) 42 dX7_lowestBits_7 (by omega) (by omega) (by omega) (by rw [e9]; rfl) (by decide) ?_
    refine r_lloadN 43 dX7_lowestBits_42 rfl rfl ?_
    refine r_l2iX 44 dX7_lowestBits_43 rfl ?_
    refine r_i2lR 45 dX7_lowestBits_44 rfl ?_
    refine r_lret dX7_lowestBits_45 rfl (k _ ?_)
    unfold fLow
    first
      | (rw [e9]; rfl)
      | (rw [if_neg (by omega), if_neg (by omega), if_neg (by omega)]; done)
  · refine r_tout 46 dX7_lowestBits_7 (by omega) (by omega) (by decide) ?_
    refine r_lloadN 47 dX7_lowestBits_46 rfl rfl ?_
    refine r_lret dX7_lowestBits_47 rfl (k _ ?_)
    unfold fLow
    first
      | (rw [e9]; rfl)
      | (rw [if_neg (by omega), if_neg (by omega), if_neg (by omega)]; done)
