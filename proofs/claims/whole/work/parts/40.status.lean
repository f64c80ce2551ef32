/-! trace, status -/
def TRC (c : tC) : Prop := c 33 0 4 = c 50 0 66 ∧ (0 ≤ c 50 0 66 ∧ c 50 0 66 ≤ 100) ∧ ∀ j : Nat, j < 20 → (j : Int) < c 50 0 66 → c 34 0 j = c 51 65 j
def RFS (c : tC) : Prop := ∀ k : Nat, 1 ≤ k → k ≤ 7 → c 35 0 k = c 51 10 k
def gTrace (S : sS) (A : sA) (i : Int) : gA := (if (0 ≤ i ∧ i < 20) ∧ i < S 66 then A 65 i.toNat else -1, 0)
def gStatus (S : sS) (A : sA) (w : Int) : gA := (if w = 0 then S 2 else if w = 1 then S 1 else if w = 2 then S 3 else if w = 3 then S 4 else if w = 4 then S 5 else if w = 5 then S 6 else if w = 6 then S 0 else if w = 7 then S 66 else if 11 ≤ w ∧ w ≤ 17 then A 10 (w - 10).toNat else -1, 0)
theorem x_bodyAt {z : xZ} {d : Nat} {Q : tQ} {c : tC} {L : tL} {i : Int} (hT : TRC c) (hi : inR i) (k : ∀ r, r = (gTrace (c 50 0) (c 51) i).1 → Q (some (.int (iI r))) c L) : En z (d + 1) MX0_bodyAt Q 0 [some (.ref (xad z 33 0)), some (.int (iI i))] [] c L := by
  obtain ⟨t1, t2, t3⟩ := hT
  have hi1 := hi.1
  have hi2 := hi.2
  refine r_iloadN 1 dX0_bodyAt_0 rfl rfl ?_
  refine r_iflt 27 4 dX0_bodyAt_1 rfl (by decide) (by omega) (fun h1 => ?_) (fun h1 => ?_)
  · refine r_iconst 28 dX0_bodyAt_27 rfl ?_
    refine r_ret dX0_bodyAt_28 rfl (k _ ?_)
    unfold gTrace
    first
      | (rw [if_neg (by omega)]; done)
      | (rw [if_pos (by omega), Int.toNat_natCast]; exact t3 i0 (by omega) (by omega))
  · refine r_iloadN 5 dX0_bodyAt_4 rfl rfl ?_
    refine r_aloadN 6 dX0_bodyAt_5 rfl rfl ?_
    refine r_geti 9 dX0_bodyAt_6 rfl fX0_25 (by decide) (sh_33 z _) rfl ?_
    refine r_icge 27 12 dX0_bodyAt_9 rfl (by decide) (by omega) (by omega) (fun h9 => ?_) (fun h9 => ?_)
    · refine r_iconst 28 dX0_bodyAt_27 rfl ?_
      refine r_ret dX0_bodyAt_28 rfl (k _ ?_)
      unfold gTrace
      first
        | (rw [if_neg (by omega)]; done)
        | (rw [if_pos (by omega), Int.toNat_natCast]; exact t3 i0 (by omega) (by omega))
    · refine r_iloadN 13 dX0_bodyAt_12 rfl rfl ?_
      refine r_bipush 15 dX0_bodyAt_13 rfl (by decide) ?_
      refine r_icge 27 18 dX0_bodyAt_15 rfl (by decide) (by omega) (by omega) (fun h15 => ?_) (fun h15 => ?_)
      · refine r_iconst 28 dX0_bodyAt_27 rfl ?_
        refine r_ret dX0_bodyAt_28 rfl (k _ ?_)
        unfold gTrace
        first
          | (rw [if_neg (by omega)]; done)
          | (rw [if_pos (by omega), Int.toNat_natCast]; exact t3 i0 (by omega) (by omega))
      · obtain ⟨i0, hi00⟩ := Int.eq_ofNat_of_zero_le (show 0 ≤ i by omega)
        subst hi00
        refine r_aloadN 19 dX0_bodyAt_18 rfl rfl ?_
        refine r_getq 22 dX0_bodyAt_19 rfl fX0_9 (by decide) (sh_33 z _) rfl ?_
        refine r_iloadN 23 dX0_bodyAt_22 rfl rfl ?_
        refine r_iald 24 dX0_bodyAt_23 (i0) rfl rfl (by decide) (sh_34 z _) (by decide) (by omega) (by omega) ?_
        refine r_goto 28 dX0_bodyAt_24 (by decide) ?_
        refine r_ret dX0_bodyAt_28 rfl (k _ ?_)
        unfold gTrace
        first
          | (rw [if_neg (by omega)]; done)
          | (rw [if_pos (by omega), Int.toNat_natCast]; exact t3 i0 (by omega) (by omega))
theorem x_trace {z : xZ} {d : Nat} {Q : tQ} {c : tC} {L : tL} {i : Int} (hT : TRC c) (hi : inR i) (k : ∀ r w, (r, w) = gTrace (c 50 0) (c 51) i → Q (some (.int (iI r))) (xRe c w) L) : En z (d + 20) MX10_trace Q 0 [some (.ref (xad z 0 0)), some (.int (iI i))] [] c L := by
  have i1 := hi.1
  have i2 := hi.2
  refine r_aloadN 1 dX10_trace_0 rfl rfl ?_
  refine r_getq 4 dX10_trace_1 rfl fX10_43 (by decide) (sh_0 z _) rfl ?_
  refine r_iloadN 5 dX10_trace_4 rfl rfl ?_
  refine r_cv1 8 dX10_trace_5 rfl gX10_358 rfl (by decide) (sh_33 z _) rfl rfl (Nat.le_of_ble_eq_true rfl) (Nat.le_of_ble_eq_true rfl) rfl ?_
  refine x_bodyAt hT (by assumption) (fun r5 e5 => ?_)
  refine r_ret dX10_trace_8 rfl (k _ 0 ?_)
  rw [e5]
  rfl
theorem m_trace {z : xZ} {d : Nat} {Q : tQ} {c : tC} {L : tL} {i : Int} (hT : TRC c) (hi : inR i) (k : ∀ r w, (r, w) = gTrace (c 50 0) (c 51) i → Q (some (.int (iI r))) (mRe c w) L) : En z (d + 20) MX11_trace Q 0 [some (.ref (xad z 50 0)), some (.int (iI i))] [] c L := by
  have i1 := hi.1
  have i2 := hi.2
  obtain ⟨t1, t2, t3⟩ := hT
  refine r_iloadN 1 dX11_trace_0 rfl rfl ?_
  refine r_iflt 27 4 dX11_trace_1 rfl (by decide) (by omega) (fun h1 => ?_) (fun h1 => ?_)
  · refine r_iconst 28 dX11_trace_27 rfl ?_
    refine r_ret dX11_trace_28 rfl (k _ 0 ?_)
    unfold gTrace
    first
      | (rw [if_neg (by omega)]; done)
      | (rw [if_pos (by omega), Int.toNat_natCast]; done)
  · refine r_iloadN 5 dX11_trace_4 rfl rfl ?_
    refine r_bipush 7 dX11_trace_5 rfl (by decide) ?_
    refine r_icge 27 10 dX11_trace_7 rfl (by decide) (by omega) (by omega) (fun h7 => ?_) (fun h7 => ?_)
    · refine r_iconst 28 dX11_trace_27 rfl ?_
      refine r_ret dX11_trace_28 rfl (k _ 0 ?_)
      unfold gTrace
      first
        | (rw [if_neg (by omega)]; done)
        | (rw [if_pos (by omega), Int.toNat_natCast]; done)
    · refine r_iloadN 11 dX11_trace_10 rfl rfl ?_
      refine r_aloadN 12 dX11_trace_11 rfl rfl ?_
      refine r_geti 15 dX11_trace_12 rfl fX11_351 (by decide) (sh_50 z _) rfl ?_
      refine r_icge 27 18 dX11_trace_15 rfl (by decide) (by omega) (by omega) (fun h15 => ?_) (fun h15 => ?_)
      · refine r_iconst 28 dX11_trace_27 rfl ?_
        refine r_ret dX11_trace_28 rfl (k _ 0 ?_)
        unfold gTrace
        first
          | (rw [if_neg (by omega)]; done)
          | (rw [if_pos (by omega), Int.toNat_natCast]; done)
      · obtain ⟨i0, hi00⟩ := Int.eq_ofNat_of_zero_le (show 0 ≤ i by omega)
        subst hi00
        refine r_aloadN 19 dX11_trace_18 rfl rfl ?_
        refine r_getq 22 dX11_trace_19 rfl fX11_162 (by decide) (sh_50 z _) rfl ?_
        refine r_iloadN 23 dX11_trace_22 rfl rfl ?_
        refine r_iald (n := 20) 24 dX11_trace_23 (i0) rfl rfl (by decide) (sh_51 z _) (by decide) (by omega) (by omega) ?_
        refine r_goto 28 dX11_trace_24 (by decide) ?_
        refine r_ret dX11_trace_28 rfl (k _ 0 ?_)
        unfold gTrace
        first
          | (rw [if_neg (by omega)]; done)
          | (rw [if_pos (by omega), Int.toNat_natCast]; done)
theorem x_status {z : xZ} {d : Nat} {Q : tQ} {c : tC} {L : tL} {v : Int} (hR : RX c) (hT : TRC c) (hF : RFS c) (hv : inR v) (k : ∀ r w, (r, w) = gStatus (c 50 0) (c 51) v → Q (some (.int (iI r))) (xRe c w) L) : En z (d + 20) MX10_status Q 0 [some (.ref (xad z 0 0)), some (.int (iI v))] [] c L := by
  have v1 := hv.1
  have v2 := hv.2
  have hc := R0_scal hR
  obtain ⟨t1, t2, t3⟩ := hT
  refine r_iloadN 1 dX10_status_0 rfl rfl ?_
  rcases (show v = 0 ∨ v = 1 ∨ v = 2 ∨ v = 3 ∨ v = 4 ∨ v = 5 ∨ v = 6 ∨ v = 7 ∨ ¬ (0 ≤ v ∧ v ≤ 7) by omega) with e9 | e9 | e9 | e9 | e9 | e9 | e9 | e9 | e9
  · refine r_tin (47) 48 dX10_status_1 (by omega) (by omega) (by omega) (by rw [e9]; rfl) (by decide) ?_
    refine r_aloadN 49 dX10_status_48 rfl rfl ?_
    refine r_getq 52 dX10_status_49 rfl fX10_26 (by decide) (sh_0 z _) rfl ?_
    refine r_geti 55 dX10_status_52 rfl fX10_161 (by decide) (sh_8 z _) rfl ?_
    refine r_ret dX10_status_55 rfl (k _ 0 ?_)
    unfold gStatus
    first
      | (exfalso; omega)
      | (rw [e9]; simp; done)
      | (rw [e9]; simp; omega)
      | (rw [if_neg (by omega), if_neg (by omega), if_neg (by omega), if_neg (by omega), if_neg (by omega), if_neg (by omega), if_neg (by omega), if_neg (by omega)]; first
          | (rw [if_neg (by omega)]; done)
          | (rw [if_pos (by omega), ← hv0, Int.toNat_natCast]; first
              | (rw [hF v0 (by omega) (by omega)]; done)
              | rfl
              | done))
  · refine r_tin (55) 56 dX10_status_1 (by omega) (by omega) (by omega) (by rw [e9]; rfl) (by decide) ?_
    refine r_aloadN 57 dX10_status_56 rfl rfl ?_
    refine r_getq 60 dX10_status_57 rfl fX10_26 (by decide) (sh_0 z _) rfl ?_
    refine r_geti 63 dX10_status_60 rfl fX10_141 (by decide) (sh_8 z _) rfl ?_
    refine r_ret dX10_status_63 rfl (k _ 0 ?_)
    unfold gStatus
    first
      | (exfalso; omega)
      | (rw [e9]; simp; done)
      | (rw [e9]; simp; omega)
      | (rw [if_neg (by omega), if_neg (by omega), if_neg (by omega), if_neg (by omega), if_neg (by omega), if_neg (by omega), if_neg (by omega), if_neg (by omega)]; first
          | (rw [if_neg (by omega)]; done)
          | (rw [if_pos (by omega), ← hv0, Int.toNat_natCast]; first
              | (rw [hF v0 (by omega) (by omega)]; done)
              | rfl
              | done))
  · refine r_tin (63) 64 dX10_status_1 (by omega) (by omega) (by omega) (by rw [e9]; rfl) (by decide) ?_
    refine r_aloadN 65 dX10_status_64 rfl rfl ?_
    refine r_getq 68 dX10_status_65 rfl fX10_26 (by decide) (sh_0 z _) rfl ?_
    refine r_getq 71 dX10_status_68 rfl fX10_256 (by decide) (sh_8 z _) rfl ?_
    refine r_geti 74 dX10_status_71 rfl fX10_260 (by decide) (sh_16 z _) rfl ?_
    refine r_ret dX10_status_74 rfl (k _ 0 ?_)
    unfold gStatus
    first
      | (exfalso; omega)
      | (rw [e9]; simp; done)
      | (rw [e9]; simp; omega)
      | (rw [if_neg (by omega), if_neg (by omega), if_neg (by omega), if_neg (by omega), if_neg (by omega), if_neg (by omega), if_neg (by omega), if_neg (by omega)]; first
          | (rw [if_neg (by omega)]; done)
          | (rw [if_pos (by omega), ← hv0, Int.toNat_natCast]; first
              | (rw [hF v0 (by omega) (by omega)]; done)
              | rfl
              | done))
  · refine r_tin (74) 75 dX10_status_1 (by omega) (by omega) (by omega) (by rw [e9]; rfl) (by decide) ?_
    refine r_aloadN 76 dX10_status_75 rfl rfl ?_
    refine r_getq 79 dX10_status_76 rfl fX10_26 (by decide) (sh_0 z _) rfl ?_
    refine r_getq 82 dX10_status_79 rfl fX10_256 (by decide) (sh_8 z _) rfl ?_
    refine r_geti 85 dX10_status_82 rfl fX10_275 (by decide) (sh_16 z _) rfl ?_
    refine r_ret dX10_status_85 rfl (k _ 0 ?_)
    unfold gStatus
    first
      | (exfalso; omega)
      | (rw [e9]; simp; done)
      | (rw [e9]; simp; omega)
      | (rw [if_neg (by omega), if_neg (by omega), if_neg (by omega), if_neg (by omega), if_neg (by omega), if_neg (by omega), if_neg (by omega), if_neg (by omega)]; first
          | (rw [if_neg (by omega)]; done)
          | (rw [if_pos (by omega), ← hv0, Int.toNat_natCast]; first
              | (rw [hF v0 (by omega) (by omega)]; done)
              | rfl
              | done))
  · refine r_tin (85) 86 dX10_status_1 (by omega) (by omega) (by omega) (by rw [e9]; rfl) (by decide) ?_
    refine r_aloadN 87 dX10_status_86 rfl rfl ?_
    refine r_getq 90 dX10_status_87 rfl fX10_26 (by decide) (sh_0 z _) rfl ?_
    refine r_getq 93 dX10_status_90 rfl fX10_281 (by decide) (sh_8 z _) rfl ?_
    refine r_geti 96 dX10_status_93 rfl fX10_285 (by decide) (sh_21 z _) rfl ?_
    refine r_ret dX10_status_96 rfl (k _ 0 ?_)
    unfold gStatus
    first
      | (exfalso; omega)
      | (rw [e9]; simp; done)
      | (rw [e9]; simp; omega)
      | (rw [if_neg (by omega), if_neg (by omega), if_neg (by omega), if_neg (by omega), if_neg (by omega), if_neg (by omega), if_neg (by omega), if_neg (by omega)]; first
          | (rw [if_neg (by omega)]; done)
          | (rw [if_pos (by omega), ← hv0, Int.toNat_natCast]; first
              | (rw [hF v0 (by omega) (by omega)]; done)
              | rfl
              | done))
  · refine r_tin (96) 97 dX10_status_1 (by omega) (by omega) (by omega) (by rw [e9]; rfl) (by decide) ?_
    refine r_aloadN 98 dX10_status_97 rfl rfl ?_
    refine r_getq 101 dX10_status_98 rfl fX10_26 (by decide) (sh_0 z _) rfl ?_
    refine r_geti 104 dX10_status_101 rfl fX10_221 (by decide) (sh_8 z _) rfl ?_
    refine r_ret dX10_status_104 rfl (k _ 0 ?_)
    unfold gStatus
    first
      | (exfalso; omega)
      | (rw [e9]; simp; done)
      | (rw [e9]; simp; omega)
      | (rw [if_neg (by omega), if_neg (by omega), if_neg (by omega), if_neg (by omega), if_neg (by omega), if_neg (by omega), if_neg (by omega), if_neg (by omega)]; first
          | (rw [if_neg (by omega)]; done)
          | (rw [if_pos (by omega), ← hv0, Int.toNat_natCast]; first
              | (rw [hF v0 (by omega) (by omega)]; done)
              | rfl
              | done))
  · refine r_tin (104) 105 dX10_status_1 (by omega) (by omega) (by omega) (by rw [e9]; rfl) (by decide) ?_
    refine r_aloadN 106 dX10_status_105 rfl rfl ?_
    refine r_getq 109 dX10_status_106 rfl fX10_26 (by decide) (sh_0 z _) rfl ?_
    refine r_geti 112 dX10_status_109 rfl fX10_192 (by decide) (sh_8 z _) rfl ?_
    refine r_ret dX10_status_112 rfl (k _ 0 ?_)
    unfold gStatus
    first
      | (exfalso; omega)
      | (rw [e9]; simp; done)
      | (rw [e9]; simp; omega)
      | (rw [if_neg (by omega), if_neg (by omega), if_neg (by omega), if_neg (by omega), if_neg (by omega), if_neg (by omega), if_neg (by omega), if_neg (by omega)]; first
          | (rw [if_neg (by omega)]; done)
          | (rw [if_pos (by omega), ← hv0, Int.toNat_natCast]; first
              | (rw [hF v0 (by omega) (by omega)]; done)
              | rfl
              | done))
  · refine r_tin (112) 113 dX10_status_1 (by omega) (by omega) (by omega) (by rw [e9]; rfl) (by decide) ?_
    refine r_aloadN 114 dX10_status_113 rfl rfl ?_
    refine r_getq 117 dX10_status_114 rfl fX10_43 (by decide) (sh_0 z _) rfl ?_
    refine r_geti 120 dX10_status_117 rfl fX10_365 (by decide) (sh_33 z _) rfl ?_
    refine r_ret dX10_status_120 rfl (k _ 0 ?_)
    unfold gStatus
    first
      | (exfalso; omega)
      | (rw [e9]; simp; done)
      | (rw [e9]; simp; omega)
      | (rw [if_neg (by omega), if_neg (by omega), if_neg (by omega), if_neg (by omega), if_neg (by omega), if_neg (by omega), if_neg (by omega), if_neg (by omega)]; first
          | (rw [if_neg (by omega)]; done)
          | (rw [if_pos (by omega), ← hv0, Int.toNat_natCast]; first
              | (rw [hF v0 (by omega) (by omega)]; done)
              | rfl
              | done))
  · refine r_tout 121 dX10_status_1 (by omega) (by omega) (by decide) ?_
    refine r_iloadN 122 dX10_status_121 rfl rfl ?_
    refine r_bipush 124 dX10_status_122 rfl (by decide) ?_
    refine r_bipush 126 dX10_status_124 rfl (by decide) ?_
    refine r_cs3 129 dX10_status_126 rfl gX10_137 (Nat.le_of_ble_eq_true rfl) (Nat.le_of_ble_eq_true rfl) rfl ?_
    refine x_isWithin (by assumption) (by omega) (by omega) (fun y126 => ?_) (fun y126 => ?_)
    · refine r_ifeqF 132 dX10_status_129 rfl 144 (by decide) (by decide) (by decide) ?_
      refine r_aloadN 133 dX10_status_132 rfl rfl ?_
      refine r_getq 136 dX10_status_133 rfl fX10_47 (by decide) (sh_0 z _) rfl ?_
      refine r_iloadN 137 dX10_status_136 rfl rfl ?_
      refine r_bipush 139 dX10_status_137 rfl (by decide) ?_
      refine r_isub 140 dX10_status_139 rfl ?_
      obtain ⟨v0, hv0⟩ := Int.eq_ofNat_of_zero_le (show 0 ≤ v - 10 by omega)
      rw [hv0]
      have hv0 := hv0.symm
      refine r_iald 141 dX10_status_140 (v0) rfl rfl (by decide) (sh_35 z _) (by decide) (by omega) (by omega) ?_
      refine r_goto 145 dX10_status_141 (by decide) ?_
      refine r_ret dX10_status_145 rfl (k _ 0 ?_)
      unfold gStatus
      first
        | (exfalso; omega)
        | (rw [e9]; simp; done)
        | (rw [e9]; simp; omega)
        | (rw [if_neg (by omega), if_neg (by omega), if_neg (by omega), if_neg (by omega), if_neg (by omega), if_neg (by omega), if_neg (by omega), if_neg (by omega)]; first
            | (rw [if_neg (by omega)]; done)
            | (rw [if_pos (by omega), ← hv0, Int.toNat_natCast]; first
                | (rw [hF v0 (by omega) (by omega)]; done)
                | rfl
                | done))
    · refine r_ifeqT 144 0 dX10_status_129 (by decide) (by decide) (by decide) ?_
      refine r_iconst 145 dX10_status_144 rfl ?_
      refine r_ret dX10_status_145 rfl (k _ 0 ?_)
      unfold gStatus
      first
        | (exfalso; omega)
        | (rw [e9]; simp; done)
        | (rw [e9]; simp; omega)
        | (rw [if_neg (by omega), if_neg (by omega), if_neg (by omega), if_neg (by omega), if_neg (by omega), if_neg (by omega), if_neg (by omega), if_neg (by omega)]; first
            | (rw [if_neg (by omega)]; done)
            | (rw [if_pos (by omega), ← hv0, Int.toNat_natCast]; first
                | (rw [hF v0 (by omega) (by omega)]; done)
                | rfl
                | done))
theorem m_status {z : xZ} {d : Nat} {Q : tQ} {c : tC} {L : tL} {v : Int}  (hv : inR v) (k : ∀ r w, (r, w) = gStatus (c 50 0) (c 51) v → Q (some (.int (iI r))) (mRe c w) L) : En z (d + 20) MX11_status Q 0 [some (.ref (xad z 50 0)), some (.int (iI v))] [] c L := by
  have v1 := hv.1
  have v2 := hv.2
  refine r_iloadN 1 dX11_status_0 rfl rfl ?_
  refine r_bipush 3 dX11_status_1 rfl (by decide) ?_
  refine r_iclt 22 6 dX11_status_3 rfl (by decide) (by omega) (by omega) (fun h3 => ?_) (fun h3 => ?_)
  · refine r_iloadN 23 dX11_status_22 rfl rfl ?_
    rcases (show v = 0 ∨ v = 1 ∨ v = 2 ∨ v = 3 ∨ v = 4 ∨ v = 5 ∨ v = 6 ∨ v = 7 ∨ ¬ (0 ≤ v ∧ v ≤ 7) by omega) with e9 | e9 | e9 | e9 | e9 | e9 | e9 | e9 | e9
    · refine r_tin (45) 68 dX11_status_23 (by omega) (by omega) (by omega) (by rw [e9]; rfl) (by decide) ?_
      refine r_aloadN 69 dX11_status_68 rfl rfl ?_
      refine r_geti 72 dX11_status_69 rfl fX11_174 (by decide) (sh_50 z _) rfl ?_
      refine r_ret dX11_status_72 rfl (k _ 0 ?_)
      unfold gStatus
      first
        | (exfalso; omega)
        | (rw [e9]; simp; done)
        | (rw [e9]; simp; omega)
        | (rw [if_neg (by omega), if_neg (by omega), if_neg (by omega), if_neg (by omega), if_neg (by omega), if_neg (by omega), if_neg (by omega), if_neg (by omega)]; first
            | (rw [if_neg (by omega)]; done)
            | (rw [if_pos (by omega), ← hv0, Int.toNat_natCast]; done))
    · refine r_tin (50) 73 dX11_status_23 (by omega) (by omega) (by omega) (by rw [e9]; rfl) (by decide) ?_
      refine r_aloadN 74 dX11_status_73 rfl rfl ?_
      refine r_geti 77 dX11_status_74 rfl fX11_171 (by decide) (sh_50 z _) rfl ?_
      refine r_ret dX11_status_77 rfl (k _ 0 ?_)
      unfold gStatus
      first
        | (exfalso; omega)
        | (rw [e9]; simp; done)
        | (rw [e9]; simp; omega)
        | (rw [if_neg (by omega), if_neg (by omega), if_neg (by omega), if_neg (by omega), if_neg (by omega), if_neg (by omega), if_neg (by omega), if_neg (by omega)]; first
            | (rw [if_neg (by omega)]; done)
            | (rw [if_pos (by omega), ← hv0, Int.toNat_natCast]; done))
    · refine r_tin (55) 78 dX11_status_23 (by omega) (by omega) (by omega) (by rw [e9]; rfl) (by decide) ?_
      refine r_aloadN 79 dX11_status_78 rfl rfl ?_
      refine r_geti 82 dX11_status_79 rfl fX11_303 (by decide) (sh_50 z _) rfl ?_
      refine r_ret dX11_status_82 rfl (k _ 0 ?_)
      unfold gStatus
      first
        | (exfalso; omega)
        | (rw [e9]; simp; done)
        | (rw [e9]; simp; omega)
        | (rw [if_neg (by omega), if_neg (by omega), if_neg (by omega), if_neg (by omega), if_neg (by omega), if_neg (by omega), if_neg (by omega), if_neg (by omega)]; first
            | (rw [if_neg (by omega)]; done)
            | (rw [if_pos (by omega), ← hv0, Int.toNat_natCast]; done))
    · refine r_tin (60) 83 dX11_status_23 (by omega) (by omega) (by omega) (by rw [e9]; rfl) (by decide) ?_
      refine r_aloadN 84 dX11_status_83 rfl rfl ?_
      refine r_geti 87 dX11_status_84 rfl fX11_316 (by decide) (sh_50 z _) rfl ?_
      refine r_ret dX11_status_87 rfl (k _ 0 ?_)
      unfold gStatus
      first
        | (exfalso; omega)
        | (rw [e9]; simp; done)
        | (rw [e9]; simp; omega)
        | (rw [if_neg (by omega), if_neg (by omega), if_neg (by omega), if_neg (by omega), if_neg (by omega), if_neg (by omega), if_neg (by omega), if_neg (by omega)]; first
            | (rw [if_neg (by omega)]; done)
            | (rw [if_pos (by omega), ← hv0, Int.toNat_natCast]; done))
    · refine r_tin (65) 88 dX11_status_23 (by omega) (by omega) (by omega) (by rw [e9]; rfl) (by decide) ?_
      refine r_aloadN 89 dX11_status_88 rfl rfl ?_
      refine r_geti 92 dX11_status_89 rfl fX11_319 (by decide) (sh_50 z _) rfl ?_
      refine r_ret dX11_status_92 rfl (k _ 0 ?_)
      unfold gStatus
      first
        | (exfalso; omega)
        | (rw [e9]; simp; done)
        | (rw [e9]; simp; omega)
        | (rw [if_neg (by omega), if_neg (by omega), if_neg (by omega), if_neg (by omega), if_neg (by omega), if_neg (by omega), if_neg (by omega), if_neg (by omega)]; first
            | (rw [if_neg (by omega)]; done)
            | (rw [if_pos (by omega), ← hv0, Int.toNat_natCast]; done))
    · refine r_tin (70) 93 dX11_status_23 (by omega) (by omega) (by omega) (by rw [e9]; rfl) (by decide) ?_
      refine r_aloadN 94 dX11_status_93 rfl rfl ?_
      refine r_geti 97 dX11_status_94 rfl fX11_257 (by decide) (sh_50 z _) rfl ?_
      refine r_ret dX11_status_97 rfl (k _ 0 ?_)
      unfold gStatus
      first
        | (exfalso; omega)
        | (rw [e9]; simp; done)
        | (rw [e9]; simp; omega)
        | (rw [if_neg (by omega), if_neg (by omega), if_neg (by omega), if_neg (by omega), if_neg (by omega), if_neg (by omega), if_neg (by omega), if_neg (by omega)]; first
            | (rw [if_neg (by omega)]; done)
            | (rw [if_pos (by omega), ← hv0, Int.toNat_natCast]; done))
    · refine r_tin (75) 98 dX11_status_23 (by omega) (by omega) (by omega) (by rw [e9]; rfl) (by decide) ?_
      refine r_aloadN 99 dX11_status_98 rfl rfl ?_
      refine r_geti 102 dX11_status_99 rfl fX11_200 (by decide) (sh_50 z _) rfl ?_
      refine r_ret dX11_status_102 rfl (k _ 0 ?_)
      unfold gStatus
      first
        | (exfalso; omega)
        | (rw [e9]; simp; done)
        | (rw [e9]; simp; omega)
        | (rw [if_neg (by omega), if_neg (by omega), if_neg (by omega), if_neg (by omega), if_neg (by omega), if_neg (by omega), if_neg (by omega), if_neg (by omega)]; first
            | (rw [if_neg (by omega)]; done)
            | (rw [if_pos (by omega), ← hv0, Int.toNat_natCast]; done))
    · refine r_tin (80) 103 dX11_status_23 (by omega) (by omega) (by omega) (by rw [e9]; rfl) (by decide) ?_
      refine r_aloadN 104 dX11_status_103 rfl rfl ?_
      refine r_geti 107 dX11_status_104 rfl fX11_351 (by decide) (sh_50 z _) rfl ?_
      refine r_ret dX11_status_107 rfl (k _ 0 ?_)
      unfold gStatus
      first
        | (exfalso; omega)
        | (rw [e9]; simp; done)
        | (rw [e9]; simp; omega)
        | (rw [if_neg (by omega), if_neg (by omega), if_neg (by omega), if_neg (by omega), if_neg (by omega), if_neg (by omega), if_neg (by omega), if_neg (by omega)]; first
            | (rw [if_neg (by omega)]; done)
            | (rw [if_pos (by omega), ← hv0, Int.toNat_natCast]; done))
    · refine r_tout 108 dX11_status_23 (by omega) (by omega) (by decide) ?_
      refine r_iconst 109 dX11_status_108 rfl ?_
      refine r_ret dX11_status_109 rfl (k _ 0 ?_)
      unfold gStatus
      first
        | (exfalso; omega)
        | (rw [e9]; simp; done)
        | (rw [e9]; simp; omega)
        | (rw [if_neg (by omega), if_neg (by omega), if_neg (by omega), if_neg (by omega), if_neg (by omega), if_neg (by omega), if_neg (by omega), if_neg (by omega)]; first
            | (rw [if_neg (by omega)]; done)
            | (rw [if_pos (by omega), ← hv0, Int.toNat_natCast]; done))
  · refine r_iloadN 7 dX11_status_6 rfl rfl ?_
    refine r_bipush 9 dX11_status_7 rfl (by decide) ?_
    refine r_icgt 22 12 dX11_status_9 rfl (by decide) (by omega) (by omega) (fun h9 => ?_) (fun h9 => ?_)
    · refine r_iloadN 23 dX11_status_22 rfl rfl ?_
      rcases (show v = 0 ∨ v = 1 ∨ v = 2 ∨ v = 3 ∨ v = 4 ∨ v = 5 ∨ v = 6 ∨ v = 7 ∨ ¬ (0 ≤ v ∧ v ≤ 7) by omega) with e9 | e9 | e9 | e9 | e9 | e9 | e9 | e9 | e9
      · refine r_tin (45) 68 dX11_status_23 (by omega) (by omega) (by omega) (by rw [e9]; rfl) (by decide) ?_
        refine r_aloadN 69 dX11_status_68 rfl rfl ?_
        refine r_geti 72 dX11_status_69 rfl fX11_174 (by decide) (sh_50 z _) rfl ?_
        refine r_ret dX11_status_72 rfl (k _ 0 ?_)
        unfold gStatus
        first
          | (exfalso; omega)
          | (rw [e9]; simp; done)
          | (rw [e9]; simp; omega)
          | (rw [if_neg (by omega), if_neg (by omega), if_neg (by omega), if_neg (by omega), if_neg (by omega), if_neg (by omega), if_neg (by omega), if_neg (by omega)]; first
              | (rw [if_neg (by omega)]; done)
              | (rw [if_pos (by omega), ← hv0, Int.toNat_natCast]; done))
      · refine r_tin (50) 73 dX11_status_23 (by omega) (by omega) (by omega) (by rw [e9]; rfl) (by decide) ?_
        refine r_aloadN 74 dX11_status_73 rfl rfl ?_
        refine r_geti 77 dX11_status_74 rfl fX11_171 (by decide) (sh_50 z _) rfl ?_
        refine r_ret dX11_status_77 rfl (k _ 0 ?_)
        unfold gStatus
        first
          | (exfalso; omega)
          | (rw [e9]; simp; done)
          | (rw [e9]; simp; omega)
          | (rw [if_neg (by omega), if_neg (by omega), if_neg (by omega), if_neg (by omega), if_neg (by omega), if_neg (by omega), if_neg (by omega), if_neg (by omega)]; first
              | (rw [if_neg (by omega)]; done)
              | (rw [if_pos (by omega), ← hv0, Int.toNat_natCast]; done))
      · refine r_tin (55) 78 dX11_status_23 (by omega) (by omega) (by omega) (by rw [e9]; rfl) (by decide) ?_
        refine r_aloadN 79 dX11_status_78 rfl rfl ?_
        refine r_geti 82 dX11_status_79 rfl fX11_303 (by decide) (sh_50 z _) rfl ?_
        refine r_ret dX11_status_82 rfl (k _ 0 ?_)
        unfold gStatus
        first
          | (exfalso; omega)
          | (rw [e9]; simp; done)
          | (rw [e9]; simp; omega)
          | (rw [if_neg (by omega), if_neg (by omega), if_neg (by omega), if_neg (by omega), if_neg (by omega), if_neg (by omega), if_neg (by omega), if_neg (by omega)]; first
              | (rw [if_neg (by omega)]; done)
              | (rw [if_pos (by omega), ← hv0, Int.toNat_natCast]; done))
      · refine r_tin (60) 83 dX11_status_23 (by omega) (by omega) (by omega) (by rw [e9]; rfl) (by decide) ?_
        refine r_aloadN 84 dX11_status_83 rfl rfl ?_
        refine r_geti 87 dX11_status_84 rfl fX11_316 (by decide) (sh_50 z _) rfl ?_
        refine r_ret dX11_status_87 rfl (k _ 0 ?_)
        unfold gStatus
        first
          | (exfalso; omega)
          | (rw [e9]; simp; done)
          | (rw [e9]; simp; omega)
          | (rw [if_neg (by omega), if_neg (by omega), if_neg (by omega), if_neg (by omega), if_neg (by omega), if_neg (by omega), if_neg (by omega), if_neg (by omega)]; first
              | (rw [if_neg (by omega)]; done)
              | (rw [if_pos (by omega), ← hv0, Int.toNat_natCast]; done))
      · refine r_tin (65) 88 dX11_status_23 (by omega) (by omega) (by omega) (by rw [e9]; rfl) (by decide) ?_
        refine r_aloadN 89 dX11_status_88 rfl rfl ?_
        refine r_geti 92 dX11_status_89 rfl fX11_319 (by decide) (sh_50 z _) rfl ?_
        refine r_ret dX11_status_92 rfl (k _ 0 ?_)
        unfold gStatus
        first
          | (exfalso; omega)
          | (rw [e9]; simp; done)
          | (rw [e9]; simp; omega)
          | (rw [if_neg (by omega), if_neg (by omega), if_neg (by omega), if_neg (by omega), if_neg (by omega), if_neg (by omega), if_neg (by omega), if_neg (by omega)]; first
              | (rw [if_neg (by omega)]; done)
              | (rw [if_pos (by omega), ← hv0, Int.toNat_natCast]; done))
      · refine r_tin (70) 93 dX11_status_23 (by omega) (by omega) (by omega) (by rw [e9]; rfl) (by decide) ?_
        refine r_aloadN 94 dX11_status_93 rfl rfl ?_
        refine r_geti 97 dX11_status_94 rfl fX11_257 (by decide) (sh_50 z _) rfl ?_
        refine r_ret dX11_status_97 rfl (k _ 0 ?_)
        unfold gStatus
        first
          | (exfalso; omega)
          | (rw [e9]; simp; done)
          | (rw [e9]; simp; omega)
          | (rw [if_neg (by omega), if_neg (by omega), if_neg (by omega), if_neg (by omega), if_neg (by omega), if_neg (by omega), if_neg (by omega), if_neg (by omega)]; first
              | (rw [if_neg (by omega)]; done)
              | (rw [if_pos (by omega), ← hv0, Int.toNat_natCast]; done))
      · refine r_tin (75) 98 dX11_status_23 (by omega) (by omega) (by omega) (by rw [e9]; rfl) (by decide) ?_
        refine r_aloadN 99 dX11_status_98 rfl rfl ?_
        refine r_geti 102 dX11_status_99 rfl fX11_200 (by decide) (sh_50 z _) rfl ?_
        refine r_ret dX11_status_102 rfl (k _ 0 ?_)
        unfold gStatus
        first
          | (exfalso; omega)
          | (rw [e9]; simp; done)
          | (rw [e9]; simp; omega)
          | (rw [if_neg (by omega), if_neg (by omega), if_neg (by omega), if_neg (by omega), if_neg (by omega), if_neg (by omega), if_neg (by omega), if_neg (by omega)]; first
              | (rw [if_neg (by omega)]; done)
              | (rw [if_pos (by omega), ← hv0, Int.toNat_natCast]; done))
      · refine r_tin (80) 103 dX11_status_23 (by omega) (by omega) (by omega) (by rw [e9]; rfl) (by decide) ?_
        refine r_aloadN 104 dX11_status_103 rfl rfl ?_
        refine r_geti 107 dX11_status_104 rfl fX11_351 (by decide) (sh_50 z _) rfl ?_
        refine r_ret dX11_status_107 rfl (k _ 0 ?_)
        unfold gStatus
        first
          | (exfalso; omega)
          | (rw [e9]; simp; done)
          | (rw [e9]; simp; omega)
          | (rw [if_neg (by omega), if_neg (by omega), if_neg (by omega), if_neg (by omega), if_neg (by omega), if_neg (by omega), if_neg (by omega), if_neg (by omega)]; first
              | (rw [if_neg (by omega)]; done)
              | (rw [if_pos (by omega), ← hv0, Int.toNat_natCast]; done))
      · refine r_tout 108 dX11_status_23 (by omega) (by omega) (by decide) ?_
        refine r_iconst 109 dX11_status_108 rfl ?_
        refine r_ret dX11_status_109 rfl (k _ 0 ?_)
        unfold gStatus
        first
          | (exfalso; omega)
          | (rw [e9]; simp; done)
          | (rw [e9]; simp; omega)
          | (rw [if_neg (by omega), if_neg (by omega), if_neg (by omega), if_neg (by omega), if_neg (by omega), if_neg (by omega), if_neg (by omega), if_neg (by omega)]; first
              | (rw [if_neg (by omega)]; done)
              | (rw [if_pos (by omega), ← hv0, Int.toNat_natCast]; done))
    · refine r_aloadN 13 dX11_status_12 rfl rfl ?_
      refine r_getq 16 dX11_status_13 rfl fX11_16 (by decide) (sh_50 z _) rfl ?_
      refine r_iloadN 17 dX11_status_16 rfl rfl ?_
      refine r_bipush 19 dX11_status_17 rfl (by decide) ?_
      refine r_isub 20 dX11_status_19 rfl ?_
      obtain ⟨v0, hv0⟩ := Int.eq_ofNat_of_zero_le (show 0 ≤ v - 10 by omega)
      rw [hv0]
      have hv0 := hv0.symm
      refine r_iald (n := 8) 21 dX11_status_20 (v0) rfl rfl (by decide) (sh_51 z _) (by decide) (by omega) (by omega) ?_
      refine r_ret dX11_status_21 rfl (k _ 0 ?_)
      unfold gStatus
      first
        | (exfalso; omega)
        | (rw [e9]; simp; done)
        | (rw [e9]; simp; omega)
        | (rw [if_neg (by omega), if_neg (by omega), if_neg (by omega), if_neg (by omega), if_neg (by omega), if_neg (by omega), if_neg (by omega), if_neg (by omega)]; first
            | (rw [if_neg (by omega)]; done)
            | (rw [if_pos (by omega), ← hv0, Int.toNat_natCast]; done))
