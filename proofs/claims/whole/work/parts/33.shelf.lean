/-! shelves -/
def SH (c : tC) (L : tL) : Prop := ∀ s : Nat, s < 8 → (c 51 44 s = 0 ∧ c 2 s 0 = -1 ∧ c 2 s 1 = 0) ∨ (c 51 44 s = 1 ∧ (0 ≤ c 51 45 s ∧ c 51 45 s ≤ 3) ∧ c 2 s 0 = 100 + c 51 45 s ∧ c 2 s 1 = c 51 46 s ∧ (0 ≤ c 51 46 s ∧ c 51 46 s ≤ 60) ∧ ∀ i : Nat, (i : Int) < c 51 46 s → L 3 s i = L 52 48 (60 * s + i)) ∨ (c 51 44 s = 2 ∧ c 2 s 0 = c 51 47 s ∧ (0 ≤ c 51 47 s ∧ c 51 47 s < c 50 0 2) ∧ c 2 s 1 = 0)
def SI (c : tC) (s : Nat) : Prop := (c 51 44 s = 0 ∧ c 2 s 0 = -1 ∧ c 2 s 1 = 0) ∨ (c 51 44 s = 1 ∧ (0 ≤ c 51 45 s ∧ c 51 45 s ≤ 3) ∧ c 2 s 0 = 100 + c 51 45 s ∧ c 2 s 1 = c 51 46 s ∧ (0 ≤ c 51 46 s ∧ c 51 46 s ≤ 60)) ∨ (c 51 44 s = 2 ∧ c 2 s 0 = c 51 47 s ∧ (0 ≤ c 51 47 s ∧ c 51 47 s < c 50 0 2) ∧ c 2 s 1 = 0)
theorem SH_i {c : tC} {L : tL} (h : SH c L) (s : Nat) (hs : s < 8) : SI c s := by
  rcases h s hs with a | a | a
  · exact Or.inl a
  · exact Or.inr (Or.inl ⟨a.1, a.2.1, a.2.2.1, a.2.2.2.1, a.2.2.2.2.1⟩)
  · exact Or.inr (Or.inr a)
def gHolds (A : sA) (s : Int) : gA := (if 0 ≤ s ∧ s ≤ 7 then (if A 44 s.toNat = 0 then -1 else if A 44 s.toNat = 1 then 100 + A 45 s.toNat else A 47 s.toNat) else -1, 0)
def gElem (c : tC) (L : tL) (s i : Int) : Int64 := if (0 ≤ s ∧ s ≤ 7) ∧ c 51 44 s.toNat = 1 ∧ 0 ≤ i ∧ i < c 51 46 s.toNat then L 52 48 (60 * s.toNat + i.toNat) else lI 0
def gShow (S : sS) (s v : Int) : gA := if ¬ ((0 ≤ s ∧ s ≤ 7) ∧ (v = -1 ∨ isSo S v)) then (-1, 1) else (if v = -1 then 0 else 1, 0)
def gRow (s o n : Int) : gA := if ¬ (0 ≤ s ∧ s ≤ 7) then (-1, 1) else if n < 0 then (-4, 4) else if ¬ (0 ≤ o ∧ o ≤ 3) then (-6, 6) else if 60 < n then (-7, 7) else (1, 0)
theorem x_holdsNothing {z : xZ} {d : Nat} {Q : tQ} {c : tC} {L : tL} {s : Nat} (hg : MG c) (hs : s < 8) (hi : SI c s) (k1 : (c 51 44 s = 0) → Q (some (.int (iI 1))) c L) (k0 : (c 51 44 s ≠ 0) → Q (some (.int (iI 0))) c L) : En z (d + 1) MX7_holdsNothing Q 0 [some (.ref (xad z 2 s))] [] c L := by
  unfold SI at hi
  unfold MG RT_rng at hg
  refine r_aloadN 1 dX7_holdsNothing_0 rfl rfl ?_
  refine r_geti 4 dX7_holdsNothing_1 rfl fX7_9 (ct_2 (by omega)) (sh_2 z _) rfl ?_
  refine r_iconst 5 dX7_holdsNothing_4 rfl ?_
  refine r_icne 12 8 dX7_holdsNothing_5 rfl (by decide) (by omega) (by omega) (fun h5 => ?_) (fun h5 => ?_)
  · refine r_iconst 13 dX7_holdsNothing_12 rfl ?_
    exact r_zret dX7_holdsNothing_13 rfl (by decide) (k0 (by omega))
  · refine r_iconst 9 dX7_holdsNothing_8 rfl ?_
    refine r_goto 13 dX7_holdsNothing_9 (by decide) ?_
    exact r_zret dX7_holdsNothing_13 rfl (by decide) (k1 (by omega))
theorem x_holdsRow {z : xZ} {d : Nat} {Q : tQ} {c : tC} {L : tL} {s : Nat} (hg : MG c) (hs : s < 8) (hi : SI c s) (k1 : (c 51 44 s = 1) → Q (some (.int (iI 1))) c L) (k0 : (c 51 44 s ≠ 1) → Q (some (.int (iI 0))) c L) : En z (d + 1) MX7_holdsRow Q 0 [some (.ref (xad z 2 s))] [] c L := by
  unfold SI at hi
  unfold MG RT_rng at hg
  refine r_aloadN 1 dX7_holdsRow_0 rfl rfl ?_
  refine r_geti 4 dX7_holdsRow_1 rfl fX7_9 (ct_2 (by omega)) (sh_2 z _) rfl ?_
  refine r_bipush 6 dX7_holdsRow_4 rfl (by decide) ?_
  refine r_iclt 13 9 dX7_holdsRow_6 rfl (by decide) (by omega) (by omega) (fun h6 => ?_) (fun h6 => ?_)
  · refine r_iconst 14 dX7_holdsRow_13 rfl ?_
    exact r_zret dX7_holdsRow_14 rfl (by decide) (k0 (by omega))
  · refine r_iconst 10 dX7_holdsRow_9 rfl ?_
    refine r_goto 14 dX7_holdsRow_10 (by decide) ?_
    exact r_zret dX7_holdsRow_14 rfl (by decide) (k1 (by omega))
theorem x_holdsSource {z : xZ} {d : Nat} {Q : tQ} {c : tC} {L : tL} {s : Nat} (hg : MG c) (hs : s < 8) (hi : SI c s) (k1 : (c 51 44 s = 2) → Q (some (.int (iI 1))) c L) (k0 : (c 51 44 s ≠ 2) → Q (some (.int (iI 0))) c L) : En z (d + 2) MX7_holdsSource Q 0 [some (.ref (xad z 2 s))] [] c L := by
  refine r_aloadN 1 dX7_holdsSource_0 rfl rfl ?_
  refine r_cv0 4 dX7_holdsSource_1 rfl gX7_22 rfl (ct_2 (by omega)) (sh_2 z _) rfl rfl (Nat.le_of_ble_eq_true rfl) (Nat.le_of_ble_eq_true rfl) rfl ?_
  refine x_holdsNothing hg hs hi (fun y1 => ?_) (fun y1 => ?_)
  · refine r_ifneT 18 0 dX7_holdsSource_4 (by decide) (by decide) (by decide) ?_
    refine r_iconst 19 dX7_holdsSource_18 rfl ?_
    unfold SI at hi
    exact r_zret dX7_holdsSource_19 rfl (by decide) (k0 (by omega))
  · refine r_ifneF 7 dX7_holdsSource_4 rfl 18 (by decide) (by decide) (by decide) ?_
    refine r_aloadN 8 dX7_holdsSource_7 rfl rfl ?_
    refine r_cv0 11 dX7_holdsSource_8 rfl gX7_26 rfl (ct_2 (by omega)) (sh_2 z _) rfl rfl (Nat.le_of_ble_eq_true rfl) (Nat.le_of_ble_eq_true rfl) rfl ?_
    refine x_holdsRow hg hs hi (fun y8 => ?_) (fun y8 => ?_)
    · refine r_ifneT 18 0 dX7_holdsSource_11 (by decide) (by decide) (by decide) ?_
      refine r_iconst 19 dX7_holdsSource_18 rfl ?_
      unfold SI at hi
      exact r_zret dX7_holdsSource_19 rfl (by decide) (k0 (by omega))
    · refine r_ifneF 14 dX7_holdsSource_11 rfl 18 (by decide) (by decide) (by decide) ?_
      refine r_iconst 15 dX7_holdsSource_14 rfl ?_
      refine r_goto 19 dX7_holdsSource_15 (by decide) ?_
      unfold SI at hi
      exact r_zret dX7_holdsSource_19 rfl (by decide) (k1 (by omega))
theorem x_content {z : xZ} {d : Nat} {Q : tQ} {c : tC} {L : tL} {s : Nat} (hs : s < 8) (k : ∀ r, r = c 2 s 0 → Q (some (.int (iI r))) c L) : En z (d + 1) MX7_content Q 0 [some (.ref (xad z 2 s))] [] c L := by
  refine r_aloadN 1 dX7_content_0 rfl rfl ?_
  refine r_geti 4 dX7_content_1 rfl fX7_9 (ct_2 (by omega)) (sh_2 z _) rfl ?_
  exact r_ret dX7_content_4 rfl (k _ rfl)
theorem x_hasElement {z : xZ} {d : Nat} {Q : tQ} {c : tC} {L : tL} {s : Nat} {v : Int} (hs : s < 8) (hi : SI c s) (hv : inR v) (k1 : (c 51 44 s = 1 ∧ 0 ≤ v ∧ v < c 51 46 s) → Q (some (.int (iI 1))) c L) (k0 : ¬ (c 51 44 s = 1 ∧ 0 ≤ v ∧ v < c 51 46 s) → Q (some (.int (iI 0))) c L) : En z (d + 1) MX7_hasElement Q 0 [some (.ref (xad z 2 s)), some (.int (iI v))] [] c L := by
  unfold SI at hi
  have hv1 := hv.1
  have hv2 := hv.2
  refine r_iloadN 1 dX7_hasElement_0 rfl rfl ?_
  refine r_iflt 16 4 dX7_hasElement_1 rfl (by decide) (by omega) (fun h1 => ?_) (fun h1 => ?_)
  · refine r_iconst 17 dX7_hasElement_16 rfl ?_
    exact r_zret dX7_hasElement_17 rfl (by decide) (k0 (by omega))
  · refine r_iloadN 5 dX7_hasElement_4 rfl rfl ?_
    refine r_aloadN 6 dX7_hasElement_5 rfl rfl ?_
    refine r_geti 9 dX7_hasElement_6 rfl fX7_15 (ct_2 (by omega)) (sh_2 z _) rfl ?_
    refine r_icge 16 12 dX7_hasElement_9 rfl (by decide) (by omega) (by omega) (fun h9 => ?_) (fun h9 => ?_)
    · refine r_iconst 17 dX7_hasElement_16 rfl ?_
      exact r_zret dX7_hasElement_17 rfl (by decide) (k0 (by omega))
    · refine r_iconst 13 dX7_hasElement_12 rfl ?_
      refine r_goto 17 dX7_hasElement_13 (by decide) ?_
      exact r_zret dX7_hasElement_17 rfl (by decide) (k1 (by omega))
theorem x_elementAt {z : xZ} {d : Nat} {Q : tQ} {c : tC} {L : tL} {s : Nat} {v : Int} (hS : SH c L) (hs : s < 8) (hv : inR v) (k : ∀ x, x = (if c 51 44 s = 1 ∧ 0 ≤ v ∧ v < c 51 46 s then L 52 48 (60 * s + v.toNat) else lI 0) → Q (some (.long x)) c L) : En z (d + 2) MX7_elementAt Q 0 [some (.ref (xad z 2 s)), some (.int (iI v))] [] c L := by
  have hi := SH_i hS s hs
  refine r_aloadN 1 dX7_elementAt_0 rfl rfl ?_
  refine r_iloadN 2 dX7_elementAt_1 rfl rfl ?_
  refine r_cv1 5 dX7_elementAt_2 rfl gX7_29 rfl (ct_2 (by omega)) (sh_2 z _) rfl rfl (Nat.le_of_ble_eq_true rfl) (Nat.le_of_ble_eq_true rfl) rfl ?_
  refine x_hasElement hs hi (by assumption) (fun y2 => ?_) (fun y2 => ?_)
  · refine r_ifeqF 8 dX7_elementAt_5 rfl 17 (by decide) (by decide) (by decide) ?_
    obtain ⟨v0, hv00⟩ := Int.eq_ofNat_of_zero_le (show 0 ≤ v by omega)
    subst hv00
    refine r_aloadN 9 dX7_elementAt_8 rfl rfl ?_
    refine r_getq 12 dX7_elementAt_9 rfl fX7_18 (ct_2 (by omega)) (sh_2 z _) rfl ?_
    refine r_iloadN 13 dX7_elementAt_12 rfl rfl ?_
    have hb : v0 < 60 := by
      have hq := hi
      unfold SI at hq
      omega
    refine r_lald 14 dX7_elementAt_13 (v0) rfl rfl (ct_3 (by omega)) (sh_3 z _) (by decide) (by omega) (by omega) ?_
    refine r_goto 18 dX7_elementAt_14 (by decide) ?_
    first
      | exact r_lret dX7_elementAt_18 rfl (k _ (by rw [if_neg y2]; rfl))
      | (refine r_lret dX7_elementAt_18 rfl (k _ ?_)
         rw [if_pos y2, Int.toNat_natCast]
         rcases hS s hs with a | a | a
         · exfalso; omega
         · exact a.2.2.2.2.2 v0 (by omega)
         · exfalso; omega)
  · refine r_ifeqT 17 0 dX7_elementAt_5 (by decide) (by decide) (by decide) ?_
    refine r_lconst 18 dX7_elementAt_17 rfl ?_
    first
      | exact r_lret dX7_elementAt_18 rfl (k _ (by rw [if_neg y2]; rfl))
      | (refine r_lret dX7_elementAt_18 rfl (k _ ?_)
         rw [if_pos y2, Int.toNat_natCast]
         rcases hS s hs with a | a | a
         · exfalso; omega
         · exact a.2.2.2.2.2 v0 (by omega)
         · exfalso; omega)
theorem x_holds {z : xZ} {d : Nat} {Q : tQ} {c : tC} {L : tL} {s : Int} (hS : SH c L) (hs : inR s) (k : ∀ r w, (r, w) = gHolds (c 51) s → Q (some (.int (iI r))) (xRe c w) L) : En z (d + 20) MX10_holds Q 0 [some (.ref (xad z 0 0)), some (.int (iI s))] [] c L := by
  have s1 := hs.1
  have s2 := hs.2
  refine r_iloadN 1 dX10_holds_0 rfl rfl ?_
  refine r_cs1 4 dX10_holds_1 rfl gX10_56 (Nat.le_of_ble_eq_true rfl) (Nat.le_of_ble_eq_true rfl) rfl ?_
  refine x_isShelf (by assumption) (fun y1 => ?_) (fun y1 => ?_)
  · refine r_ifeqF 7 dX10_holds_4 rfl 19 (by decide) (by decide) (by decide) ?_
    obtain ⟨s0, hs00⟩ := Int.eq_ofNat_of_zero_le (show 0 ≤ s by omega)
    subst hs00
    have hi := SH_i hS s0 (by omega)
    unfold SI at hi
    refine r_aloadN 8 dX10_holds_7 rfl rfl ?_
    refine r_getq 11 dX10_holds_8 rfl fX10_11 (by decide) (sh_0 z _) rfl ?_
    refine r_iloadN 12 dX10_holds_11 rfl rfl ?_
    refine r_aald 13 dX10_holds_12 (s0) rfl rfl (by decide) (sh_1 z _) rfl (by decide) (by omega) (by omega) ?_
    refine r_cv0 16 dX10_holds_13 rfl gX10_111 rfl (ct_2 (by omega)) (sh_2 z _) rfl rfl (Nat.le_of_ble_eq_true rfl) (Nat.le_of_ble_eq_true rfl) rfl ?_
    refine x_content (by omega) (fun r13 e13 => ?_)
    refine r_goto 20 dX10_holds_16 (by decide) ?_
    first
      | (refine r_ret dX10_holds_20 rfl (k _ 0 ?_); unfold gHolds; rw [if_neg y1])
      | (refine r_ret dX10_holds_20 rfl (k _ 0 ?_); unfold gHolds; rw [if_pos y1, Int.toNat_natCast, e13]; rcases hi with a | a | a <;> simp [a.1] <;> omega)
  · refine r_ifeqT 19 0 dX10_holds_4 (by decide) (by decide) (by decide) ?_
    refine r_iconst 20 dX10_holds_19 rfl ?_
    first
      | (refine r_ret dX10_holds_20 rfl (k _ 0 ?_); unfold gHolds; rw [if_neg y1])
      | (refine r_ret dX10_holds_20 rfl (k _ 0 ?_); unfold gHolds; rw [if_pos y1, Int.toNat_natCast, e13]; rcases hi with a | a | a <;> simp [a.1] <;> omega)
theorem m_holds {z : xZ} {d : Nat} {Q : tQ} {c : tC} {L : tL} {s : Int} (hS : SH c L) (hs : inR s) (k : ∀ r w, (r, w) = gHolds (c 51) s → Q (some (.int (iI r))) (mRe c w) L) : En z (d + 20) MX11_holds Q 0 [some (.ref (xad z 50 0)), some (.int (iI s))] [] c L := by
  have s1 := hs.1
  have s2 := hs.2
  refine r_aloadN 1 dX11_holds_0 rfl rfl ?_
  refine r_iloadN 2 dX11_holds_1 rfl rfl ?_
  refine r_cv1 5 dX11_holds_2 rfl gX11_181 rfl (by decide) (sh_50 z _) rfl rfl (Nat.le_of_ble_eq_true rfl) (Nat.le_of_ble_eq_true rfl) rfl ?_
  refine m_isShelf (by assumption) (fun y2 => ?_) (fun y2 => ?_)
  · refine r_ifeqF 8 dX11_holds_5 rfl 17 (by decide) (by decide) (by decide) ?_
    obtain ⟨s0, hs00⟩ := Int.eq_ofNat_of_zero_le (show 0 ≤ s by omega)
    subst hs00
    have hi := SH_i hS s0 (by omega)
    unfold SI at hi
    refine r_aloadN 9 dX11_holds_8 rfl rfl ?_
    refine r_getq 12 dX11_holds_9 rfl fX11_119 (by decide) (sh_50 z _) rfl ?_
    refine r_iloadN 13 dX11_holds_12 rfl rfl ?_
    refine r_iald (n := 8) 14 dX11_holds_13 (s0) rfl rfl (by decide) (sh_51 z _) (by decide) (by omega) (by omega) ?_
    refine r_ifne 19 17 dX11_holds_14 rfl (by decide) (by omega) (fun h14 => ?_) (fun h14 => ?_)
    · refine r_aloadN 20 dX11_holds_19 rfl rfl ?_
      refine r_getq 23 dX11_holds_20 rfl fX11_119 (by decide) (sh_50 z _) rfl ?_
      refine r_iloadN 24 dX11_holds_23 rfl rfl ?_
      refine r_iald (n := 8) 25 dX11_holds_24 (s0) rfl rfl (by decide) (sh_51 z _) (by decide) (by omega) (by omega) ?_
      refine r_iconst 26 dX11_holds_25 rfl ?_
      refine r_icne 41 29 dX11_holds_26 rfl (by decide) (by omega) (by omega) (fun h26 => ?_) (fun h26 => ?_)
      · refine r_aloadN 42 dX11_holds_41 rfl rfl ?_
        refine r_getq 45 dX11_holds_42 rfl fX11_128 (by decide) (sh_50 z _) rfl ?_
        refine r_iloadN 46 dX11_holds_45 rfl rfl ?_
        refine r_iald (n := 8) 47 dX11_holds_46 (s0) rfl rfl (by decide) (sh_51 z _) (by decide) (by omega) (by omega) ?_
        first
          | (refine r_ret dX11_holds_47 rfl (k _ 0 ?_); unfold gHolds; rw [if_neg (by omega)])
          | (refine r_ret dX11_holds_47 rfl (k _ 0 ?_); unfold gHolds; rw [if_pos (by omega), Int.toNat_natCast]; rcases hi with a | a | a <;> simp [a.1] <;> omega)
      · refine r_bipush 31 dX11_holds_29 rfl (by decide) ?_
        refine r_aloadN 32 dX11_holds_31 rfl rfl ?_
        refine r_getq 35 dX11_holds_32 rfl fX11_122 (by decide) (sh_50 z _) rfl ?_
        refine r_iloadN 36 dX11_holds_35 rfl rfl ?_
        refine r_iald (n := 8) 37 dX11_holds_36 (s0) rfl rfl (by decide) (sh_51 z _) (by decide) (by omega) (by omega) ?_
        refine r_iadd 38 dX11_holds_37 rfl ?_
        refine r_goto 47 dX11_holds_38 (by decide) ?_
        first
          | (refine r_ret dX11_holds_47 rfl (k _ 0 ?_); unfold gHolds; rw [if_neg (by omega)])
          | (refine r_ret dX11_holds_47 rfl (k _ 0 ?_); unfold gHolds; rw [if_pos (by omega), Int.toNat_natCast]; rcases hi with a | a | a <;> simp [a.1] <;> omega)
    · refine r_iconst 18 dX11_holds_17 rfl ?_
      first
        | (refine r_ret dX11_holds_18 rfl (k _ 0 ?_); unfold gHolds; rw [if_neg (by omega)])
        | (refine r_ret dX11_holds_18 rfl (k _ 0 ?_); unfold gHolds; rw [if_pos (by omega), Int.toNat_natCast]; rcases hi with a | a | a <;> simp [a.1] <;> omega)
  · refine r_ifeqT 17 0 dX11_holds_5 (by decide) (by decide) (by decide) ?_
    refine r_iconst 18 dX11_holds_17 rfl ?_
    first
      | (refine r_ret dX11_holds_18 rfl (k _ 0 ?_); unfold gHolds; rw [if_neg (by omega)])
      | (refine r_ret dX11_holds_18 rfl (k _ 0 ?_); unfold gHolds; rw [if_pos (by omega), Int.toNat_natCast]; rcases hi with a | a | a <;> simp [a.1] <;> omega)
theorem x_element {z : xZ} {d : Nat} {Q : tQ} {c : tC} {L : tL} {s i : Int} (hS : SH c L) (hs : inR s) (hi : inR i) (k : ∀ x, x = gElem c L s i → Q (some (.long x)) c L) : En z (d + 20) MX10_element Q 0 [some (.ref (xad z 0 0)), some (.int (iI s)), some (.int (iI i))] [] c L := by
  have s1 := hs.1
  have s2 := hs.2
  have i1 := hi.1
  have i2 := hi.2
  refine r_iloadN 1 dX10_element_0 rfl rfl ?_
  refine r_cs1 4 dX10_element_1 rfl gX10_56 (Nat.le_of_ble_eq_true rfl) (Nat.le_of_ble_eq_true rfl) rfl ?_
  refine x_isShelf (by assumption) (fun y1 => ?_) (fun y1 => ?_)
  · refine r_ifeqF 7 dX10_element_4 rfl 20 (by decide) (by decide) (by decide) ?_
    obtain ⟨s0, hs00⟩ := Int.eq_ofNat_of_zero_le (show 0 ≤ s by omega)
    subst hs00
    refine r_aloadN 8 dX10_element_7 rfl rfl ?_
    refine r_getq 11 dX10_element_8 rfl fX10_11 (by decide) (sh_0 z _) rfl ?_
    refine r_iloadN 12 dX10_element_11 rfl rfl ?_
    refine r_aald 13 dX10_element_12 (s0) rfl rfl (by decide) (sh_1 z _) rfl (by decide) (by omega) (by omega) ?_
    refine r_iloadN 14 dX10_element_13 rfl rfl ?_
    refine r_cv1 17 dX10_element_14 rfl gX10_97 rfl (ct_2 (by omega)) (sh_2 z _) rfl rfl (Nat.le_of_ble_eq_true rfl) (Nat.le_of_ble_eq_true rfl) rfl ?_
    refine x_elementAt hS (by omega) (by assumption) (fun r14 e14 => ?_)
    refine r_goto 21 dX10_element_17 (by decide) ?_
    first
      | exact r_lret dX10_element_21 rfl (k _ (by unfold gElem; rw [if_neg (by omega)]; rfl))
      | (refine r_lret dX10_element_21 rfl (k _ ?_)
         rw [e14]
         unfold gElem
         rw [Int.toNat_natCast]
         by_cases q : c 51 44 s0 = 1 ∧ 0 ≤ i ∧ i < c 51 46 s0
         · rw [if_pos q, if_pos ⟨by omega, q⟩]
         · rw [if_neg q, if_neg (fun z => q z.2)])
  · refine r_ifeqT 20 0 dX10_element_4 (by decide) (by decide) (by decide) ?_
    refine r_lconst 21 dX10_element_20 rfl ?_
    first
      | exact r_lret dX10_element_21 rfl (k _ (by unfold gElem; rw [if_neg (by omega)]; rfl))
      | (refine r_lret dX10_element_21 rfl (k _ ?_)
         rw [e14]
         unfold gElem
         rw [Int.toNat_natCast]
         by_cases q : c 51 44 s0 = 1 ∧ 0 ≤ i ∧ i < c 51 46 s0
         · rw [if_pos q, if_pos ⟨by omega, q⟩]
         · rw [if_neg q, if_neg (fun z => q z.2)])
theorem m_element {z : xZ} {d : Nat} {Q : tQ} {c : tC} {L : tL} {s i : Int} (hS : SH c L) (hs : inR s) (hi : inR i) (k : ∀ x, x = gElem c L s i → Q (some (.long x)) c L) : En z (d + 20) MX11_element Q 0 [some (.ref (xad z 50 0)), some (.int (iI s)), some (.int (iI i))] [] c L := by
  have s1 := hs.1
  have s2 := hs.2
  have i1 := hi.1
  have i2 := hi.2
  refine r_aloadN 1 dX11_element_0 rfl rfl ?_
  refine r_iloadN 2 dX11_element_1 rfl rfl ?_
  refine r_cv1 5 dX11_element_2 rfl gX11_181 rfl (by decide) (sh_50 z _) rfl rfl (Nat.le_of_ble_eq_true rfl) (Nat.le_of_ble_eq_true rfl) rfl ?_
  refine m_isShelf (by assumption) (fun y2 => ?_) (fun y2 => ?_)
  · refine r_ifeqF 8 dX11_element_5 rfl 46 (by decide) (by decide) (by decide) ?_
    obtain ⟨s0, hs00⟩ := Int.eq_ofNat_of_zero_le (show 0 ≤ s by omega)
    subst hs00
    have hsi := SH_i hS s0 (by omega)
    unfold SI at hsi
    refine r_aloadN 9 dX11_element_8 rfl rfl ?_
    refine r_getq 12 dX11_element_9 rfl fX11_119 (by decide) (sh_50 z _) rfl ?_
    refine r_iloadN 13 dX11_element_12 rfl rfl ?_
    refine r_iald (n := 8) 14 dX11_element_13 (s0) rfl rfl (by decide) (sh_51 z _) (by decide) (by omega) (by omega) ?_
    refine r_iconst 15 dX11_element_14 rfl ?_
    refine r_icne 46 18 dX11_element_15 rfl (by decide) (by omega) (by omega) (fun h15 => ?_) (fun h15 => ?_)
    · refine r_lconst 47 dX11_element_46 rfl ?_
      first
        | (refine r_lret dX11_element_47 rfl (k _ ?_)
           unfold gElem
           rw [if_pos (by rw [Int.toNat_natCast]; omega), Int.toNat_natCast, Int.toNat_natCast]; done)
        | (refine r_lret dX11_element_47 rfl (k _ ?_)
           unfold gElem
           rw [if_neg (by try rw [Int.toNat_natCast]
                          omega)]
           rfl)
    · refine r_iloadN 19 dX11_element_18 rfl rfl ?_
      refine r_iflt 46 22 dX11_element_19 rfl (by decide) (by omega) (fun h19 => ?_) (fun h19 => ?_)
      · refine r_lconst 47 dX11_element_46 rfl ?_
        first
          | (refine r_lret dX11_element_47 rfl (k _ ?_)
             unfold gElem
             rw [if_pos (by rw [Int.toNat_natCast]; omega), Int.toNat_natCast, Int.toNat_natCast]; done)
          | (refine r_lret dX11_element_47 rfl (k _ ?_)
             unfold gElem
             rw [if_neg (by try rw [Int.toNat_natCast]
                            omega)]
             rfl)
      · refine r_iloadN 23 dX11_element_22 rfl rfl ?_
        refine r_aloadN 24 dX11_element_23 rfl rfl ?_
        refine r_getq 27 dX11_element_24 rfl fX11_125 (by decide) (sh_50 z _) rfl ?_
        refine r_iloadN 28 dX11_element_27 rfl rfl ?_
        refine r_iald (n := 8) 29 dX11_element_28 (s0) rfl rfl (by decide) (sh_51 z _) (by decide) (by omega) (by omega) ?_
        refine r_icge 46 32 dX11_element_29 rfl (by decide) (by omega) (by omega) (fun h29 => ?_) (fun h29 => ?_)
        · refine r_lconst 47 dX11_element_46 rfl ?_
          first
            | (refine r_lret dX11_element_47 rfl (k _ ?_)
               unfold gElem
               rw [if_pos (by rw [Int.toNat_natCast]; omega), Int.toNat_natCast, Int.toNat_natCast]; done)
            | (refine r_lret dX11_element_47 rfl (k _ ?_)
               unfold gElem
               rw [if_neg (by try rw [Int.toNat_natCast]
                              omega)]
               rfl)
        · obtain ⟨i0, hi00⟩ := Int.eq_ofNat_of_zero_le (show 0 ≤ i by omega)
          subst hi00
          refine r_aloadN 33 dX11_element_32 rfl rfl ?_
          refine r_getq 36 dX11_element_33 rfl fX11_131 (by decide) (sh_50 z _) rfl ?_
          refine r_bipush 38 dX11_element_36 rfl (by decide) ?_
          refine r_iloadN 39 dX11_element_38 rfl rfl ?_
          refine r_imul 40 dX11_element_39 rfl ?_
          refine r_iloadN 41 dX11_element_40 rfl rfl ?_
          refine r_iadd 42 dX11_element_41 rfl ?_
          rw [show (60 * (s0 : Int) + (i0 : Int)) = ((60 * s0 + i0 : Nat) : Int) by omega]
          refine r_lald (n := 480) 43 dX11_element_42 (60 * s0 + i0) rfl rfl (by decide) (sh_52 z _) (by decide) (by omega) (by omega) ?_
          refine r_goto 47 dX11_element_43 (by decide) ?_
          first
            | (refine r_lret dX11_element_47 rfl (k _ ?_)
               unfold gElem
               rw [if_pos (by rw [Int.toNat_natCast]; omega), Int.toNat_natCast, Int.toNat_natCast]; done)
            | (refine r_lret dX11_element_47 rfl (k _ ?_)
               unfold gElem
               rw [if_neg (by try rw [Int.toNat_natCast]
                              omega)]
               rfl)
  · refine r_ifeqT 46 0 dX11_element_5 (by decide) (by decide) (by decide) ?_
    refine r_lconst 47 dX11_element_46 rfl ?_
    first
      | (refine r_lret dX11_element_47 rfl (k _ ?_)
         unfold gElem
         rw [if_pos (by rw [Int.toNat_natCast]; omega), Int.toNat_natCast, Int.toNat_natCast]; done)
      | (refine r_lret dX11_element_47 rfl (k _ ?_)
         unfold gElem
         rw [if_neg (by try rw [Int.toNat_natCast]
                        omega)]
         rfl)
