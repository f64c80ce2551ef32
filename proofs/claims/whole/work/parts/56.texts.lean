/-! laws, plan of the class -/
def rLaws (c : tC) (L : tL) (s : Int) : Nat × List (Nat × Int) × Bool := tLaws (eT L s.toNat) (c 51 46 s.toNat).toNat 61 0 []
def gLaws (c : tC) (L : tL) (s : Int) : gA := if ¬ fBar (c 51) s = 0 then (fBar (c 51) s, (-(fBar (c 51) s)).toNat) else if (rLaws c L s).2.2 = true then ((((rLaws c L s).2.1.length : Nat) : Int), 0) else (-6, 6)
def flLaws (c : tC) (L : tL) (s o : Int) : Int := if ¬ fBar (c 51) s = 0 then o else if (rLaws c L s).2.2 = true then -1 else (((rLaws c L s).1 : Nat) : Int)
def rPlan (c : tC) (L : tL) (s : Int) : Nat × List tI × Bool := tItems (eT L s.toNat) (c 51 46 s.toNat).toNat (c 50 0 2) 8 0 []
def gPlan (c : tC) (L : tL) (s : Int) : gA := if ¬ fBar (c 51) s = 0 then (fBar (c 51) s, (-(fBar (c 51) s)).toNat) else if (rPlan c L s).2.2 = true then (if c 50 0 6 = 8 then (-7, 7) else (c 50 0 6, 0)) else (-6, 6)
def flPlan (c : tC) (L : tL) (s o : Int) : Int := if ¬ fBar (c 51) s = 0 then o else if (rPlan c L s).2.2 = true then -1 else (((rPlan c L s).1 : Nat) : Int)
abbrev PG (g : Nat) : Prop := g = 14 ∨ (41 ≤ g ∧ g ≤ 45)
theorem r_cpyiA {z : xZ} {d : Nat} {M : xMI} {Q : tQ} {pc : Nat} {lo : xLoc} {st : List Value} {c : tC} {L : tL} {i n0 n1 g0 p0 gg p : Nat} {n : Int} (q : Nat) (h0 : decode M.2.1 pc = .ok (.invokestatic i, 3)) (hq : pc + 3 = q) (h1 : ∀ z, xCp (Cf z) M.1.cls i) (hp0 : p0 < tcnt g0) (hs0 : tsh z g0 p0 = .inr (.inl n0)) (hp : p < tcnt gg) (hs : tsh z gg p = .inr (.inl n1)) (hw : (st.map fun v => v.category).sum ≤ 8) (hc : 0 ≤ n ∧ n < 100000) (hd : n ≤ n0) (he : n ≤ n1) (k : ∀ c2, (∀ g i (j : Nat), ¬ (g = gg ∧ i = p ∧ (j : Int) < n) → c2 g i j = c g i j) → (∀ j : Nat, (j : Int) < n → c2 gg p j = c g0 p0 j) → En z (d + 1) M Q q lo st c2 L) (hz0 : n0 ≠ 0 := by first | decide | assumption) (hz1 : n1 ≠ 0 := by first | decide | assumption) : En z (d + 1) M Q pc lo (.int (iI n) :: .int (iI 0) :: .ref (xad z gg p) :: .int (iI 0) :: .ref (xad z g0 p0) :: st) c L := by
  refine r_cpyi q h0 hq h1 hp0 hs0 hp hs hw (by omega) (by omega) hc (by omega) (by omega) (k _ (fun g i j h => ?_) (fun j hj => ?_))
  · rw [cset]
    by_cases q : g = gg ∧ i = p
    · rw [if_pos q, pk_cpy_out (show j < (0 : Int).toNat ∨ (0 : Int).toNat + n.toNat ≤ j by show j < 0 ∨ 0 + n.toNat ≤ j; omega), q.1, q.2]
    · rw [if_neg q]
  · rw [cset, if_pos ⟨rfl, rfl⟩, pk_cpy_in (show (0 : Int).toNat ≤ j from Nat.zero_le _) (show j < (0 : Int).toNat + n.toNat by show j < 0 + n.toNat; omega)]
    show c g0 p0 (0 + (j - 0)) = _
    rw [Nat.zero_add, Nat.sub_zero]
theorem cset_ap (c : tC) (g i : Nat) (f : Nat → Int) (g2 i2 : Nat) : cset c g i f g2 i2 = if g2 = g ∧ i2 = i then f else c g2 i2 := rfl
theorem x_laws {z : xZ} {d : Nat} {Q : tQ} {c : tC} {L : tL} {s : Int} (hz : zF z) (hg : MG c) (hS : SH c L) (hs : inR s) (k : ∀ r w c2, (∀ g i j, ¬ (30 ≤ g ∧ g ≤ 32) → ¬ (g = 27 ∧ i = 0 ∧ j < 6) → c2 g i j = c g i j) → c2 30 0 4 = flLaws c L s (c 30 0 4) → (∀ j, j < 6 → c2 27 0 j = if w = 0 then fFo (c 27 0) (rLaws c L s).2.1 j else c 27 0 j) → (r, w) = gLaws c L s → Q (some (.int (iI r))) (xRe c2 w) L) : En z (d + 20) MX10_laws Q 0 [some (.ref (xad z 0 0)), some (.int (iI s)), none] [] c L := by
  have hs1 := hs.1
  have hs2 := hs.2
  have hb := fBar_rng (c 51) s
  refine r_aloadN 1 dX10_laws_0 rfl rfl ?_
  refine r_iloadN 2 dX10_laws_1 rfl rfl ?_
  refine r_cv1 5 dX10_laws_2 rfl gX10_68 rfl (by decide) (sh_0 z _) rfl rfl (Nat.le_of_ble_eq_true rfl) (Nat.le_of_ble_eq_true rfl) rfl ?_
  refine x_bar hg hS (by assumption) (fun r2 e2 => ?_)
  refine r_istore2 6 dX10_laws_5 rfl rfl (by decide) ?_
  refine r_iloadN 7 dX10_laws_6 rfl rfl ?_
  refine r_ifeq 16 10 dX10_laws_7 rfl (by decide) (by omega) (fun h7 => ?_) (fun h7 => ?_)
  · have hz9 := fBar_0 (A := c 51) (s := s) (by omega)
    have hf0 : fBar (c 51) s = 0 := by omega
    obtain ⟨sh, hsh0⟩ := Int.eq_ofNat_of_zero_le (show 0 ≤ s by omega)
    subst hsh0
    rw [Int.toNat_natCast] at hz9
    have hi9 := SH_i hS sh (by omega)
    have hi2 := hi9
    unfold SI at hi2
    have hSR := SR_of hS (show sh < 8 by omega) (by omega)
    have hrl : rLaws c L (sh : Int) = tLaws (eT L sh) (c 51 46 sh).toNat 61 0 [] := rfl
    refine r_aloadN 17 dX10_laws_16 rfl rfl ?_
    refine r_getq 20 dX10_laws_17 rfl fX10_36 (by decide) (sh_0 z _) rfl ?_
    refine r_aloadN 21 dX10_laws_20 rfl rfl ?_
    refine r_getq 24 dX10_laws_21 rfl fX10_11 (by decide) (sh_0 z _) rfl ?_
    refine r_iloadN 25 dX10_laws_24 rfl rfl ?_
    refine r_aald 26 dX10_laws_25 (sh) rfl rfl (by decide) (sh_1 z _) rfl (by decide) (by omega) (by omega) ?_
    refine r_aloadN 27 dX10_laws_26 rfl rfl ?_
    refine r_getq 30 dX10_laws_27 rfl fX10_26 (by decide) (sh_0 z _) rfl ?_
    refine r_getq 33 dX10_laws_30 rfl fX10_198 (by decide) (sh_8 z _) rfl ?_
    refine r_cv2 36 dX10_laws_33 rfl gX10_201 rfl (by decide) (sh_30 z _) rfl rfl (Nat.le_of_ble_eq_true rfl) (Nat.le_of_ble_eq_true rfl) rfl ?_
    refine x_readLaws hz hSR (by omega) (fun j => eT_in L sh j) (fun c2 o1 o2 o3 o4 o5 => ?_) (fun c2 o1 o2 o3 => ?_)
    · refine r_ifneT 46 0 dX10_laws_36 (by decide) (by decide) (by decide) ?_
      refine r_aloadN 47 dX10_laws_46 rfl rfl ?_
      refine r_getq 50 dX10_laws_47 rfl fX10_36 (by decide) (sh_0 z _) rfl ?_
      refine r_getq 53 dX10_laws_50 rfl fX10_205 (by decide) (sh_30 z _) rfl ?_
      refine r_iconst 54 dX10_laws_53 rfl ?_
      refine r_aloadN 55 dX10_laws_54 rfl rfl ?_
      refine r_getq 58 dX10_laws_55 rfl fX10_26 (by decide) (sh_0 z _) rfl ?_
      refine r_getq 61 dX10_laws_58 rfl fX10_198 (by decide) (sh_8 z _) rfl ?_
      refine r_iconst 62 dX10_laws_61 rfl ?_
      refine r_bipush 64 dX10_laws_62 rfl (by decide) ?_
      refine r_cpyiA 67 dX10_laws_64 rfl gX10_208 (by decide) (sh_32 z _) (by decide) (sh_27 z _) (by decide) (by omega) (by omega) (by omega) (fun c3 p1 p2 => ?_)
      refine r_aloadN 68 dX10_laws_67 rfl rfl ?_
      refine r_getq 71 dX10_laws_68 rfl fX10_36 (by decide) (sh_0 z _) rfl ?_
      refine r_geti 74 dX10_laws_71 rfl fX10_214 (by decide) (sh_30 z _) rfl ?_
      rw [p1 30 0 5 (by omega), o4]
      refine r_ret dX10_laws_74 rfl (k _ 0 c3 (fun g i j n1 n2 => ?_) ?_ (fun j hj => ?_) ?_)
      · rw [p1 g i j (by omega)]
        exact o2 g i j (by omega) (by omega) (by omega)
      · rw [p1 30 0 4 (by omega)]
        unfold flLaws; rw [if_neg (by omega), if_pos (by rw [hrl, o1])]; exact o3
      · rw [if_pos rfl, p2 j (by omega), hrl]
        exact o5 j hj
      · unfold gLaws; rw [if_neg (by omega), if_pos (by rw [hrl, o1]), hrl]
    · refine r_ifneF 39 dX10_laws_36 rfl 46 (by decide) (by decide) (by decide) ?_
      refine r_aloadN 40 dX10_laws_39 rfl rfl ?_
      refine r_bipush 42 dX10_laws_40 rfl (by decide) ?_
      refine r_cv1 45 dX10_laws_42 rfl gX10_60 rfl (by decide) (sh_0 z _) rfl rfl (Nat.le_of_ble_eq_true rfl) (Nat.le_of_ble_eq_true rfl) rfl ?_
      refine x_refuse (k0 := 6) (by decide) (by decide) ?_
      refine r_ret dX10_laws_45 rfl (k _ 6 c2 (fun g i j n1 n2 => o2 g i j (by omega) (by omega) (by omega)) ?_ (fun j hj => ?_) ?_)
      · unfold flLaws; rw [if_neg (by omega), if_neg (by rw [hrl, o1]; decide), hrl]; exact o3
      · rw [if_neg (by decide)]; exact o2 27 0 j (by omega) (by omega) (by omega)
      · unfold gLaws; rw [if_neg (by omega), if_neg (by rw [hrl, o1]; decide)]
  · refine r_aloadN 11 dX10_laws_10 rfl rfl ?_
    refine r_iloadN 12 dX10_laws_11 rfl rfl ?_
    refine r_cv1 15 dX10_laws_12 rfl gX10_60 rfl (by decide) (sh_0 z _) rfl rfl (Nat.le_of_ble_eq_true rfl) (Nat.le_of_ble_eq_true rfl) rfl ?_
    refine x_refuse (k0 := (-(fBar (c 51) s)).toNat) (by omega) (by omega) ?_
    refine r_ret dX10_laws_15 rfl (k _ (-(fBar (c 51) s)).toNat c (fun _ _ _ _ _ => rfl) (by unfold flLaws; rw [if_pos (by omega)]) (fun j hj => by rw [if_neg (by omega)]) (by unfold gLaws; rw [if_pos (by omega), e2]))
theorem x_planLike {z : xZ} {d : Nat} {Q : tQ} {c : tC} {L : tL} {m o : Nat} (hm : m < 17) (ho : o < 17) (hmo : ¬ o = m) (k : ∀ c2, (∀ g i j, ¬ (PG g ∧ i = m) → c2 g i j = c g i j) → c2 14 m 0 = c 14 o 0 → (∀ g j, 41 ≤ g → g ≤ 45 → j < 8 → c2 g m j = c g o j) → Q none c2 L) : En z (d + 1) MX4_becomeLike Q 0 [some (.ref (xad z 14 m)), some (.ref (xad z 14 o))] [] c L := by
  refine r_aloadN 1 dX4_becomeLike_0 rfl rfl ?_
  refine r_aloadN 2 dX4_becomeLike_1 rfl rfl ?_
  refine r_geti 5 dX4_becomeLike_2 rfl fX4_9 (ct_14 (by omega)) (sh_14 z _) rfl ?_
  refine r_puti 8 dX4_becomeLike_5 rfl pX4_9 (ct_14 (by omega)) (sh_14 z _) rfl ?_
  refine r_aloadN 9 dX4_becomeLike_8 rfl rfl ?_
  refine r_getq 12 dX4_becomeLike_9 rfl fX4_15 (ct_14 (by omega)) (sh_14 z _) rfl ?_
  refine r_iconst 13 dX4_becomeLike_12 rfl ?_
  refine r_aloadN 14 dX4_becomeLike_13 rfl rfl ?_
  refine r_getq 17 dX4_becomeLike_14 rfl fX4_15 (ct_14 (by omega)) (sh_14 z _) rfl ?_
  refine r_iconst 18 dX4_becomeLike_17 rfl ?_
  refine r_bipush 20 dX4_becomeLike_18 rfl (by decide) ?_
  refine r_cpyi 23 dX4_becomeLike_20 rfl gX4_31 (ct_41 (by omega)) (sh_41 z _) (ct_41 (by omega)) (sh_41 z _) (by decide) (by omega) (by omega) (by omega) (by omega) (by omega) ?_
  refine r_aloadN 24 dX4_becomeLike_23 rfl rfl ?_
  refine r_getq 27 dX4_becomeLike_24 rfl fX4_19 (ct_14 (by omega)) (sh_14 z _) rfl ?_
  refine r_iconst 28 dX4_becomeLike_27 rfl ?_
  refine r_aloadN 29 dX4_becomeLike_28 rfl rfl ?_
  refine r_getq 32 dX4_becomeLike_29 rfl fX4_19 (ct_14 (by omega)) (sh_14 z _) rfl ?_
  refine r_iconst 33 dX4_becomeLike_32 rfl ?_
  refine r_bipush 35 dX4_becomeLike_33 rfl (by decide) ?_
  refine r_cpyi 38 dX4_becomeLike_35 rfl gX4_31 (ct_42 (by omega)) (sh_42 z _) (ct_42 (by omega)) (sh_42 z _) (by decide) (by omega) (by omega) (by omega) (by omega) (by omega) ?_
  refine r_aloadN 39 dX4_becomeLike_38 rfl rfl ?_
  refine r_getq 42 dX4_becomeLike_39 rfl fX4_22 (ct_14 (by omega)) (sh_14 z _) rfl ?_
  refine r_iconst 43 dX4_becomeLike_42 rfl ?_
  refine r_aloadN 44 dX4_becomeLike_43 rfl rfl ?_
  refine r_getq 47 dX4_becomeLike_44 rfl fX4_22 (ct_14 (by omega)) (sh_14 z _) rfl ?_
  refine r_iconst 48 dX4_becomeLike_47 rfl ?_
  refine r_bipush 50 dX4_becomeLike_48 rfl (by decide) ?_
  refine r_cpyi 53 dX4_becomeLike_50 rfl gX4_31 (ct_43 (by omega)) (sh_43 z _) (ct_43 (by omega)) (sh_43 z _) (by decide) (by omega) (by omega) (by omega) (by omega) (by omega) ?_
  refine r_aloadN 54 dX4_becomeLike_53 rfl rfl ?_
  refine r_getq 57 dX4_becomeLike_54 rfl fX4_25 (ct_14 (by omega)) (sh_14 z _) rfl ?_
  refine r_iconst 58 dX4_becomeLike_57 rfl ?_
  refine r_aloadN 59 dX4_becomeLike_58 rfl rfl ?_
  refine r_getq 62 dX4_becomeLike_59 rfl fX4_25 (ct_14 (by omega)) (sh_14 z _) rfl ?_
  refine r_iconst 63 dX4_becomeLike_62 rfl ?_
  refine r_bipush 65 dX4_becomeLike_63 rfl (by decide) ?_
  refine r_cpyi 68 dX4_becomeLike_65 rfl gX4_31 (ct_44 (by omega)) (sh_44 z _) (ct_44 (by omega)) (sh_44 z _) (by decide) (by omega) (by omega) (by omega) (by omega) (by omega) ?_
  refine r_aloadN 69 dX4_becomeLike_68 rfl rfl ?_
  refine r_getq 72 dX4_becomeLike_69 rfl fX4_28 (ct_14 (by omega)) (sh_14 z _) rfl ?_
  refine r_iconst 73 dX4_becomeLike_72 rfl ?_
  refine r_aloadN 74 dX4_becomeLike_73 rfl rfl ?_
  refine r_getq 77 dX4_becomeLike_74 rfl fX4_28 (ct_14 (by omega)) (sh_14 z _) rfl ?_
  refine r_iconst 78 dX4_becomeLike_77 rfl ?_
  refine r_bipush 80 dX4_becomeLike_78 rfl (by decide) ?_
  refine r_cpyi 83 dX4_becomeLike_80 rfl gX4_31 (ct_45 (by omega)) (sh_45 z _) (ct_45 (by omega)) (sh_45 z _) (by decide) (by omega) (by omega) (by omega) (by omega) (by omega) ?_
  refine r_vret dX4_becomeLike_83 rfl (k _ (fun g i j h => ?_) ?_ (fun g j h1 h2 hj => ?_))
  · rw [cset_ap, if_neg (by omega), cset_ap, if_neg (by omega), cset_ap, if_neg (by omega), cset_ap, if_neg (by omega), cset_ap, if_neg (by omega), cu_ap, if_neg (by omega)]
  · rw [cset_ap, if_neg (by omega), cset_ap, if_neg (by omega), cset_ap, if_neg (by omega), cset_ap, if_neg (by omega), cset_ap, if_neg (by omega), cu_ap, if_pos ⟨rfl, rfl, rfl⟩]
  · have hj8 : ¬ 8 ≤ j := by omega
    rcases (show g = 41 ∨ g = 42 ∨ g = 43 ∨ g = 44 ∨ g = 45 by omega) with e | e | e | e | e <;> (subst e; simp [cset_ap, cu_ap, va_cpy, hj, hmo])
theorem x_addPlan {z : xZ} {d : Nat} {Q : tQ} {c : tC} {L : tL} {m : Nat} (hm : m < 8) (h0 : c 8 0 3 = (m : Int)) (k : ∀ c2, (∀ g i j, ¬ (PG g ∧ i = m) → c2 g i j = c g i j) → c2 14 m 0 = c 14 16 0 → (∀ g j, 41 ≤ g → g ≤ 45 → j < 8 → c2 g m j = c g 16 j) → Q (some (.int (iI (m : Int)))) (cu c2 8 0 3 ((m : Int) + 1)) L) : En z (d + 2) MX9_addPlan Q 0 [some (.ref (xad z 8 0)), some (.ref (xad z 14 16))] [] c L := by
  refine r_aloadN 1 dX9_addPlan_0 rfl rfl ?_
  refine r_getq 4 dX9_addPlan_1 rfl fX9_44 (by decide) (sh_8 z _) rfl ?_
  refine r_aloadN 5 dX9_addPlan_4 rfl rfl ?_
  refine r_geti 8 dX9_addPlan_5 rfl fX9_21 (by decide) (sh_8 z _) rfl ?_
  rw [h0]
  refine r_aald 9 dX9_addPlan_8 (m) rfl rfl (by decide) (sh_11a z) rfl (by decide) (by omega) (by omega) ?_
  refine r_aloadN 10 dX9_addPlan_9 rfl rfl ?_
  refine r_cv1 13 dX9_addPlan_10 rfl gX9_91 rfl (ct_14 (by omega)) (sh_14 z _) rfl rfl (Nat.le_of_ble_eq_true rfl) (Nat.le_of_ble_eq_true rfl) rfl ?_
  refine x_planLike (m := m) (o := 16) (by omega) (by omega) (by omega) (fun c2 g1 g2 g3 => ?_)
  refine r_aloadN 14 dX9_addPlan_13 rfl rfl ?_
  refine r_dupr 15 dX9_addPlan_14 rfl ?_
  refine r_geti 18 dX9_addPlan_15 rfl fX9_21 (by decide) (sh_8 z _) rfl ?_
  rw [g1 8 0 3 (by omega), h0]
  refine r_iconst 19 dX9_addPlan_18 rfl ?_
  refine r_iadd 20 dX9_addPlan_19 rfl ?_
  refine r_puti 23 dX9_addPlan_20 rfl pX9_21 (by decide) (sh_8 z _) rfl ?_
  refine r_aloadN 24 dX9_addPlan_23 rfl rfl ?_
  refine r_geti 27 dX9_addPlan_24 rfl fX9_21 (by decide) (sh_8 z _) rfl ?_
  rw [cu_ap, if_pos ⟨rfl, rfl, rfl⟩]
  refine r_iconst 28 dX9_addPlan_27 rfl ?_
  refine r_isub 29 dX9_addPlan_28 rfl ?_
  rw [show (m : Int) + 1 - 1 = (m : Int) by omega]
  exact r_ret dX9_addPlan_29 rfl (k c2 g1 g2 g3)
theorem x_plan {z : xZ} {d : Nat} {Q : tQ} {c : tC} {L : tL} {s : Int} (hz : zF z) (hR : RX c) (hS : SH c L) (hs : inR s) (k : ∀ r w c2, (∀ g (i : Nat) j, g ≠ 30 → g ≠ 31 → ¬ (i = 16 ∧ PG g) → ¬ (w = 0 ∧ ((PG g ∧ (i : Int) = c 50 0 6) ∨ (g = 8 ∧ i = 0 ∧ j = 3))) → c2 g i j = c g i j) → c2 30 0 4 = flPlan c L s (c 30 0 4) → (w = 0 → c2 8 0 3 = c 50 0 6 + 1 ∧ PK c2 (c 50 0 6).toNat (rPlan c L s).2.1) → (r, w) = gPlan c L s → Q (some (.int (iI r))) (xRe c2 w) L) : En z (d + 20) MX10_plan Q 0 [some (.ref (xad z 0 0)), some (.int (iI s)), none] [] c L := by
  have hs1 := hs.1
  have hs2 := hs.2
  have hb := fBar_rng (c 51) s
  have hg := R0_rng hR
  have hc := R0_scal hR
  refine r_aloadN 1 dX10_plan_0 rfl rfl ?_
  refine r_iloadN 2 dX10_plan_1 rfl rfl ?_
  refine r_cv1 5 dX10_plan_2 rfl gX10_68 rfl (by decide) (sh_0 z _) rfl rfl (Nat.le_of_ble_eq_true rfl) (Nat.le_of_ble_eq_true rfl) rfl ?_
  refine x_bar (RX_MG hR) hS (by assumption) (fun r2 e2 => ?_)
  refine r_istore2 6 dX10_plan_5 rfl rfl (by decide) ?_
  refine r_iloadN 7 dX10_plan_6 rfl rfl ?_
  refine r_ifeq 16 10 dX10_plan_7 rfl (by decide) (by omega) (fun h7 => ?_) (fun h7 => ?_)
  · have hz9 := fBar_0 (A := c 51) (s := s) (by omega)
    have hf0 : fBar (c 51) s = 0 := by omega
    obtain ⟨sh, hsh0⟩ := Int.eq_ofNat_of_zero_le (show 0 ≤ s by omega)
    subst hsh0
    rw [Int.toNat_natCast] at hz9
    have hi9 := SH_i hS sh (by omega)
    have hi2 := hi9
    unfold SI at hi2
    have hSR := SR_of hS (show sh < 8 by omega) (by omega)
    have hrl : rPlan c L (sh : Int) = tItems (eT L sh) (c 51 46 sh).toNat (c 50 0 2) 8 0 [] := rfl
    refine r_aloadN 17 dX10_plan_16 rfl rfl ?_
    refine r_getq 20 dX10_plan_17 rfl fX10_36 (by decide) (sh_0 z _) rfl ?_
    refine r_aloadN 21 dX10_plan_20 rfl rfl ?_
    refine r_getq 24 dX10_plan_21 rfl fX10_11 (by decide) (sh_0 z _) rfl ?_
    refine r_iloadN 25 dX10_plan_24 rfl rfl ?_
    refine r_aald 26 dX10_plan_25 (sh) rfl rfl (by decide) (sh_1 z _) rfl (by decide) (by omega) (by omega) ?_
    refine r_aloadN 27 dX10_plan_26 rfl rfl ?_
    refine r_getq 30 dX10_plan_27 rfl fX10_26 (by decide) (sh_0 z _) rfl ?_
    refine r_geti 33 dX10_plan_30 rfl fX10_161 (by decide) (sh_8 z _) rfl ?_
    rw [hc.2.2.1]
    refine r_cv2 36 dX10_plan_33 rfl gX10_217 rfl (by decide) (sh_30 z _) rfl rfl (Nat.le_of_ble_eq_true rfl) (Nat.le_of_ble_eq_true rfl) rfl ?_
    refine x_readPlan hz hg.2.2.1 hSR (by omega) (fun j => eT_in L sh j) (fun c2 o1 o2 o3 o4 => ?_) (fun c2 o1 o2 o3 => ?_)
    · refine r_ifneT 46 0 dX10_plan_36 (by decide) (by decide) (by decide) ?_
      refine r_aloadN 47 dX10_plan_46 rfl rfl ?_
      refine r_getq 50 dX10_plan_47 rfl fX10_26 (by decide) (sh_0 z _) rfl ?_
      refine r_geti 53 dX10_plan_50 rfl fX10_221 (by decide) (sh_8 z _) rfl ?_
      rw [o2 8 0 3 (by omega) (by omega) (by omega), hc.2.2.2.1]
      refine r_bipush 55 dX10_plan_53 rfl (by decide) ?_
      refine r_iclt 65 58 dX10_plan_55 rfl (by decide) (by omega) (by omega) (fun h55 => ?_) (fun h55 => ?_)
      · obtain ⟨m, hm⟩ := Int.eq_ofNat_of_zero_le (show 0 ≤ c 50 0 6 by omega)
        refine r_aloadN 66 dX10_plan_65 rfl rfl ?_
        refine r_getq 69 dX10_plan_66 rfl fX10_26 (by decide) (sh_0 z _) rfl ?_
        refine r_aloadN 70 dX10_plan_69 rfl rfl ?_
        refine r_getq 73 dX10_plan_70 rfl fX10_36 (by decide) (sh_0 z _) rfl ?_
        refine r_getq 76 dX10_plan_73 rfl fX10_224 (by decide) (sh_30 z _) rfl ?_
        refine r_cv1 79 dX10_plan_76 rfl gX10_228 rfl (by decide) (sh_8 z _) rfl rfl (Nat.le_of_ble_eq_true rfl) (Nat.le_of_ble_eq_true rfl) rfl ?_
        refine x_addPlan (m := m) (by omega) (by rw [o2 8 0 3 (by omega) (by omega) (by omega), hc.2.2.2.1, hm]) (fun c3 g1 g2 g3 => ?_)
        have hrr := (tItems_rng (T := eT L sh) (e := (c 51 46 sh).toNat) (n := c 50 0 2) 8 0 [] (Nat.zero_le _) (fun x hx => absurd hx List.not_mem_nil)).2.2
        rw [← hrl] at hrr o4
        have hrr2 : (rPlan c L (sh : Int)).2.1.length ≤ 8 := by
          have : ([] : List tI).length = 0 := rfl
          omega
        refine r_ret dX10_plan_79 rfl (k _ 0 (cu c3 8 0 3 ((m : Int) + 1)) (fun g i j n1 n2 n3 n4 => ?_) ?_ (fun _ => ⟨?_, ?_, fun j hj => ?_⟩) ?_)
        · rw [cu_ap, if_neg (by omega), g1 g i j (by omega)]
          exact o2 g i j n1 n2 n3
        · rw [cu_ap, if_neg (by omega), g1 30 0 4 (by omega)]
          unfold flPlan; rw [if_neg (by omega), if_pos (by rw [hrl, o1])]; exact o3
        · rw [cu_ap, if_pos ⟨rfl, rfl, rfl⟩, hm]
        · rw [cu_ap, if_neg (by omega), hm, Int.toNat_natCast, g2]
          exact o4.1
        · have := o4.2 j hj
          rw [hm, Int.toNat_natCast, cu_ap, if_neg (by omega), cu_ap, if_neg (by omega), cu_ap, if_neg (by omega), cu_ap, if_neg (by omega), cu_ap, if_neg (by omega), g3 45 j (by omega) (by omega) (by omega), g3 41 j (by omega) (by omega) (by omega), g3 42 j (by omega) (by omega) (by omega), g3 43 j (by omega) (by omega) (by omega), g3 44 j (by omega) (by omega) (by omega)]
          exact this
        · unfold gPlan; rw [if_neg (by omega), if_pos (by rw [hrl, o1]), if_neg (by omega), hm]
      · refine r_aloadN 59 dX10_plan_58 rfl rfl ?_
        refine r_bipush 61 dX10_plan_59 rfl (by decide) ?_
        refine r_cv1 64 dX10_plan_61 rfl gX10_60 rfl (by decide) (sh_0 z _) rfl rfl (Nat.le_of_ble_eq_true rfl) (Nat.le_of_ble_eq_true rfl) rfl ?_
        refine x_refuse (k0 := 7) (by decide) (by decide) ?_
        refine r_ret dX10_plan_64 rfl (k _ 7 c2 (fun g i j n1 n2 n3 _ => o2 g i j n1 n2 n3) ?_ (fun q => absurd q (by decide)) ?_)
        · unfold flPlan; rw [if_neg (by omega), if_pos (by rw [hrl, o1])]; exact o3
        · unfold gPlan; rw [if_neg (by omega), if_pos (by rw [hrl, o1]), if_pos (by omega)]
    · refine r_ifneF 39 dX10_plan_36 rfl 46 (by decide) (by decide) (by decide) ?_
      refine r_aloadN 40 dX10_plan_39 rfl rfl ?_
      refine r_bipush 42 dX10_plan_40 rfl (by decide) ?_
      refine r_cv1 45 dX10_plan_42 rfl gX10_60 rfl (by decide) (sh_0 z _) rfl rfl (Nat.le_of_ble_eq_true rfl) (Nat.le_of_ble_eq_true rfl) rfl ?_
      refine x_refuse (k0 := 6) (by decide) (by decide) ?_
      refine r_ret dX10_plan_45 rfl (k _ 6 c2 (fun g i j n1 n2 n3 _ => o2 g i j n1 n2 n3) ?_ (fun q => absurd q (by decide)) ?_)
      · unfold flPlan; rw [if_neg (by omega), if_neg (by rw [hrl, o1]; decide), hrl]; exact o3
      · unfold gPlan; rw [if_neg (by omega), if_neg (by rw [hrl, o1]; decide)]
  · refine r_aloadN 11 dX10_plan_10 rfl rfl ?_
    refine r_iloadN 12 dX10_plan_11 rfl rfl ?_
    refine r_cv1 15 dX10_plan_12 rfl gX10_60 rfl (by decide) (sh_0 z _) rfl rfl (Nat.le_of_ble_eq_true rfl) (Nat.le_of_ble_eq_true rfl) rfl ?_
    refine x_refuse (k0 := (-(fBar (c 51) s)).toNat) (by omega) (by omega) ?_
    refine r_ret dX10_plan_15 rfl (k _ (-(fBar (c 51) s)).toNat c (fun _ _ _ _ _ _ _ => rfl) (by unfold flPlan; rw [if_pos (by omega)]) (fun q => absurd q (by omega)) (by unfold gPlan; rw [if_pos (by omega), e2]))
