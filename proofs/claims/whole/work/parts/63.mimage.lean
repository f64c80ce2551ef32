/-! ===== the model's image ===== -/
def kpS (c : tC) (f n o : Nat) : tC := fun g i j => if g = 51 ∧ i = 76 ∧ o ≤ j ∧ j < o + n then c 51 f (j - o) else c g i j
def kpR (c : tC) (f n o : Nat) : tC := fun g i j => if g = 51 ∧ i = f ∧ j < n then c 51 76 (o + j) else c g i j
theorem kpS_0 (c : tC) (f o : Nat) : kpS c f 0 o = c := by
  funext g i j
  unfold kpS
  rw [if_neg (by omega)]
theorem kpR_0 (c : tC) (f o : Nat) : kpR c f 0 o = c := by
  funext g i j
  unfold kpR
  rw [if_neg (by omega)]
theorem kpS_at (c : tC) (f n o g i j : Nat) : kpS c f n o g i j = if g = 51 ∧ i = 76 ∧ o ≤ j ∧ j < o + n then c 51 f (j - o) else c g i j := rfl
theorem kpR_at (c : tC) (f n o g i j : Nat) : kpR c f n o g i j = if g = 51 ∧ i = f ∧ j < n then c 51 76 (o + j) else c g i j := rfl
theorem kpS_s {c : tC} {f i o : Nat} (hf : f ≠ 76) : cu (kpS c f i o) 51 76 (o + i) (kpS c f i o 51 f i) = kpS c f (i + 1) o := by
  funext g a j
  rw [cu_ap, kpS_at, kpS_at, kpS_at, if_neg (show ¬ (51 = 51 ∧ f = 76 ∧ o ≤ i ∧ i < o + i) by omega)]
  by_cases h : g = 51 ∧ a = 76 ∧ j = o + i
  · rw [if_pos h, if_pos (by omega), show j - o = i by omega]
  · rw [if_neg h]
    by_cases h2 : g = 51 ∧ a = 76 ∧ o ≤ j ∧ j < o + i
    · rw [if_pos h2, if_pos (by omega)]
    · rw [if_neg h2, if_neg (by omega)]
theorem kpR_s {c : tC} {f i o : Nat} (hf : f ≠ 76) : cu (kpR c f i o) 51 f i (kpR c f i o 51 76 (o + i)) = kpR c f (i + 1) o := by
  funext g a j
  rw [cu_ap, kpR_at, kpR_at, kpR_at, if_neg (show ¬ (51 = 51 ∧ 76 = f ∧ o + i < i) by omega)]
  by_cases h : g = 51 ∧ a = f ∧ j = i
  · rw [if_pos h, if_pos (by omega), h.2.2]
  · rw [if_neg h]
    by_cases h2 : g = 51 ∧ a = f ∧ j < i
    · rw [if_pos h2, if_pos (by omega)]
    · rw [if_neg h2, if_neg (by omega)]
theorem tml_le (f : Nat) : tml.getD f 0 ≤ 2147483647 := by
  by_cases h : f < tml.length
  · have : ∀ x ∈ tml, x ≤ 2147483647 := by decide
    rw [List.getD_eq_getElem?_getD, List.getElem?_eq_getElem h]
    exact this _ (List.getElem_mem h)
  · rw [List.getD_eq_getElem?_getD, List.getElem?_eq_none (by omega)]
    exact Nat.zero_le _
theorem m_keepS_loop {z : xZ} {d : Nat} {Q : tQ} {L : tL} {f n0 o0 : Nat} {n o : Int} {c0 : tC} (hf : f < 77) (hf2 : f ≠ 76) (hn : n = (n0 : Int)) (ho : o = (o0 : Int)) (hl : n0 ≤ tml.getD f 0) (hb : o0 + n0 ≤ 1100) (kk : Q (some (.int (iI (o + n)))) (kpS c0 f n0 o0) L) : ∀ (k i : Nat) (c : tC), i + k = n0 → c = kpS c0 f i o0 → En z (d + 1) MX11_keeps Q 3 [some (.ref (xad z 50 0)), some (.ref (xad z 51 f)), some (.int (iI n)), some (.int (iI o)), some (.int (iI 0)), some (.int (iI (i : Int)))] [] c L := by
  have hlr := tml_le f
  intro k
  induction k with
  | zero =>
    intro i c hi hc
    refine r_iload 5 dX11_keeps_3 rfl rfl ?_
    refine r_iloadN 6 dX11_keeps_5 rfl rfl ?_
    refine r_icge 49 9 dX11_keeps_6 rfl (by decide) (by omega) (by omega) (fun h6 => ?_) (fun h6 => ?_)
    · refine r_iloadN 50 dX11_keeps_49 rfl rfl ?_
      refine r_iloadN 51 dX11_keeps_50 rfl rfl ?_
      refine r_iadd 52 dX11_keeps_51 rfl ?_
      have e9 : i = n0 := by omega
      subst e9
      rw [hc]
      exact r_ret dX11_keeps_52 rfl kk
    · exfalso; omega
  | succ k ih =>
    intro i c hi hc
    refine r_iload 5 dX11_keeps_3 rfl rfl ?_
    refine r_iloadN 6 dX11_keeps_5 rfl rfl ?_
    refine r_icge 49 9 dX11_keeps_6 rfl (by decide) (by omega) (by omega) (fun h6 => ?_) (fun h6 => ?_)
    · exfalso; omega
    · refine r_iload 11 dX11_keeps_9 rfl rfl ?_
      refine r_ifeqT 30 0 dX11_keeps_11 (by decide) (by decide) (by decide) ?_
      refine r_aloadN 31 dX11_keeps_30 rfl rfl ?_
      refine r_getq 34 dX11_keeps_31 rfl fX11_168 (by decide) (sh_50 z _) rfl ?_
      refine r_iloadN 35 dX11_keeps_34 rfl rfl ?_
      refine r_iload 37 dX11_keeps_35 rfl rfl ?_
      refine r_iadd 38 dX11_keeps_37 rfl ?_
      rw [show o + (i : Int) = ((o0 + i : Nat) : Int) by omega]
      refine r_aloadN 39 dX11_keeps_38 rfl rfl ?_
      refine r_iload 41 dX11_keeps_39 rfl rfl ?_
      refine r_iald 42 dX11_keeps_41 (i) rfl rfl hf (sh_51 z _) hlr (by omega) (by omega) ?_
      refine r_iast (n := 1100) 43 dX11_keeps_42 (o0 + i) rfl rfl (by decide) (sh_51 z _) (by decide) (by omega) (by omega) ?_
      refine r_iinc5 46 dX11_keeps_43 rfl rfl (by decide) ?_
      refine r_goto 3 dX11_keeps_46 (by decide) ?_
      have e : cu c 51 76 (o0 + i) (c 51 f i) = kpS c0 f (i + 1) o0 := by rw [hc]; exact kpS_s hf2
      rw [e]
      exact ih (i + 1) _ (by omega) rfl
theorem m_keepS {z : xZ} {d : Nat} {Q : tQ} {c : tC} {L : tL} {f n0 o0 : Nat} {n o : Int} (hf : f < 77) (hf2 : f ≠ 76) (hn : n = (n0 : Int)) (ho : o = (o0 : Int)) (hl : n0 ≤ tml.getD f 0) (hb : o0 + n0 ≤ 1100) (k : Q (some (.int (iI (o + n)))) (kpS c f n0 o0) L) : En z (d + 1) MX11_keeps Q 0 [some (.ref (xad z 50 0)), some (.ref (xad z 51 f)), some (.int (iI n)), some (.int (iI o)), some (.int (iI 0)), none] [] c L := by
  refine r_iconst 1 dX11_keeps_0 rfl ?_
  refine r_istore5 3 dX11_keeps_1 rfl rfl (by decide) ?_
  exact m_keepS_loop hf hf2 hn ho hl hb k n0 0 c (by omega) (kpS_0 _ _ _).symm
theorem m_keepR_loop {z : xZ} {d : Nat} {Q : tQ} {L : tL} {f n0 o0 : Nat} {n o : Int} {c0 : tC} (hf : f < 77) (hf2 : f ≠ 76) (hn : n = (n0 : Int)) (ho : o = (o0 : Int)) (hl : n0 ≤ tml.getD f 0) (hb : o0 + n0 ≤ 1100) (kk : Q (some (.int (iI (o + n)))) (kpR c0 f n0 o0) L) : ∀ (k i : Nat) (c : tC), i + k = n0 → c = kpR c0 f i o0 → En z (d + 1) MX11_keeps Q 3 [some (.ref (xad z 50 0)), some (.ref (xad z 51 f)), some (.int (iI n)), some (.int (iI o)), some (.int (iI 1)), some (.int (iI (i : Int)))] [] c L := by
  have hlr := tml_le f
  intro k
  induction k with
  | zero =>
    intro i c hi hc
    refine r_iload 5 dX11_keeps_3 rfl rfl ?_
    refine r_iloadN 6 dX11_keeps_5 rfl rfl ?_
    refine r_icge 49 9 dX11_keeps_6 rfl (by decide) (by omega) (by omega) (fun h6 => ?_) (fun h6 => ?_)
    · refine r_iloadN 50 dX11_keeps_49 rfl rfl ?_
      refine r_iloadN 51 dX11_keeps_50 rfl rfl ?_
      refine r_iadd 52 dX11_keeps_51 rfl ?_
      have e9 : i = n0 := by omega
      subst e9
      rw [hc]
      exact r_ret dX11_keeps_52 rfl kk
    · exfalso; omega
  | succ k ih =>
    intro i c hi hc
    refine r_iload 5 dX11_keeps_3 rfl rfl ?_
    refine r_iloadN 6 dX11_keeps_5 rfl rfl ?_
    refine r_icge 49 9 dX11_keeps_6 rfl (by decide) (by omega) (by omega) (fun h6 => ?_) (fun h6 => ?_)
    · exfalso; omega
    · refine r_iload 11 dX11_keeps_9 rfl rfl ?_
      refine r_ifeqF 14 dX11_keeps_11 rfl 30 (by decide) (by decide) (by decide) ?_
      refine r_aloadN 15 dX11_keeps_14 rfl rfl ?_
      refine r_iload 17 dX11_keeps_15 rfl rfl ?_
      refine r_aloadN 18 dX11_keeps_17 rfl rfl ?_
      refine r_getq 21 dX11_keeps_18 rfl fX11_168 (by decide) (sh_50 z _) rfl ?_
      refine r_iloadN 22 dX11_keeps_21 rfl rfl ?_
      refine r_iload 24 dX11_keeps_22 rfl rfl ?_
      refine r_iadd 25 dX11_keeps_24 rfl ?_
      rw [show o + (i : Int) = ((o0 + i : Nat) : Int) by omega]
      refine r_iald (n := 1100) 26 dX11_keeps_25 (o0 + i) rfl rfl (by decide) (sh_51 z _) (by decide) (by omega) (by omega) ?_
      refine r_iast 27 dX11_keeps_26 (i) rfl rfl hf (sh_51 z _) hlr (by omega) (by omega) ?_
      refine r_goto 43 dX11_keeps_27 (by decide) ?_
      refine r_iinc5 46 dX11_keeps_43 rfl rfl (by decide) ?_
      refine r_goto 3 dX11_keeps_46 (by decide) ?_
      have e : cu c 51 f i (c 51 76 (o0 + i)) = kpR c0 f (i + 1) o0 := by rw [hc]; exact kpR_s hf2
      rw [e]
      exact ih (i + 1) _ (by omega) rfl
theorem m_keepR {z : xZ} {d : Nat} {Q : tQ} {c : tC} {L : tL} {f n0 o0 : Nat} {n o : Int} (hf : f < 77) (hf2 : f ≠ 76) (hn : n = (n0 : Int)) (ho : o = (o0 : Int)) (hl : n0 ≤ tml.getD f 0) (hb : o0 + n0 ≤ 1100) (k : Q (some (.int (iI (o + n)))) (kpR c f n0 o0) L) : En z (d + 1) MX11_keeps Q 0 [some (.ref (xad z 50 0)), some (.ref (xad z 51 f)), some (.int (iI n)), some (.int (iI o)), some (.int (iI 1)), none] [] c L := by
  refine r_iconst 1 dX11_keeps_0 rfl ?_
  refine r_istore5 3 dX11_keeps_1 rfl rfl (by decide) ?_
  exact m_keepR_loop hf hf2 hn ho hl hb k n0 0 c (by omega) (kpR_0 _ _ _).symm
def ktb : List (Nat × Nat) := [(11, 6), (12, 64), (13, 10), (14, 12), (15, 12), (16, 12), (17, 12), (18, 12), (19, 14), (20, 14), (21, 14), (22, 14), (23, 14), (24, 14), (25, 14), (26, 14), (27, 60), (28, 60), (29, 60), (30, 60), (31, 60), (32, 20), (33, 20), (34, 20), (35, 30), (36, 30), (37, 30), (38, 8), (39, 64), (40, 64), (41, 64), (42, 64), (43, 64)]
def svA : List (Nat × Nat) → Nat → tC → tC
  | [], _, c => c
  | x :: l, o, c => svA l (o + x.2) (kpS c x.1 x.2 o)
def rsA : List (Nat × Nat) → Nat → tC → tC
  | [], _, c => c
  | x :: l, o, c => rsA l (o + x.2) (kpR c x.1 x.2 o)
/-- where row f begins / how long it is -/
def kof : List (Nat × Nat) → Nat → Nat → Nat
  | [], o, _ => o
  | x :: l, o, f => if x.1 = f then o else kof l (o + x.2) f
def kln : List (Nat × Nat) → Nat → Nat
  | [], _ => 0
  | x :: l, f => if x.1 = f then x.2 else kln l f
theorem svA_fr : ∀ (l : List (Nat × Nat)) (o : Nat) (c : tC) (g i j : Nat), ¬ (g = 51 ∧ i = 76 ∧ o ≤ j) → svA l o c g i j = c g i j
  | [], _, _, _, _, _, _ => rfl
  | x :: l, o, c, g, i, j, h => by
    rw [svA, svA_fr l (o + x.2) _ g i j (by omega), kpS_at, if_neg (by omega)]
theorem svA_at : ∀ (l : List (Nat × Nat)) (o : Nat) (c : tC) (f j : Nat), f ≠ 76 → (∀ x ∈ l, x.1 ≠ 76) → j < kln l f → svA l o c 51 76 (kof l o f + j) = c 51 f j
  | [], _, _, _, _, _, _, h => absurd h (Nat.not_lt_zero _)
  | x :: l, o, c, f, j, hf, hl, h => by
    rw [kln] at h
    rw [kof, svA]
    by_cases q : x.1 = f
    · rw [if_pos q] at h
      rw [if_pos q, svA_fr l (o + x.2) _ 51 76 (o + j) (by omega), kpS_at, if_pos (by omega), q, show o + j - o = j by omega]
    · rw [if_neg q] at h
      rw [if_neg q, svA_at l (o + x.2) _ f j hf (fun y hy => hl y (List.mem_cons_of_mem _ hy)) h, kpS_at, if_neg (by omega)]
theorem rsA_fr : ∀ (l : List (Nat × Nat)) (o : Nat) (c : tC) (g i j : Nat), ¬ (g = 51 ∧ i ∈ l.map (·.1)) → rsA l o c g i j = c g i j
  | [], _, _, _, _, _, _ => rfl
  | x :: l, o, c, g, i, j, h => by
    rw [rsA, rsA_fr l (o + x.2) _ g i j (fun q => h ⟨q.1, List.mem_cons_of_mem _ q.2⟩), kpR_at, if_neg (fun q => h ⟨q.1, by rw [q.2.1]; exact List.mem_cons_self⟩)]
theorem rsA_at : ∀ (l : List (Nat × Nat)) (o : Nat) (c : tC) (f j : Nat), (l.map (·.1)).Nodup → (∀ x ∈ l, x.1 ≠ 76) → j < kln l f → rsA l o c 51 f j = c 51 76 (kof l o f + j)
  | [], _, _, _, _, _, _, h => absurd h (Nat.not_lt_zero _)
  | x :: l, o, c, f, j, hd, hl, h => by
    rw [kln] at h
    rw [kof, rsA]
    rw [List.map_cons, List.nodup_cons] at hd
    have h76 := hl x List.mem_cons_self
    by_cases q : x.1 = f
    · rw [if_pos q] at h
      rw [if_pos q, rsA_fr l (o + x.2) _ 51 f j (fun y => hd.1 (by rw [q]; exact y.2)), kpR_at, if_pos ⟨rfl, q.symm, h⟩]
    · rw [if_neg q] at h
      rw [if_neg q, rsA_at l (o + x.2) _ f j hd.2 (fun y hy => hl y (List.mem_cons_of_mem _ hy)) h, kpR_at, if_neg (by omega)]
theorem ktb_76 : ∀ x ∈ ktb, x.1 ≠ 76 := by decide
theorem ktb_nd : (ktb.map (·.1)).Nodup := by decide
theorem ktb_ln : ∀ f, f < 44 → 11 ≤ f → kln ktb f = tml.getD f 0 := by decide
theorem ktb_in : ∀ f, f ∈ ktb.map (·.1) → 11 ≤ f ∧ f ≤ 43 := by decide
abbrev koff (f : Nat) : Nat := kof ktb 0 f
theorem koff_le : ∀ f, f < 44 → 11 ≤ f → koff f + tml.getD f 0 ≤ 1100 := by decide
theorem m_allS {z : xZ} {d : Nat} {Q : tQ} {c : tC} {L : tL}   (k : Q none (svA ktb 0 c) L) : En z (d + 2) MX11_all Q 0 [some (.ref (xad z 50 0)), some (.int (iI 0)), none] [] c L := by
  refine r_aloadN 1 dX11_all_0 rfl rfl ?_
  refine r_aloadN 2 dX11_all_1 rfl rfl ?_
  refine r_getq 5 dX11_all_2 rfl fX11_20 (by decide) (sh_50 z _) rfl ?_
  refine r_bipush 7 dX11_all_5 rfl (by decide) ?_
  refine r_iconst 8 dX11_all_7 rfl ?_
  refine r_iloadN 9 dX11_all_8 rfl rfl ?_
  refine r_cv4 12 dX11_all_9 rfl gX11_367 rfl (by decide) (sh_50 z _) rfl rfl (Nat.le_of_ble_eq_true rfl) (Nat.le_of_ble_eq_true rfl) rfl ?_
  refine m_keepS (f := 11) (n0 := 6) (o0 := 0) (by decide) (by decide) rfl rfl (by decide) (by decide) ?_
  refine r_istore2 13 dX11_all_12 rfl rfl (by decide) ?_
  refine r_aloadN 14 dX11_all_13 rfl rfl ?_
  refine r_aloadN 15 dX11_all_14 rfl rfl ?_
  refine r_getq 18 dX11_all_15 rfl fX11_23 (by decide) (sh_50 z _) rfl ?_
  refine r_bipush 20 dX11_all_18 rfl (by decide) ?_
  refine r_iloadN 21 dX11_all_20 rfl rfl ?_
  refine r_iloadN 22 dX11_all_21 rfl rfl ?_
  refine r_cv4 25 dX11_all_22 rfl gX11_367 rfl (by decide) (sh_50 z _) rfl rfl (Nat.le_of_ble_eq_true rfl) (Nat.le_of_ble_eq_true rfl) rfl ?_
  refine m_keepS (f := 12) (n0 := 64) (o0 := 6) (by decide) (by decide) rfl (by decide) (by decide) (by decide) ?_
  refine r_istore2 26 dX11_all_25 rfl rfl (by decide) ?_
  refine r_aloadN 27 dX11_all_26 rfl rfl ?_
  refine r_aloadN 28 dX11_all_27 rfl rfl ?_
  refine r_getq 31 dX11_all_28 rfl fX11_26 (by decide) (sh_50 z _) rfl ?_
  refine r_bipush 33 dX11_all_31 rfl (by decide) ?_
  refine r_iloadN 34 dX11_all_33 rfl rfl ?_
  refine r_iloadN 35 dX11_all_34 rfl rfl ?_
  refine r_cv4 38 dX11_all_35 rfl gX11_367 rfl (by decide) (sh_50 z _) rfl rfl (Nat.le_of_ble_eq_true rfl) (Nat.le_of_ble_eq_true rfl) rfl ?_
  refine m_keepS (f := 13) (n0 := 10) (o0 := 70) (by decide) (by decide) rfl (by decide) (by decide) (by decide) ?_
  refine r_istore2 39 dX11_all_38 rfl rfl (by decide) ?_
  refine r_aloadN 40 dX11_all_39 rfl rfl ?_
  refine r_aloadN 41 dX11_all_40 rfl rfl ?_
  refine r_getq 44 dX11_all_41 rfl fX11_29 (by decide) (sh_50 z _) rfl ?_
  refine r_bipush 46 dX11_all_44 rfl (by decide) ?_
  refine r_iloadN 47 dX11_all_46 rfl rfl ?_
  refine r_iloadN 48 dX11_all_47 rfl rfl ?_
  refine r_cv4 51 dX11_all_48 rfl gX11_367 rfl (by decide) (sh_50 z _) rfl rfl (Nat.le_of_ble_eq_true rfl) (Nat.le_of_ble_eq_true rfl) rfl ?_
  refine m_keepS (f := 14) (n0 := 12) (o0 := 80) (by decide) (by decide) rfl (by decide) (by decide) (by decide) ?_
  refine r_istore2 52 dX11_all_51 rfl rfl (by decide) ?_
  refine r_aloadN 53 dX11_all_52 rfl rfl ?_
  refine r_aloadN 54 dX11_all_53 rfl rfl ?_
  refine r_getq 57 dX11_all_54 rfl fX11_32 (by decide) (sh_50 z _) rfl ?_
  refine r_bipush 59 dX11_all_57 rfl (by decide) ?_
  refine r_iloadN 60 dX11_all_59 rfl rfl ?_
  refine r_iloadN 61 dX11_all_60 rfl rfl ?_
  refine r_cv4 64 dX11_all_61 rfl gX11_367 rfl (by decide) (sh_50 z _) rfl rfl (Nat.le_of_ble_eq_true rfl) (Nat.le_of_ble_eq_true rfl) rfl ?_
  refine m_keepS (f := 15) (n0 := 12) (o0 := 92) (by decide) (by decide) rfl (by decide) (by decide) (by decide) ?_
  refine r_istore2 65 dX11_all_64 rfl rfl (by decide) ?_
  refine r_aloadN 66 dX11_all_65 rfl rfl ?_
  refine r_aloadN 67 dX11_all_66 rfl rfl ?_
  refine r_getq 70 dX11_all_67 rfl fX11_35 (by decide) (sh_50 z _) rfl ?_
  refine r_bipush 72 dX11_all_70 rfl (by decide) ?_
  refine r_iloadN 73 dX11_all_72 rfl rfl ?_
  refine r_iloadN 74 dX11_all_73 rfl rfl ?_
  refine r_cv4 77 dX11_all_74 rfl gX11_367 rfl (by decide) (sh_50 z _) rfl rfl (Nat.le_of_ble_eq_true rfl) (Nat.le_of_ble_eq_true rfl) rfl ?_
  refine m_keepS (f := 16) (n0 := 12) (o0 := 104) (by decide) (by decide) rfl (by decide) (by decide) (by decide) ?_
  refine r_istore2 78 dX11_all_77 rfl rfl (by decide) ?_
  refine r_aloadN 79 dX11_all_78 rfl rfl ?_
  refine r_aloadN 80 dX11_all_79 rfl rfl ?_
  refine r_getq 83 dX11_all_80 rfl fX11_38 (by decide) (sh_50 z _) rfl ?_
  refine r_bipush 85 dX11_all_83 rfl (by decide) ?_
  refine r_iloadN 86 dX11_all_85 rfl rfl ?_
  refine r_iloadN 87 dX11_all_86 rfl rfl ?_
  refine r_cv4 90 dX11_all_87 rfl gX11_367 rfl (by decide) (sh_50 z _) rfl rfl (Nat.le_of_ble_eq_true rfl) (Nat.le_of_ble_eq_true rfl) rfl ?_
  refine m_keepS (f := 17) (n0 := 12) (o0 := 116) (by decide) (by decide) rfl (by decide) (by decide) (by decide) ?_
  refine r_istore2 91 dX11_all_90 rfl rfl (by decide) ?_
  refine r_aloadN 92 dX11_all_91 rfl rfl ?_
  refine r_aloadN 93 dX11_all_92 rfl rfl ?_
  refine r_getq 96 dX11_all_93 rfl fX11_41 (by decide) (sh_50 z _) rfl ?_
  refine r_bipush 98 dX11_all_96 rfl (by decide) ?_
  refine r_iloadN 99 dX11_all_98 rfl rfl ?_
  refine r_iloadN 100 dX11_all_99 rfl rfl ?_
  refine r_cv4 103 dX11_all_100 rfl gX11_367 rfl (by decide) (sh_50 z _) rfl rfl (Nat.le_of_ble_eq_true rfl) (Nat.le_of_ble_eq_true rfl) rfl ?_
  refine m_keepS (f := 18) (n0 := 12) (o0 := 128) (by decide) (by decide) rfl (by decide) (by decide) (by decide) ?_
  refine r_istore2 104 dX11_all_103 rfl rfl (by decide) ?_
  refine r_aloadN 105 dX11_all_104 rfl rfl ?_
  refine r_aloadN 106 dX11_all_105 rfl rfl ?_
  refine r_getq 109 dX11_all_106 rfl fX11_44 (by decide) (sh_50 z _) rfl ?_
  refine r_bipush 111 dX11_all_109 rfl (by decide) ?_
  refine r_iloadN 112 dX11_all_111 rfl rfl ?_
  refine r_iloadN 113 dX11_all_112 rfl rfl ?_
  refine r_cv4 116 dX11_all_113 rfl gX11_367 rfl (by decide) (sh_50 z _) rfl rfl (Nat.le_of_ble_eq_true rfl) (Nat.le_of_ble_eq_true rfl) rfl ?_
  refine m_keepS (f := 19) (n0 := 14) (o0 := 140) (by decide) (by decide) rfl (by decide) (by decide) (by decide) ?_
  refine r_istore2 117 dX11_all_116 rfl rfl (by decide) ?_
  refine r_aloadN 118 dX11_all_117 rfl rfl ?_
  refine r_aloadN 119 dX11_all_118 rfl rfl ?_
  refine r_getq 122 dX11_all_119 rfl fX11_47 (by decide) (sh_50 z _) rfl ?_
  refine r_bipush 124 dX11_all_122 rfl (by decide) ?_
  refine r_iloadN 125 dX11_all_124 rfl rfl ?_
  refine r_iloadN 126 dX11_all_125 rfl rfl ?_
  refine r_cv4 129 dX11_all_126 rfl gX11_367 rfl (by decide) (sh_50 z _) rfl rfl (Nat.le_of_ble_eq_true rfl) (Nat.le_of_ble_eq_true rfl) rfl ?_
  refine m_keepS (f := 20) (n0 := 14) (o0 := 154) (by decide) (by decide) rfl (by decide) (by decide) (by decide) ?_
  refine r_istore2 130 dX11_all_129 rfl rfl (by decide) ?_
  refine r_aloadN 131 dX11_all_130 rfl rfl ?_
  refine r_aloadN 132 dX11_all_131 rfl rfl ?_
  refine r_getq 135 dX11_all_132 rfl fX11_50 (by decide) (sh_50 z _) rfl ?_
  refine r_bipush 137 dX11_all_135 rfl (by decide) ?_
  refine r_iloadN 138 dX11_all_137 rfl rfl ?_
  refine r_iloadN 139 dX11_all_138 rfl rfl ?_
  refine r_cv4 142 dX11_all_139 rfl gX11_367 rfl (by decide) (sh_50 z _) rfl rfl (Nat.le_of_ble_eq_true rfl) (Nat.le_of_ble_eq_true rfl) rfl ?_
  refine m_keepS (f := 21) (n0 := 14) (o0 := 168) (by decide) (by decide) rfl (by decide) (by decide) (by decide) ?_
  refine r_istore2 143 dX11_all_142 rfl rfl (by decide) ?_
  refine r_aloadN 144 dX11_all_143 rfl rfl ?_
  refine r_aloadN 145 dX11_all_144 rfl rfl ?_
  refine r_getq 148 dX11_all_145 rfl fX11_53 (by decide) (sh_50 z _) rfl ?_
  refine r_bipush 150 dX11_all_148 rfl (by decide) ?_
  refine r_iloadN 151 dX11_all_150 rfl rfl ?_
  refine r_iloadN 152 dX11_all_151 rfl rfl ?_
  refine r_cv4 155 dX11_all_152 rfl gX11_367 rfl (by decide) (sh_50 z _) rfl rfl (Nat.le_of_ble_eq_true rfl) (Nat.le_of_ble_eq_true rfl) rfl ?_
  refine m_keepS (f := 22) (n0 := 14) (o0 := 182) (by decide) (by decide) rfl (by decide) (by decide) (by decide) ?_
  refine r_istore2 156 dX11_all_155 rfl rfl (by decide) ?_
  refine r_aloadN 157 dX11_all_156 rfl rfl ?_
  refine r_aloadN 158 dX11_all_157 rfl rfl ?_
  refine r_getq 161 dX11_all_158 rfl fX11_56 (by decide) (sh_50 z _) rfl ?_
  refine r_bipush 163 dX11_all_161 rfl (by decide) ?_
  refine r_iloadN 164 dX11_all_163 rfl rfl ?_
  refine r_iloadN 165 dX11_all_164 rfl rfl ?_
  refine r_cv4 168 dX11_all_165 rfl gX11_367 rfl (by decide) (sh_50 z _) rfl rfl (Nat.le_of_ble_eq_true rfl) (Nat.le_of_ble_eq_true rfl) rfl ?_
  refine m_keepS (f := 23) (n0 := 14) (o0 := 196) (by decide) (by decide) rfl (by decide) (by decide) (by decide) ?_
  refine r_istore2 169 dX11_all_168 rfl rfl (by decide) ?_
  refine r_aloadN 170 dX11_all_169 rfl rfl ?_
  refine r_aloadN 171 dX11_all_170 rfl rfl ?_
  refine r_getq 174 dX11_all_171 rfl fX11_59 (by decide) (sh_50 z _) rfl ?_
  refine r_bipush 176 dX11_all_174 rfl (by decide) ?_
  refine r_iloadN 177 dX11_all_176 rfl rfl ?_
  refine r_iloadN 178 dX11_all_177 rfl rfl ?_
  refine r_cv4 181 dX11_all_178 rfl gX11_367 rfl (by decide) (sh_50 z _) rfl rfl (Nat.le_of_ble_eq_true rfl) (Nat.le_of_ble_eq_true rfl) rfl ?_
  refine m_keepS (f := 24) (n0 := 14) (o0 := 210) (by decide) (by decide) rfl (by decide) (by decide) (by decide) ?_
  refine r_istore2 182 dX11_all_181 rfl rfl (by decide) ?_
  refine r_aloadN 183 dX11_all_182 rfl rfl ?_
  refine r_aloadN 184 dX11_all_183 rfl rfl ?_
  refine r_getq 187 dX11_all_184 rfl fX11_62 (by decide) (sh_50 z _) rfl ?_
  refine r_bipush 189 dX11_all_187 rfl (by decide) ?_
  refine r_iloadN 190 dX11_all_189 rfl rfl ?_
  refine r_iloadN 191 dX11_all_190 rfl rfl ?_
  refine r_cv4 194 dX11_all_191 rfl gX11_367 rfl (by decide) (sh_50 z _) rfl rfl (Nat.le_of_ble_eq_true rfl) (Nat.le_of_ble_eq_true rfl) rfl ?_
  refine m_keepS (f := 25) (n0 := 14) (o0 := 224) (by decide) (by decide) rfl (by decide) (by decide) (by decide) ?_
  refine r_istore2 195 dX11_all_194 rfl rfl (by decide) ?_
  refine r_aloadN 196 dX11_all_195 rfl rfl ?_
  refine r_aloadN 197 dX11_all_196 rfl rfl ?_
  refine r_getq 200 dX11_all_197 rfl fX11_65 (by decide) (sh_50 z _) rfl ?_
  refine r_bipush 202 dX11_all_200 rfl (by decide) ?_
  refine r_iloadN 203 dX11_all_202 rfl rfl ?_
  refine r_iloadN 204 dX11_all_203 rfl rfl ?_
  refine r_cv4 207 dX11_all_204 rfl gX11_367 rfl (by decide) (sh_50 z _) rfl rfl (Nat.le_of_ble_eq_true rfl) (Nat.le_of_ble_eq_true rfl) rfl ?_
  refine m_keepS (f := 26) (n0 := 14) (o0 := 238) (by decide) (by decide) rfl (by decide) (by decide) (by decide) ?_
  refine r_istore2 208 dX11_all_207 rfl rfl (by decide) ?_
  refine r_aloadN 209 dX11_all_208 rfl rfl ?_
  refine r_aloadN 210 dX11_all_209 rfl rfl ?_
  refine r_getq 213 dX11_all_210 rfl fX11_68 (by decide) (sh_50 z _) rfl ?_
  refine r_bipush 215 dX11_all_213 rfl (by decide) ?_
  refine r_iloadN 216 dX11_all_215 rfl rfl ?_
  refine r_iloadN 217 dX11_all_216 rfl rfl ?_
  refine r_cv4 220 dX11_all_217 rfl gX11_367 rfl (by decide) (sh_50 z _) rfl rfl (Nat.le_of_ble_eq_true rfl) (Nat.le_of_ble_eq_true rfl) rfl ?_
  refine m_keepS (f := 27) (n0 := 60) (o0 := 252) (by decide) (by decide) rfl (by decide) (by decide) (by decide) ?_
  refine r_istore2 221 dX11_all_220 rfl rfl (by decide) ?_
  refine r_aloadN 222 dX11_all_221 rfl rfl ?_
  refine r_aloadN 223 dX11_all_222 rfl rfl ?_
  refine r_getq 226 dX11_all_223 rfl fX11_71 (by decide) (sh_50 z _) rfl ?_
  refine r_bipush 228 dX11_all_226 rfl (by decide) ?_
  refine r_iloadN 229 dX11_all_228 rfl rfl ?_
  refine r_iloadN 230 dX11_all_229 rfl rfl ?_
  refine r_cv4 233 dX11_all_230 rfl gX11_367 rfl (by decide) (sh_50 z _) rfl rfl (Nat.le_of_ble_eq_true rfl) (Nat.le_of_ble_eq_true rfl) rfl ?_
  refine m_keepS (f := 28) (n0 := 60) (o0 := 312) (by decide) (by decide) rfl (by decide) (by decide) (by decide) ?_
  refine r_istore2 234 dX11_all_233 rfl rfl (by decide) ?_
  refine r_aloadN 235 dX11_all_234 rfl rfl ?_
  refine r_aloadN 236 dX11_all_235 rfl rfl ?_
  refine r_getq 239 dX11_all_236 rfl fX11_74 (by decide) (sh_50 z _) rfl ?_
  refine r_bipush 241 dX11_all_239 rfl (by decide) ?_
  refine r_iloadN 242 dX11_all_241 rfl rfl ?_
  refine r_iloadN 243 dX11_all_242 rfl rfl ?_
  refine r_cv4 246 dX11_all_243 rfl gX11_367 rfl (by decide) (sh_50 z _) rfl rfl (Nat.le_of_ble_eq_true rfl) (Nat.le_of_ble_eq_true rfl) rfl ?_
  refine m_keepS (f := 29) (n0 := 60) (o0 := 372) (by decide) (by decide) rfl (by decide) (by decide) (by decide) ?_
  refine r_istore2 247 dX11_all_246 rfl rfl (by decide) ?_
  refine r_aloadN 248 dX11_all_247 rfl rfl ?_
  refine r_aloadN 249 dX11_all_248 rfl rfl ?_
  refine r_getq 252 dX11_all_249 rfl fX11_77 (by decide) (sh_50 z _) rfl ?_
  refine r_bipush 254 dX11_all_252 rfl (by decide) ?_
  refine r_iloadN 255 dX11_all_254 rfl rfl ?_
  refine r_iloadN 256 dX11_all_255 rfl rfl ?_
  refine r_cv4 259 dX11_all_256 rfl gX11_367 rfl (by decide) (sh_50 z _) rfl rfl (Nat.le_of_ble_eq_true rfl) (Nat.le_of_ble_eq_true rfl) rfl ?_
  refine m_keepS (f := 30) (n0 := 60) (o0 := 432) (by decide) (by decide) rfl (by decide) (by decide) (by decide) ?_
  refine r_istore2 260 dX11_all_259 rfl rfl (by decide) ?_
  refine r_aloadN 261 dX11_all_260 rfl rfl ?_
  refine r_aloadN 262 dX11_all_261 rfl rfl ?_
  refine r_getq 265 dX11_all_262 rfl fX11_80 (by decide) (sh_50 z _) rfl ?_
  refine r_bipush 267 dX11_all_265 rfl (by decide) ?_
  refine r_iloadN 268 dX11_all_267 rfl rfl ?_
  refine r_iloadN 269 dX11_all_268 rfl rfl ?_
  refine r_cv4 272 dX11_all_269 rfl gX11_367 rfl (by decide) (sh_50 z _) rfl rfl (Nat.le_of_ble_eq_true rfl) (Nat.le_of_ble_eq_true rfl) rfl ?_
  refine m_keepS (f := 31) (n0 := 60) (o0 := 492) (by decide) (by decide) rfl (by decide) (by decide) (by decide) ?_
  refine r_istore2 273 dX11_all_272 rfl rfl (by decide) ?_
  refine r_aloadN 274 dX11_all_273 rfl rfl ?_
  refine r_aloadN 275 dX11_all_274 rfl rfl ?_
  refine r_getq 278 dX11_all_275 rfl fX11_83 (by decide) (sh_50 z _) rfl ?_
  refine r_bipush 280 dX11_all_278 rfl (by decide) ?_
  refine r_iloadN 281 dX11_all_280 rfl rfl ?_
  refine r_iloadN 282 dX11_all_281 rfl rfl ?_
  refine r_cv4 285 dX11_all_282 rfl gX11_367 rfl (by decide) (sh_50 z _) rfl rfl (Nat.le_of_ble_eq_true rfl) (Nat.le_of_ble_eq_true rfl) rfl ?_
  refine m_keepS (f := 32) (n0 := 20) (o0 := 552) (by decide) (by decide) rfl (by decide) (by decide) (by decide) ?_
  refine r_istore2 286 dX11_all_285 rfl rfl (by decide) ?_
  refine r_aloadN 287 dX11_all_286 rfl rfl ?_
  refine r_aloadN 288 dX11_all_287 rfl rfl ?_
  refine r_getq 291 dX11_all_288 rfl fX11_86 (by decide) (sh_50 z _) rfl ?_
  refine r_bipush 293 dX11_all_291 rfl (by decide) ?_
  refine r_iloadN 294 dX11_all_293 rfl rfl ?_
  refine r_iloadN 295 dX11_all_294 rfl rfl ?_
  refine r_cv4 298 dX11_all_295 rfl gX11_367 rfl (by decide) (sh_50 z _) rfl rfl (Nat.le_of_ble_eq_true rfl) (Nat.le_of_ble_eq_true rfl) rfl ?_
  refine m_keepS (f := 33) (n0 := 20) (o0 := 572) (by decide) (by decide) rfl (by decide) (by decide) (by decide) ?_
  refine r_istore2 299 dX11_all_298 rfl rfl (by decide) ?_
  refine r_aloadN 300 dX11_all_299 rfl rfl ?_
  refine r_aloadN 301 dX11_all_300 rfl rfl ?_
  refine r_getq 304 dX11_all_301 rfl fX11_89 (by decide) (sh_50 z _) rfl ?_
  refine r_bipush 306 dX11_all_304 rfl (by decide) ?_
  refine r_iloadN 307 dX11_all_306 rfl rfl ?_
  refine r_iloadN 308 dX11_all_307 rfl rfl ?_
  refine r_cv4 311 dX11_all_308 rfl gX11_367 rfl (by decide) (sh_50 z _) rfl rfl (Nat.le_of_ble_eq_true rfl) (Nat.le_of_ble_eq_true rfl) rfl ?_
  refine m_keepS (f := 34) (n0 := 20) (o0 := 592) (by decide) (by decide) rfl (by decide) (by decide) (by decide) ?_
  refine r_istore2 312 dX11_all_311 rfl rfl (by decide) ?_
  refine r_aloadN 313 dX11_all_312 rfl rfl ?_
  refine r_aloadN 314 dX11_all_313 rfl rfl ?_
  refine r_getq 317 dX11_all_314 rfl fX11_92 (by decide) (sh_50 z _) rfl ?_
  refine r_bipush 319 dX11_all_317 rfl (by decide) ?_
  refine r_iloadN 320 dX11_all_319 rfl rfl ?_
  refine r_iloadN 321 dX11_all_320 rfl rfl ?_
  refine r_cv4 324 dX11_all_321 rfl gX11_367 rfl (by decide) (sh_50 z _) rfl rfl (Nat.le_of_ble_eq_true rfl) (Nat.le_of_ble_eq_true rfl) rfl ?_
  refine m_keepS (f := 35) (n0 := 30) (o0 := 612) (by decide) (by decide) rfl (by decide) (by decide) (by decide) ?_
  refine r_istore2 325 dX11_all_324 rfl rfl (by decide) ?_
  refine r_aloadN 326 dX11_all_325 rfl rfl ?_
  refine r_aloadN 327 dX11_all_326 rfl rfl ?_
  refine r_getq 330 dX11_all_327 rfl fX11_95 (by decide) (sh_50 z _) rfl ?_
  refine r_bipush 332 dX11_all_330 rfl (by decide) ?_
  refine r_iloadN 333 dX11_all_332 rfl rfl ?_
  refine r_iloadN 334 dX11_all_333 rfl rfl ?_
  refine r_cv4 337 dX11_all_334 rfl gX11_367 rfl (by decide) (sh_50 z _) rfl rfl (Nat.le_of_ble_eq_true rfl) (Nat.le_of_ble_eq_true rfl) rfl ?_
  refine m_keepS (f := 36) (n0 := 30) (o0 := 642) (by decide) (by decide) rfl (by decide) (by decide) (by decide) ?_
  refine r_istore2 338 dX11_all_337 rfl rfl (by decide) ?_
  refine r_aloadN 339 dX11_all_338 rfl rfl ?_
  refine r_aloadN 340 dX11_all_339 rfl rfl ?_
  refine r_getq 343 dX11_all_340 rfl fX11_98 (by decide) (sh_50 z _) rfl ?_
  refine r_bipush 345 dX11_all_343 rfl (by decide) ?_
  refine r_iloadN 346 dX11_all_345 rfl rfl ?_
  refine r_iloadN 347 dX11_all_346 rfl rfl ?_
  refine r_cv4 350 dX11_all_347 rfl gX11_367 rfl (by decide) (sh_50 z _) rfl rfl (Nat.le_of_ble_eq_true rfl) (Nat.le_of_ble_eq_true rfl) rfl ?_
  refine m_keepS (f := 37) (n0 := 30) (o0 := 672) (by decide) (by decide) rfl (by decide) (by decide) (by decide) ?_
  refine r_istore2 351 dX11_all_350 rfl rfl (by decide) ?_
  refine r_aloadN 352 dX11_all_351 rfl rfl ?_
  refine r_aloadN 353 dX11_all_352 rfl rfl ?_
  refine r_getq 356 dX11_all_353 rfl fX11_101 (by decide) (sh_50 z _) rfl ?_
  refine r_bipush 358 dX11_all_356 rfl (by decide) ?_
  refine r_iloadN 359 dX11_all_358 rfl rfl ?_
  refine r_iloadN 360 dX11_all_359 rfl rfl ?_
  refine r_cv4 363 dX11_all_360 rfl gX11_367 rfl (by decide) (sh_50 z _) rfl rfl (Nat.le_of_ble_eq_true rfl) (Nat.le_of_ble_eq_true rfl) rfl ?_
  refine m_keepS (f := 38) (n0 := 8) (o0 := 702) (by decide) (by decide) rfl (by decide) (by decide) (by decide) ?_
  refine r_istore2 364 dX11_all_363 rfl rfl (by decide) ?_
  refine r_aloadN 365 dX11_all_364 rfl rfl ?_
  refine r_aloadN 366 dX11_all_365 rfl rfl ?_
  refine r_getq 369 dX11_all_366 rfl fX11_104 (by decide) (sh_50 z _) rfl ?_
  refine r_bipush 371 dX11_all_369 rfl (by decide) ?_
  refine r_iloadN 372 dX11_all_371 rfl rfl ?_
  refine r_iloadN 373 dX11_all_372 rfl rfl ?_
  refine r_cv4 376 dX11_all_373 rfl gX11_367 rfl (by decide) (sh_50 z _) rfl rfl (Nat.le_of_ble_eq_true rfl) (Nat.le_of_ble_eq_true rfl) rfl ?_
  refine m_keepS (f := 39) (n0 := 64) (o0 := 710) (by decide) (by decide) rfl (by decide) (by decide) (by decide) ?_
  refine r_istore2 377 dX11_all_376 rfl rfl (by decide) ?_
  refine r_aloadN 378 dX11_all_377 rfl rfl ?_
  refine r_aloadN 379 dX11_all_378 rfl rfl ?_
  refine r_getq 382 dX11_all_379 rfl fX11_107 (by decide) (sh_50 z _) rfl ?_
  refine r_bipush 384 dX11_all_382 rfl (by decide) ?_
  refine r_iloadN 385 dX11_all_384 rfl rfl ?_
  refine r_iloadN 386 dX11_all_385 rfl rfl ?_
  refine r_cv4 389 dX11_all_386 rfl gX11_367 rfl (by decide) (sh_50 z _) rfl rfl (Nat.le_of_ble_eq_true rfl) (Nat.le_of_ble_eq_true rfl) rfl ?_
  refine m_keepS (f := 40) (n0 := 64) (o0 := 774) (by decide) (by decide) rfl (by decide) (by decide) (by decide) ?_
  refine r_istore2 390 dX11_all_389 rfl rfl (by decide) ?_
  refine r_aloadN 391 dX11_all_390 rfl rfl ?_
  refine r_aloadN 392 dX11_all_391 rfl rfl ?_
  refine r_getq 395 dX11_all_392 rfl fX11_110 (by decide) (sh_50 z _) rfl ?_
  refine r_bipush 397 dX11_all_395 rfl (by decide) ?_
  refine r_iloadN 398 dX11_all_397 rfl rfl ?_
  refine r_iloadN 399 dX11_all_398 rfl rfl ?_
  refine r_cv4 402 dX11_all_399 rfl gX11_367 rfl (by decide) (sh_50 z _) rfl rfl (Nat.le_of_ble_eq_true rfl) (Nat.le_of_ble_eq_true rfl) rfl ?_
  refine m_keepS (f := 41) (n0 := 64) (o0 := 838) (by decide) (by decide) rfl (by decide) (by decide) (by decide) ?_
  refine r_istore2 403 dX11_all_402 rfl rfl (by decide) ?_
  refine r_aloadN 404 dX11_all_403 rfl rfl ?_
  refine r_aloadN 405 dX11_all_404 rfl rfl ?_
  refine r_getq 408 dX11_all_405 rfl fX11_113 (by decide) (sh_50 z _) rfl ?_
  refine r_bipush 410 dX11_all_408 rfl (by decide) ?_
  refine r_iloadN 411 dX11_all_410 rfl rfl ?_
  refine r_iloadN 412 dX11_all_411 rfl rfl ?_
  refine r_cv4 415 dX11_all_412 rfl gX11_367 rfl (by decide) (sh_50 z _) rfl rfl (Nat.le_of_ble_eq_true rfl) (Nat.le_of_ble_eq_true rfl) rfl ?_
  refine m_keepS (f := 42) (n0 := 64) (o0 := 902) (by decide) (by decide) rfl (by decide) (by decide) (by decide) ?_
  refine r_istore2 416 dX11_all_415 rfl rfl (by decide) ?_
  refine r_aloadN 417 dX11_all_416 rfl rfl ?_
  refine r_aloadN 418 dX11_all_417 rfl rfl ?_
  refine r_getq 421 dX11_all_418 rfl fX11_116 (by decide) (sh_50 z _) rfl ?_
  refine r_bipush 423 dX11_all_421 rfl (by decide) ?_
  refine r_iloadN 424 dX11_all_423 rfl rfl ?_
  refine r_iloadN 425 dX11_all_424 rfl rfl ?_
  refine r_cv4 428 dX11_all_425 rfl gX11_367 rfl (by decide) (sh_50 z _) rfl rfl (Nat.le_of_ble_eq_true rfl) (Nat.le_of_ble_eq_true rfl) rfl ?_
  refine m_keepS (f := 43) (n0 := 64) (o0 := 966) (by decide) (by decide) rfl (by decide) (by decide) (by decide) ?_
  refine r_popi 429 dX11_all_428 rfl ?_
  exact r_vret dX11_all_429 rfl k
theorem m_allR {z : xZ} {d : Nat} {Q : tQ} {c : tC} {L : tL}   (k : Q none (rsA ktb 0 c) L) : En z (d + 2) MX11_all Q 0 [some (.ref (xad z 50 0)), some (.int (iI 1)), none] [] c L := by
  refine r_aloadN 1 dX11_all_0 rfl rfl ?_
  refine r_aloadN 2 dX11_all_1 rfl rfl ?_
  refine r_getq 5 dX11_all_2 rfl fX11_20 (by decide) (sh_50 z _) rfl ?_
  refine r_bipush 7 dX11_all_5 rfl (by decide) ?_
  refine r_iconst 8 dX11_all_7 rfl ?_
  refine r_iloadN 9 dX11_all_8 rfl rfl ?_
  refine r_cv4 12 dX11_all_9 rfl gX11_367 rfl (by decide) (sh_50 z _) rfl rfl (Nat.le_of_ble_eq_true rfl) (Nat.le_of_ble_eq_true rfl) rfl ?_
  refine m_keepR (f := 11) (n0 := 6) (o0 := 0) (by decide) (by decide) rfl rfl (by decide) (by decide) ?_
  refine r_istore2 13 dX11_all_12 rfl rfl (by decide) ?_
  refine r_aloadN 14 dX11_all_13 rfl rfl ?_
  refine r_aloadN 15 dX11_all_14 rfl rfl ?_
  refine r_getq 18 dX11_all_15 rfl fX11_23 (by decide) (sh_50 z _) rfl ?_
  refine r_bipush 20 dX11_all_18 rfl (by decide) ?_
  refine r_iloadN 21 dX11_all_20 rfl rfl ?_
  refine r_iloadN 22 dX11_all_21 rfl rfl ?_
  refine r_cv4 25 dX11_all_22 rfl gX11_367 rfl (by decide) (sh_50 z _) rfl rfl (Nat.le_of_ble_eq_true rfl) (Nat.le_of_ble_eq_true rfl) rfl ?_
  refine m_keepR (f := 12) (n0 := 64) (o0 := 6) (by decide) (by decide) rfl (by decide) (by decide) (by decide) ?_
  refine r_istore2 26 dX11_all_25 rfl rfl (by decide) ?_
  refine r_aloadN 27 dX11_all_26 rfl rfl ?_
  refine r_aloadN 28 dX11_all_27 rfl rfl ?_
  refine r_getq 31 dX11_all_28 rfl fX11_26 (by decide) (sh_50 z _) rfl ?_
  refine r_bipush 33 dX11_all_31 rfl (by decide) ?_
  refine r_iloadN 34 dX11_all_33 rfl rfl ?_
  refine r_iloadN 35 dX11_all_34 rfl rfl ?_
  refine r_cv4 38 dX11_all_35 rfl gX11_367 rfl (by decide) (sh_50 z _) rfl rfl (Nat.le_of_ble_eq_true rfl) (Nat.le_of_ble_eq_true rfl) rfl ?_
  refine m_keepR (f := 13) (n0 := 10) (o0 := 70) (by decide) (by decide) rfl (by decide) (by decide) (by decide) ?_
  refine r_istore2 39 dX11_all_38 rfl rfl (by decide) ?_
  refine r_aloadN 40 dX11_all_39 rfl rfl ?_
  refine r_aloadN 41 dX11_all_40 rfl rfl ?_
  refine r_getq 44 dX11_all_41 rfl fX11_29 (by decide) (sh_50 z _) rfl ?_
  refine r_bipush 46 dX11_all_44 rfl (by decide) ?_
  refine r_iloadN 47 dX11_all_46 rfl rfl ?_
  refine r_iloadN 48 dX11_all_47 rfl rfl ?_
  refine r_cv4 51 dX11_all_48 rfl gX11_367 rfl (by decide) (sh_50 z _) rfl rfl (Nat.le_of_ble_eq_true rfl) (Nat.le_of_ble_eq_true rfl) rfl ?_
  refine m_keepR (f := 14) (n0 := 12) (o0 := 80) (by decide) (by decide) rfl (by decide) (by decide) (by decide) ?_
  refine r_istore2 52 dX11_all_51 rfl rfl (by decide) ?_
  refine r_aloadN 53 dX11_all_52 rfl rfl ?_
  refine r_aloadN 54 dX11_all_53 rfl rfl ?_
  refine r_getq 57 dX11_all_54 rfl fX11_32 (by decide) (sh_50 z _) rfl ?_
  refine r_bipush 59 dX11_all_57 rfl (by decide) ?_
  refine r_iloadN 60 dX11_all_59 rfl rfl ?_
  refine r_iloadN 61 dX11_all_60 rfl rfl ?_
  refine r_cv4 64 dX11_all_61 rfl gX11_367 rfl (by decide) (sh_50 z _) rfl rfl (Nat.le_of_ble_eq_true rfl) (Nat.le_of_ble_eq_true rfl) rfl ?_
  refine m_keepR (f := 15) (n0 := 12) (o0 := 92) (by decide) (by decide) rfl (by decide) (by decide) (by decide) ?_
  refine r_istore2 65 dX11_all_64 rfl rfl (by decide) ?_
  refine r_aloadN 66 dX11_all_65 rfl rfl ?_
  refine r_aloadN 67 dX11_all_66 rfl rfl ?_
  refine r_getq 70 dX11_all_67 rfl fX11_35 (by decide) (sh_50 z _) rfl ?_
  refine r_bipush 72 dX11_all_70 rfl (by decide) ?_
  refine r_iloadN 73 dX11_all_72 rfl rfl ?_
  refine r_iloadN 74 dX11_all_73 rfl rfl ?_
  refine r_cv4 77 dX11_all_74 rfl gX11_367 rfl (by decide) (sh_50 z _) rfl rfl (Nat.le_of_ble_eq_true rfl) (Nat.le_of_ble_eq_true rfl) rfl ?_
  refine m_keepR (f := 16) (n0 := 12) (o0 := 104) (by decide) (by decide) rfl (by decide) (by decide) (by decide) ?_
  refine r_istore2 78 dX11_all_77 rfl rfl (by decide) ?_
  refine r_aloadN 79 dX11_all_78 rfl rfl ?_
  refine r_aloadN 80 dX11_all_79 rfl rfl ?_
  refine r_getq 83 dX11_all_80 rfl fX11_38 (by decide) (sh_50 z _) rfl ?_
  refine r_bipush 85 dX11_all_83 rfl (by decide) ?_
  refine r_iloadN 86 dX11_all_85 rfl rfl ?_
  refine r_iloadN 87 dX11_all_86 rfl rfl ?_
  refine r_cv4 90 dX11_all_87 rfl gX11_367 rfl (by decide) (sh_50 z _) rfl rfl (Nat.le_of_ble_eq_true rfl) (Nat.le_of_ble_eq_true rfl) rfl ?_
  refine m_keepR (f := 17) (n0 := 12) (o0 := 116) (by decide) (by decide) rfl (by decide) (by decide) (by decide) ?_
  refine r_istore2 91 dX11_all_90 rfl rfl (by decide) ?_
  refine r_aloadN 92 dX11_all_91 rfl rfl ?_
  refine r_aloadN 93 dX11_all_92 rfl rfl ?_
  refine r_getq 96 dX11_all_93 rfl fX11_41 (by decide) (sh_50 z _) rfl ?_
  refine r_bipush 98 dX11_all_96 rfl (by decide) ?_
  refine r_iloadN 99 dX11_all_98 rfl rfl ?_
  refine r_iloadN 100 dX11_all_99 rfl rfl ?_
  refine r_cv4 103 dX11_all_100 rfl gX11_367 rfl (by decide) (sh_50 z _) rfl rfl (Nat.le_of_ble_eq_true rfl) (Nat.le_of_ble_eq_true rfl) rfl ?_
  refine m_keepR (f := 18) (n0 := 12) (o0 := 128) (by decide) (by decide) rfl (by decide) (by decide) (by decide) ?_
  refine r_istore2 104 dX11_all_103 rfl rfl (by decide) ?_
  refine r_aloadN 105 dX11_all_104 rfl rfl ?_
  refine r_aloadN 106 dX11_all_105 rfl rfl ?_
  refine r_getq 109 dX11_all_106 rfl fX11_44 (by decide) (sh_50 z _) rfl ?_
  refine r_bipush 111 dX11_all_109 rfl (by decide) ?_
  refine r_iloadN 112 dX11_all_111 rfl rfl ?_
  refine r_iloadN 113 dX11_all_112 rfl rfl ?_
  refine r_cv4 116 dX11_all_113 rfl gX11_367 rfl (by decide) (sh_50 z _) rfl rfl (Nat.le_of_ble_eq_true rfl) (Nat.le_of_ble_eq_true rfl) rfl ?_
  refine m_keepR (f := 19) (n0 := 14) (o0 := 140) (by decide) (by decide) rfl (by decide) (by decide) (by decide) ?_
  refine r_istore2 117 dX11_all_116 rfl rfl (by decide) ?_
  refine r_aloadN 118 dX11_all_117 rfl rfl ?_
  refine r_aloadN 119 dX11_all_118 rfl rfl ?_
  refine r_getq 122 dX11_all_119 rfl fX11_47 (by decide) (sh_50 z _) rfl ?_
  refine r_bipush 124 dX11_all_122 rfl (by decide) ?_
  refine r_iloadN 125 dX11_all_124 rfl rfl ?_
  refine r_iloadN 126 dX11_all_125 rfl rfl ?_
  refine r_cv4 129 dX11_all_126 rfl gX11_367 rfl (by decide) (sh_50 z _) rfl rfl (Nat.le_of_ble_eq_true rfl) (Nat.le_of_ble_eq_true rfl) rfl ?_
  refine m_keepR (f := 20) (n0 := 14) (o0 := 154) (by decide) (by decide) rfl (by decide) (by decide) (by decide) ?_
  refine r_istore2 130 dX11_all_129 rfl rfl (by decide) ?_
  refine r_aloadN 131 dX11_all_130 rfl rfl ?_
  refine r_aloadN 132 dX11_all_131 rfl rfl ?_
  refine r_getq 135 dX11_all_132 rfl fX11_50 (by decide) (sh_50 z _) rfl ?_
  refine r_bipush 137 dX11_all_135 rfl (by decide) ?_
  refine r_iloadN 138 dX11_all_137 rfl rfl ?_
  refine r_iloadN 139 dX11_all_138 rfl rfl ?_
  refine r_cv4 142 dX11_all_139 rfl gX11_367 rfl (by decide) (sh_50 z _) rfl rfl (Nat.le_of_ble_eq_true rfl) (Nat.le_of_ble_eq_true rfl) rfl ?_
  refine m_keepR (f := 21) (n0 := 14) (o0 := 168) (by decide) (by decide) rfl (by decide) (by decide) (by decide) ?_
  refine r_istore2 143 dX11_all_142 rfl rfl (by decide) ?_
  refine r_aloadN 144 dX11_all_143 rfl rfl ?_
  refine r_aloadN 145 dX11_all_144 rfl rfl ?_
  refine r_getq 148 dX11_all_145 rfl fX11_53 (by decide) (sh_50 z _) rfl ?_
  refine r_bipush 150 dX11_all_148 rfl (by decide) ?_
  refine r_iloadN 151 dX11_all_150 rfl rfl ?_
  refine r_iloadN 152 dX11_all_151 rfl rfl ?_
  refine r_cv4 155 dX11_all_152 rfl gX11_367 rfl (by decide) (sh_50 z _) rfl rfl (Nat.le_of_ble_eq_true rfl) (Nat.le_of_ble_eq_true rfl) rfl ?_
  refine m_keepR (f := 22) (n0 := 14) (o0 := 182) (by decide) (by decide) rfl (by decide) (by decide) (by decide) ?_
  refine r_istore2 156 dX11_all_155 rfl rfl (by decide) ?_
  refine r_aloadN 157 dX11_all_156 rfl rfl ?_
  refine r_aloadN 158 dX11_all_157 rfl rfl ?_
  refine r_getq 161 dX11_all_158 rfl fX11_56 (by decide) (sh_50 z _) rfl ?_
  refine r_bipush 163 dX11_all_161 rfl (by decide) ?_
  refine r_iloadN 164 dX11_all_163 rfl rfl ?_
  refine r_iloadN 165 dX11_all_164 rfl rfl ?_
  refine r_cv4 168 dX11_all_165 rfl gX11_367 rfl (by decide) (sh_50 z _) rfl rfl (Nat.le_of_ble_eq_true rfl) (Nat.le_of_ble_eq_true rfl) rfl ?_
  refine m_keepR (f := 23) (n0 := 14) (o0 := 196) (by decide) (by decide) rfl (by decide) (by decide) (by decide) ?_
  refine r_istore2 169 dX11_all_168 rfl rfl (by decide) ?_
  refine r_aloadN 170 dX11_all_169 rfl rfl ?_
  refine r_aloadN 171 dX11_all_170 rfl rfl ?_
  refine r_getq 174 dX11_all_171 rfl fX11_59 (by decide) (sh_50 z _) rfl ?_
  refine r_bipush 176 dX11_all_174 rfl (by decide) ?_
  refine r_iloadN 177 dX11_all_176 rfl rfl ?_
  refine r_iloadN 178 dX11_all_177 rfl rfl ?_
  refine r_cv4 181 dX11_all_178 rfl gX11_367 rfl (by decide) (sh_50 z _) rfl rfl (Nat.le_of_ble_eq_true rfl) (Nat.le_of_ble_eq_true rfl) rfl ?_
  refine m_keepR (f := 24) (n0 := 14) (o0 := 210) (by decide) (by decide) rfl (by decide) (by decide) (by decide) ?_
  refine r_istore2 182 dX11_all_181 rfl rfl (by decide) ?_
  refine r_aloadN 183 dX11_all_182 rfl rfl ?_
  refine r_aloadN 184 dX11_all_183 rfl rfl ?_
  refine r_getq 187 dX11_all_184 rfl fX11_62 (by decide) (sh_50 z _) rfl ?_
  refine r_bipush 189 dX11_all_187 rfl (by decide) ?_
  refine r_iloadN 190 dX11_all_189 rfl rfl ?_
  refine r_iloadN 191 dX11_all_190 rfl rfl ?_
  refine r_cv4 194 dX11_all_191 rfl gX11_367 rfl (by decide) (sh_50 z _) rfl rfl (Nat.le_of_ble_eq_true rfl) (Nat.le_of_ble_eq_true rfl) rfl ?_
  refine m_keepR (f := 25) (n0 := 14) (o0 := 224) (by decide) (by decide) rfl (by decide) (by decide) (by decide) ?_
  refine r_istore2 195 dX11_all_194 rfl rfl (by decide) ?_
  refine r_aloadN 196 dX11_all_195 rfl rfl ?_
  refine r_aloadN 197 dX11_all_196 rfl rfl ?_
  refine r_getq 200 dX11_all_197 rfl fX11_65 (by decide) (sh_50 z _) rfl ?_
  refine r_bipush 202 dX11_all_200 rfl (by decide) ?_
  refine r_iloadN 203 dX11_all_202 rfl rfl ?_
  refine r_iloadN 204 dX11_all_203 rfl rfl ?_
  refine r_cv4 207 dX11_all_204 rfl gX11_367 rfl (by decide) (sh_50 z _) rfl rfl (Nat.le_of_ble_eq_true rfl) (Nat.le_of_ble_eq_true rfl) rfl ?_
  refine m_keepR (f := 26) (n0 := 14) (o0 := 238) (by decide) (by decide) rfl (by decide) (by decide) (by decide) ?_
  refine r_istore2 208 dX11_all_207 rfl rfl (by decide) ?_
  refine r_aloadN 209 dX11_all_208 rfl rfl ?_
  refine r_aloadN 210 dX11_all_209 rfl rfl ?_
  refine r_getq 213 dX11_all_210 rfl fX11_68 (by decide) (sh_50 z _) rfl ?_
  refine r_bipush 215 dX11_all_213 rfl (by decide) ?_
  refine r_iloadN 216 dX11_all_215 rfl rfl ?_
  refine r_iloadN 217 dX11_all_216 rfl rfl ?_
  refine r_cv4 220 dX11_all_217 rfl gX11_367 rfl (by decide) (sh_50 z _) rfl rfl (Nat.le_of_ble_eq_true rfl) (Nat.le_of_ble_eq_true rfl) rfl ?_
  refine m_keepR (f := 27) (n0 := 60) (o0 := 252) (by decide) (by decide) rfl (by decide) (by decide) (by decide) ?_
  refine r_istore2 221 dX11_all_220 rfl rfl (by decide) ?_
  refine r_aloadN 222 dX11_all_221 rfl rfl ?_
  refine r_aloadN 223 dX11_all_222 rfl rfl ?_
  refine r_getq 226 dX11_all_223 rfl fX11_71 (by decide) (sh_50 z _) rfl ?_
  refine r_bipush 228 dX11_all_226 rfl (by decide) ?_
  refine r_iloadN 229 dX11_all_228 rfl rfl ?_
  refine r_iloadN 230 dX11_all_229 rfl rfl ?_
  refine r_cv4 233 dX11_all_230 rfl gX11_367 rfl (by decide) (sh_50 z _) rfl rfl (Nat.le_of_ble_eq_true rfl) (Nat.le_of_ble_eq_true rfl) rfl ?_
  refine m_keepR (f := 28) (n0 := 60) (o0 := 312) (by decide) (by decide) rfl (by decide) (by decide) (by decide) ?_
  refine r_istore2 234 dX11_all_233 rfl rfl (by decide) ?_
  refine r_aloadN 235 dX11_all_234 rfl rfl ?_
  refine r_aloadN 236 dX11_all_235 rfl rfl ?_
  refine r_getq 239 dX11_all_236 rfl fX11_74 (by decide) (sh_50 z _) rfl ?_
  refine r_bipush 241 dX11_all_239 rfl (by decide) ?_
  refine r_iloadN 242 dX11_all_241 rfl rfl ?_
  refine r_iloadN 243 dX11_all_242 rfl rfl ?_
  refine r_cv4 246 dX11_all_243 rfl gX11_367 rfl (by decide) (sh_50 z _) rfl rfl (Nat.le_of_ble_eq_true rfl) (Nat.le_of_ble_eq_true rfl) rfl ?_
  refine m_keepR (f := 29) (n0 := 60) (o0 := 372) (by decide) (by decide) rfl (by decide) (by decide) (by decide) ?_
  refine r_istore2 247 dX11_all_246 rfl rfl (by decide) ?_
  refine r_aloadN 248 dX11_all_247 rfl rfl ?_
  refine r_aloadN 249 dX11_all_248 rfl rfl ?_
  refine r_getq 252 dX11_all_249 rfl fX11_77 (by decide) (sh_50 z _) rfl ?_
  refine r_bipush 254 dX11_all_252 rfl (by decide) ?_
  refine r_iloadN 255 dX11_all_254 rfl rfl ?_
  refine r_iloadN 256 dX11_all_255 rfl rfl ?_
  refine r_cv4 259 dX11_all_256 rfl gX11_367 rfl (by decide) (sh_50 z _) rfl rfl (Nat.le_of_ble_eq_true rfl) (Nat.le_of_ble_eq_true rfl) rfl ?_
  refine m_keepR (f := 30) (n0 := 60) (o0 := 432) (by decide) (by decide) rfl (by decide) (by decide) (by decide) ?_
  refine r_istore2 260 dX11_all_259 rfl rfl (by decide) ?_
  refine r_aloadN 261 dX11_all_260 rfl rfl ?_
  refine r_aloadN 262 dX11_all_261 rfl rfl ?_
  refine r_getq 265 dX11_all_262 rfl fX11_80 (by decide) (sh_50 z _) rfl ?_
  refine r_bipush 267 dX11_all_265 rfl (by decide) ?_
  refine r_iloadN 268 dX11_all_267 rfl rfl ?_
  refine r_iloadN 269 dX11_all_268 rfl rfl ?_
  refine r_cv4 272 dX11_all_269 rfl gX11_367 rfl (by decide) (sh_50 z _) rfl rfl (Nat.le_of_ble_eq_true rfl) (Nat.le_of_ble_eq_true rfl) rfl ?_
  refine m_keepR (f := 31) (n0 := 60) (o0 := 492) (by decide) (by decide) rfl (by decide) (by decide) (by decide) ?_
  refine r_istore2 273 dX11_all_272 rfl rfl (by decide) ?_
  refine r_aloadN 274 dX11_all_273 rfl rfl ?_
  refine r_aloadN 275 dX11_all_274 rfl rfl ?_
  refine r_getq 278 dX11_all_275 rfl fX11_83 (by decide) (sh_50 z _) rfl ?_
  refine r_bipush 280 dX11_all_278 rfl (by decide) ?_
  refine r_iloadN 281 dX11_all_280 rfl rfl ?_
  refine r_iloadN 282 dX11_all_281 rfl rfl ?_
  refine r_cv4 285 dX11_all_282 rfl gX11_367 rfl (by decide) (sh_50 z _) rfl rfl (Nat.le_of_ble_eq_true rfl) (Nat.le_of_ble_eq_true rfl) rfl ?_
  refine m_keepR (f := 32) (n0 := 20) (o0 := 552) (by decide) (by decide) rfl (by decide) (by decide) (by decide) ?_
  refine r_istore2 286 dX11_all_285 rfl rfl (by decide) ?_
  refine r_aloadN 287 dX11_all_286 rfl rfl ?_
  refine r_aloadN 288 dX11_all_287 rfl rfl ?_
  refine r_getq 291 dX11_all_288 rfl fX11_86 (by decide) (sh_50 z _) rfl ?_
  refine r_bipush 293 dX11_all_291 rfl (by decide) ?_
  refine r_iloadN 294 dX11_all_293 rfl rfl ?_
  refine r_iloadN 295 dX11_all_294 rfl rfl ?_
  refine r_cv4 298 dX11_all_295 rfl gX11_367 rfl (by decide) (sh_50 z _) rfl rfl (Nat.le_of_ble_eq_true rfl) (Nat.le_of_ble_eq_true rfl) rfl ?_
  refine m_keepR (f := 33) (n0 := 20) (o0 := 572) (by decide) (by decide) rfl (by decide) (by decide) (by decide) ?_
  refine r_istore2 299 dX11_all_298 rfl rfl (by decide) ?_
  refine r_aloadN 300 dX11_all_299 rfl rfl ?_
  refine r_aloadN 301 dX11_all_300 rfl rfl ?_
  refine r_getq 304 dX11_all_301 rfl fX11_89 (by decide) (sh_50 z _) rfl ?_
  refine r_bipush 306 dX11_all_304 rfl (by decide) ?_
  refine r_iloadN 307 dX11_all_306 rfl rfl ?_
  refine r_iloadN 308 dX11_all_307 rfl rfl ?_
  refine r_cv4 311 dX11_all_308 rfl gX11_367 rfl (by decide) (sh_50 z _) rfl rfl (Nat.le_of_ble_eq_true rfl) (Nat.le_of_ble_eq_true rfl) rfl ?_
  refine m_keepR (f := 34) (n0 := 20) (o0 := 592) (by decide) (by decide) rfl (by decide) (by decide) (by decide) ?_
  refine r_istore2 312 dX11_all_311 rfl rfl (by decide) ?_
  refine r_aloadN 313 dX11_all_312 rfl rfl ?_
  refine r_aloadN 314 dX11_all_313 rfl rfl ?_
  refine r_getq 317 dX11_all_314 rfl fX11_92 (by decide) (sh_50 z _) rfl ?_
  refine r_bipush 319 dX11_all_317 rfl (by decide) ?_
  refine r_iloadN 320 dX11_all_319 rfl rfl ?_
  refine r_iloadN 321 dX11_all_320 rfl rfl ?_
  refine r_cv4 324 dX11_all_321 rfl gX11_367 rfl (by decide) (sh_50 z _) rfl rfl (Nat.le_of_ble_eq_true rfl) (Nat.le_of_ble_eq_true rfl) rfl ?_
  refine m_keepR (f := 35) (n0 := 30) (o0 := 612) (by decide) (by decide) rfl (by decide) (by decide) (by decide) ?_
  refine r_istore2 325 dX11_all_324 rfl rfl (by decide) ?_
  refine r_aloadN 326 dX11_all_325 rfl rfl ?_
  refine r_aloadN 327 dX11_all_326 rfl rfl ?_
  refine r_getq 330 dX11_all_327 rfl fX11_95 (by decide) (sh_50 z _) rfl ?_
  refine r_bipush 332 dX11_all_330 rfl (by decide) ?_
  refine r_iloadN 333 dX11_all_332 rfl rfl ?_
  refine r_iloadN 334 dX11_all_333 rfl rfl ?_
  refine r_cv4 337 dX11_all_334 rfl gX11_367 rfl (by decide) (sh_50 z _) rfl rfl (Nat.le_of_ble_eq_true rfl) (Nat.le_of_ble_eq_true rfl) rfl ?_
  refine m_keepR (f := 36) (n0 := 30) (o0 := 642) (by decide) (by decide) rfl (by decide) (by decide) (by decide) ?_
  refine r_istore2 338 dX11_all_337 rfl rfl (by decide) ?_
  refine r_aloadN 339 dX11_all_338 rfl rfl ?_
  refine r_aloadN 340 dX11_all_339 rfl rfl ?_
  refine r_getq 343 dX11_all_340 rfl fX11_98 (by decide) (sh_50 z _) rfl ?_
  refine r_bipush 345 dX11_all_343 rfl (by decide) ?_
  refine r_iloadN 346 dX11_all_345 rfl rfl ?_
  refine r_iloadN 347 dX11_all_346 rfl rfl ?_
  refine r_cv4 350 dX11_all_347 rfl gX11_367 rfl (by decide) (sh_50 z _) rfl rfl (Nat.le_of_ble_eq_true rfl) (Nat.le_of_ble_eq_true rfl) rfl ?_
  refine m_keepR (f := 37) (n0 := 30) (o0 := 672) (by decide) (by decide) rfl (by decide) (by decide) (by decide) ?_
  refine r_istore2 351 dX11_all_350 rfl rfl (by decide) ?_
  refine r_aloadN 352 dX11_all_351 rfl rfl ?_
  refine r_aloadN 353 dX11_all_352 rfl rfl ?_
  refine r_getq 356 dX11_all_353 rfl fX11_101 (by decide) (sh_50 z _) rfl ?_
  refine r_bipush 358 dX11_all_356 rfl (by decide) ?_
  refine r_iloadN 359 dX11_all_358 rfl rfl ?_
  refine r_iloadN 360 dX11_all_359 rfl rfl ?_
  refine r_cv4 363 dX11_all_360 rfl gX11_367 rfl (by decide) (sh_50 z _) rfl rfl (Nat.le_of_ble_eq_true rfl) (Nat.le_of_ble_eq_true rfl) rfl ?_
  refine m_keepR (f := 38) (n0 := 8) (o0 := 702) (by decide) (by decide) rfl (by decide) (by decide) (by decide) ?_
  refine r_istore2 364 dX11_all_363 rfl rfl (by decide) ?_
  refine r_aloadN 365 dX11_all_364 rfl rfl ?_
  refine r_aloadN 366 dX11_all_365 rfl rfl ?_
  refine r_getq 369 dX11_all_366 rfl fX11_104 (by decide) (sh_50 z _) rfl ?_
  refine r_bipush 371 dX11_all_369 rfl (by decide) ?_
  refine r_iloadN 372 dX11_all_371 rfl rfl ?_
  refine r_iloadN 373 dX11_all_372 rfl rfl ?_
  refine r_cv4 376 dX11_all_373 rfl gX11_367 rfl (by decide) (sh_50 z _) rfl rfl (Nat.le_of_ble_eq_true rfl) (Nat.le_of_ble_eq_true rfl) rfl ?_
  refine m_keepR (f := 39) (n0 := 64) (o0 := 710) (by decide) (by decide) rfl (by decide) (by decide) (by decide) ?_
  refine r_istore2 377 dX11_all_376 rfl rfl (by decide) ?_
  refine r_aloadN 378 dX11_all_377 rfl rfl ?_
  refine r_aloadN 379 dX11_all_378 rfl rfl ?_
  refine r_getq 382 dX11_all_379 rfl fX11_107 (by decide) (sh_50 z _) rfl ?_
  refine r_bipush 384 dX11_all_382 rfl (by decide) ?_
  refine r_iloadN 385 dX11_all_384 rfl rfl ?_
  refine r_iloadN 386 dX11_all_385 rfl rfl ?_
  refine r_cv4 389 dX11_all_386 rfl gX11_367 rfl (by decide) (sh_50 z _) rfl rfl (Nat.le_of_ble_eq_true rfl) (Nat.le_of_ble_eq_true rfl) rfl ?_
  refine m_keepR (f := 40) (n0 := 64) (o0 := 774) (by decide) (by decide) rfl (by decide) (by decide) (by decide) ?_
  refine r_istore2 390 dX11_all_389 rfl rfl (by decide) ?_
  refine r_aloadN 391 dX11_all_390 rfl rfl ?_
  refine r_aloadN 392 dX11_all_391 rfl rfl ?_
  refine r_getq 395 dX11_all_392 rfl fX11_110 (by decide) (sh_50 z _) rfl ?_
  refine r_bipush 397 dX11_all_395 rfl (by decide) ?_
  refine r_iloadN 398 dX11_all_397 rfl rfl ?_
  refine r_iloadN 399 dX11_all_398 rfl rfl ?_
  refine r_cv4 402 dX11_all_399 rfl gX11_367 rfl (by decide) (sh_50 z _) rfl rfl (Nat.le_of_ble_eq_true rfl) (Nat.le_of_ble_eq_true rfl) rfl ?_
  refine m_keepR (f := 41) (n0 := 64) (o0 := 838) (by decide) (by decide) rfl (by decide) (by decide) (by decide) ?_
  refine r_istore2 403 dX11_all_402 rfl rfl (by decide) ?_
  refine r_aloadN 404 dX11_all_403 rfl rfl ?_
  refine r_aloadN 405 dX11_all_404 rfl rfl ?_
  refine r_getq 408 dX11_all_405 rfl fX11_113 (by decide) (sh_50 z _) rfl ?_
  refine r_bipush 410 dX11_all_408 rfl (by decide) ?_
  refine r_iloadN 411 dX11_all_410 rfl rfl ?_
  refine r_iloadN 412 dX11_all_411 rfl rfl ?_
  refine r_cv4 415 dX11_all_412 rfl gX11_367 rfl (by decide) (sh_50 z _) rfl rfl (Nat.le_of_ble_eq_true rfl) (Nat.le_of_ble_eq_true rfl) rfl ?_
  refine m_keepR (f := 42) (n0 := 64) (o0 := 902) (by decide) (by decide) rfl (by decide) (by decide) (by decide) ?_
  refine r_istore2 416 dX11_all_415 rfl rfl (by decide) ?_
  refine r_aloadN 417 dX11_all_416 rfl rfl ?_
  refine r_aloadN 418 dX11_all_417 rfl rfl ?_
  refine r_getq 421 dX11_all_418 rfl fX11_116 (by decide) (sh_50 z _) rfl ?_
  refine r_bipush 423 dX11_all_421 rfl (by decide) ?_
  refine r_iloadN 424 dX11_all_423 rfl rfl ?_
  refine r_iloadN 425 dX11_all_424 rfl rfl ?_
  refine r_cv4 428 dX11_all_425 rfl gX11_367 rfl (by decide) (sh_50 z _) rfl rfl (Nat.le_of_ble_eq_true rfl) (Nat.le_of_ble_eq_true rfl) rfl ?_
  refine m_keepR (f := 43) (n0 := 64) (o0 := 966) (by decide) (by decide) rfl (by decide) (by decide) (by decide) ?_
  refine r_popi 429 dX11_all_428 rfl ?_
  exact r_vret dX11_all_429 rfl k
theorem m_image {z : xZ} {d : Nat} {Q : tQ} {c : tC} {L : tL}   (k : ∀ c2, (∀ g i j, ¬ (g = 50 ∧ i = 0 ∧ 67 ≤ j ∧ j ≤ 75) → ¬ (g = 51 ∧ i = 76) → c2 g i j = c g i j) → (∀ j, j < 8 → c2 50 0 (67 + j) = c 50 0 j) → c2 50 0 75 = c 50 0 9 → (∀ f j, f < 44 → 11 ≤ f → j < tml.getD f 0 → c2 51 76 (koff f + j) = c 51 f j) → Q (some (.int (iI (c 50 0 0)))) c2 L) : En z (d + 20) MX11_image Q 0 [some (.ref (xad z 50 0))] [] c L := by
  refine r_aloadN 1 dX11_image_0 rfl rfl ?_
  refine r_aloadN 2 dX11_image_1 rfl rfl ?_
  refine r_geti 5 dX11_image_2 rfl fX11_200 (by decide) (sh_50 z _) rfl ?_
  refine r_puti 8 dX11_image_5 rfl pX11_165 (by decide) (sh_50 z _) rfl ?_
  refine r_aloadN 9 dX11_image_8 rfl rfl ?_
  refine r_aloadN 10 dX11_image_9 rfl rfl ?_
  refine r_geti 13 dX11_image_10 rfl fX11_171 (by decide) (sh_50 z _) rfl ?_
  (try simp only [cu_ap, Nat.reduceEqDiff, false_and, and_false, if_false, reduceIte])
  refine r_puti 16 dX11_image_13 rfl pX11_371 (by decide) (sh_50 z _) rfl ?_
  refine r_aloadN 17 dX11_image_16 rfl rfl ?_
  refine r_aloadN 18 dX11_image_17 rfl rfl ?_
  refine r_geti 21 dX11_image_18 rfl fX11_174 (by decide) (sh_50 z _) rfl ?_
  (try simp only [cu_ap, Nat.reduceEqDiff, false_and, and_false, if_false, reduceIte])
  refine r_puti 24 dX11_image_21 rfl pX11_374 (by decide) (sh_50 z _) rfl ?_
  refine r_aloadN 25 dX11_image_24 rfl rfl ?_
  refine r_aloadN 26 dX11_image_25 rfl rfl ?_
  refine r_geti 29 dX11_image_26 rfl fX11_303 (by decide) (sh_50 z _) rfl ?_
  (try simp only [cu_ap, Nat.reduceEqDiff, false_and, and_false, if_false, reduceIte])
  refine r_puti 32 dX11_image_29 rfl pX11_377 (by decide) (sh_50 z _) rfl ?_
  refine r_aloadN 33 dX11_image_32 rfl rfl ?_
  refine r_aloadN 34 dX11_image_33 rfl rfl ?_
  refine r_geti 37 dX11_image_34 rfl fX11_316 (by decide) (sh_50 z _) rfl ?_
  (try simp only [cu_ap, Nat.reduceEqDiff, false_and, and_false, if_false, reduceIte])
  refine r_puti 40 dX11_image_37 rfl pX11_380 (by decide) (sh_50 z _) rfl ?_
  refine r_aloadN 41 dX11_image_40 rfl rfl ?_
  refine r_aloadN 42 dX11_image_41 rfl rfl ?_
  refine r_geti 45 dX11_image_42 rfl fX11_319 (by decide) (sh_50 z _) rfl ?_
  (try simp only [cu_ap, Nat.reduceEqDiff, false_and, and_false, if_false, reduceIte])
  refine r_puti 48 dX11_image_45 rfl pX11_383 (by decide) (sh_50 z _) rfl ?_
  refine r_aloadN 49 dX11_image_48 rfl rfl ?_
  refine r_aloadN 50 dX11_image_49 rfl rfl ?_
  refine r_geti 53 dX11_image_50 rfl fX11_257 (by decide) (sh_50 z _) rfl ?_
  (try simp only [cu_ap, Nat.reduceEqDiff, false_and, and_false, if_false, reduceIte])
  refine r_puti 56 dX11_image_53 rfl pX11_386 (by decide) (sh_50 z _) rfl ?_
  refine r_aloadN 57 dX11_image_56 rfl rfl ?_
  refine r_aloadN 58 dX11_image_57 rfl rfl ?_
  refine r_geti 61 dX11_image_58 rfl fX11_9 (by decide) (sh_50 z _) rfl ?_
  (try simp only [cu_ap, Nat.reduceEqDiff, false_and, and_false, if_false, reduceIte])
  refine r_puti 64 dX11_image_61 rfl pX11_389 (by decide) (sh_50 z _) rfl ?_
  refine r_aloadN 65 dX11_image_64 rfl rfl ?_
  refine r_aloadN 66 dX11_image_65 rfl rfl ?_
  refine r_geti 69 dX11_image_66 rfl fX11_306 (by decide) (sh_50 z _) rfl ?_
  (try simp only [cu_ap, Nat.reduceEqDiff, false_and, and_false, if_false, reduceIte])
  refine r_puti 72 dX11_image_69 rfl pX11_392 (by decide) (sh_50 z _) rfl ?_
  obtain ⟨c9, h9⟩ : ∃ c9 : tC, c9 = cu (cu (cu (cu (cu (cu (cu (cu (cu c 50 0 67 (c 50 0 0)) 50 0 68 (c 50 0 1)) 50 0 69 (c 50 0 2)) 50 0 70 (c 50 0 3)) 50 0 71 (c 50 0 4)) 50 0 72 (c 50 0 5)) 50 0 73 (c 50 0 6)) 50 0 74 (c 50 0 7)) 50 0 75 (c 50 0 9) := ⟨_, rfl⟩
  rw [← h9]
  have k9 : ∀ g i j, ¬ (g = 50 ∧ i = 0 ∧ 67 ≤ j ∧ j ≤ 75) → c9 g i j = c g i j := fun g i j n => by
    rw [h9, cu_ap, if_neg (by omega), cu_ap, if_neg (by omega), cu_ap, if_neg (by omega), cu_ap, if_neg (by omega), cu_ap, if_neg (by omega), cu_ap, if_neg (by omega), cu_ap, if_neg (by omega), cu_ap, if_neg (by omega), cu_ap, if_neg (by omega)]
  have e9 : ∀ j, j < 8 → c9 50 0 (67 + j) = c 50 0 j := fun j hj => by
    rcases (show j = 0 ∨ j = 1 ∨ j = 2 ∨ j = 3 ∨ j = 4 ∨ j = 5 ∨ j = 6 ∨ j = 7 by omega) with e | e | e | e | e | e | e | e <;> (subst e; rw [h9]; simp [cu_ap])
  have n9 : c9 50 0 75 = c 50 0 9 := by rw [h9, cu_ap, if_pos ⟨rfl, rfl, rfl⟩]
  clear h9
  refine r_aloadN 73 dX11_image_72 rfl rfl ?_
  refine r_iconst 74 dX11_image_73 rfl ?_
  refine r_cv1 77 dX11_image_74 rfl gX11_395 rfl (by decide) (sh_50 z _) rfl rfl (Nat.le_of_ble_eq_true rfl) (Nat.le_of_ble_eq_true rfl) rfl ?_
  refine m_allS ?_
  refine r_aloadN 78 dX11_image_77 rfl rfl ?_
  refine r_geti 81 dX11_image_78 rfl fX11_200 (by decide) (sh_50 z _) rfl ?_
  rw [svA_fr ktb 0 c9 50 0 0 (by omega), k9 50 0 0 (by omega)]
  refine r_ret dX11_image_81 rfl (k _ (fun g i j n1 n2 => ?_) (fun j hj => ?_) ?_ (fun f j h1 h2 hj => ?_))
  · rw [svA_fr ktb 0 c9 g i j (by omega)]; exact k9 g i j n1
  · rw [svA_fr ktb 0 c9 _ _ _ (by omega)]; exact e9 j hj
  · rw [svA_fr ktb 0 c9 _ _ _ (by omega)]; exact n9
  · rw [svA_at ktb 0 c9 f j (by omega) ktb_76 (by rw [ktb_ln f h1 h2]; exact hj)]; exact k9 51 f j (by omega)
theorem m_rest_loop {z : xZ} {d : Nat} {Q : tQ} {L : tL} {c0 : tC} (hh : ∀ s : Nat, s < 8 → (0 ≤ c0 51 44 s ∧ c0 51 44 s ≤ 2) ∧ (c0 51 44 s = 2 → 0 ≤ c0 51 47 s ∧ c0 51 47 s ≤ 14)) (hs2 : 0 ≤ c0 50 0 2 ∧ c0 50 0 2 ≤ 14) (kk : ∀ c, (∀ g i j, ¬ (g = 51 ∧ i = 44 ∧ j < 8) → c g i j = c0 g i j) → (∀ s : Nat, s < 8 → c 51 44 s = if c0 51 44 s = 2 ∧ c0 50 0 2 ≤ c0 51 47 s then 0 else c0 51 44 s) → Q (some (.int (iI (c0 50 0 0)))) c L) : ∀ (k i : Nat) (c : tC), i + k = 8 → (∀ g i j, ¬ (g = 51 ∧ i = 44 ∧ j < 8) → c g i j = c0 g i j) → (∀ s : Nat, s < i → c 51 44 s = if c0 51 44 s = 2 ∧ c0 50 0 2 ≤ c0 51 47 s then 0 else c0 51 44 s) → (∀ s : Nat, i ≤ s → s < 8 → c 51 44 s = c0 51 44 s) → En z (d + 1) MX11_restore Q 94 [some (.ref (xad z 50 0)), some (.int (iI (i : Int)))] [] c L := by
  intro k
  induction k with
  | zero =>
    intro i c hi hF hX hU
    refine r_iloadN 95 dX11_restore_94 rfl rfl ?_
    refine r_bipush 97 dX11_restore_95 rfl (by decide) ?_
    refine r_icge 136 100 dX11_restore_97 rfl (by decide) (by omega) (by omega) (fun h97 => ?_) (fun h97 => ?_)
    · refine r_aloadN 137 dX11_restore_136 rfl rfl ?_
      refine r_geti 140 dX11_restore_137 rfl fX11_200 (by decide) (sh_50 z _) rfl ?_
      rw [hF 50 0 0 (by omega)]
      refine r_ret dX11_restore_140 rfl (kk c hF (fun s hs => hX s (by omega)))
    · exfalso; omega
  | succ k ih =>
    intro i c hi hF hX hU
    have hhi := hh i (by omega)
    refine r_iloadN 95 dX11_restore_94 rfl rfl ?_
    refine r_bipush 97 dX11_restore_95 rfl (by decide) ?_
    refine r_icge 136 100 dX11_restore_97 rfl (by decide) (by omega) (by omega) (fun h97 => ?_) (fun h97 => ?_)
    · exfalso; omega
    · refine r_aloadN 101 dX11_restore_100 rfl rfl ?_
      refine r_getq 104 dX11_restore_101 rfl fX11_119 (by decide) (sh_50 z _) rfl ?_
      refine r_iloadN 105 dX11_restore_104 rfl rfl ?_
      refine r_iald (n := 8) 106 dX11_restore_105 (i) rfl rfl (by decide) (sh_51 z _) (by decide) (by omega) (by omega) ?_
      rw [hU i (by omega) (by omega)]
      refine r_iconst 107 dX11_restore_106 rfl ?_
      refine r_icne 130 110 dX11_restore_107 rfl (by decide) (by omega) (by omega) (fun h107 => ?_) (fun h107 => ?_)
      · refine r_iinc1 133 dX11_restore_130 rfl rfl (by decide) ?_
        refine r_goto 94 dX11_restore_133 (by decide) ?_
        first
          | (refine ih (i + 1) _ (by omega) (fun g a b n => ?_) (fun s hs => ?_) (fun s h1 h2 => ?_)
             · rw [cu_ap, if_neg (by omega)]; exact hF g a b n
             · by_cases q : s = i
               · rw [q, cu_ap, if_pos ⟨rfl, rfl, rfl⟩, if_pos (by omega)]
               · rw [cu_ap, if_neg (by omega)]; exact hX s (by omega)
             · rw [cu_ap, if_neg (by omega)]; exact hU s (by omega) h2)
          | (refine ih (i + 1) _ (by omega) hF (fun s hs => ?_) (fun s h1 h2 => hU s (by omega) h2)
             by_cases q : s = i
             · rw [q, hU i (by omega) (by omega), if_neg (by omega)]
             · exact hX s (by omega))
      · refine r_aloadN 111 dX11_restore_110 rfl rfl ?_
        refine r_getq 114 dX11_restore_111 rfl fX11_128 (by decide) (sh_50 z _) rfl ?_
        refine r_iloadN 115 dX11_restore_114 rfl rfl ?_
        refine r_iald (n := 8) 116 dX11_restore_115 (i) rfl rfl (by decide) (sh_51 z _) (by decide) (by omega) (by omega) ?_
        rw [hF 51 47 i (by omega)]
        refine r_aloadN 117 dX11_restore_116 rfl rfl ?_
        refine r_geti 120 dX11_restore_117 rfl fX11_174 (by decide) (sh_50 z _) rfl ?_
        rw [hF 50 0 2 (by omega)]
        refine r_iclt 130 123 dX11_restore_120 rfl (by decide) (by omega) (by omega) (fun h120 => ?_) (fun h120 => ?_)
        · refine r_iinc1 133 dX11_restore_130 rfl rfl (by decide) ?_
          refine r_goto 94 dX11_restore_133 (by decide) ?_
          first
            | (refine ih (i + 1) _ (by omega) (fun g a b n => ?_) (fun s hs => ?_) (fun s h1 h2 => ?_)
               · rw [cu_ap, if_neg (by omega)]; exact hF g a b n
               · by_cases q : s = i
                 · rw [q, cu_ap, if_pos ⟨rfl, rfl, rfl⟩, if_pos (by omega)]
                 · rw [cu_ap, if_neg (by omega)]; exact hX s (by omega)
               · rw [cu_ap, if_neg (by omega)]; exact hU s (by omega) h2)
            | (refine ih (i + 1) _ (by omega) hF (fun s hs => ?_) (fun s h1 h2 => hU s (by omega) h2)
               by_cases q : s = i
               · rw [q, hU i (by omega) (by omega), if_neg (by omega)]
               · exact hX s (by omega))
        · refine r_aloadN 124 dX11_restore_123 rfl rfl ?_
          refine r_getq 127 dX11_restore_124 rfl fX11_119 (by decide) (sh_50 z _) rfl ?_
          refine r_iloadN 128 dX11_restore_127 rfl rfl ?_
          refine r_iconst 129 dX11_restore_128 rfl ?_
          refine r_iast (n := 8) 130 dX11_restore_129 (i) rfl rfl (by decide) (sh_51 z _) (by decide) (by omega) (by omega) ?_
          refine r_iinc1 133 dX11_restore_130 rfl rfl (by decide) ?_
          refine r_goto 94 dX11_restore_133 (by decide) ?_
          first
            | (refine ih (i + 1) _ (by omega) (fun g a b n => ?_) (fun s hs => ?_) (fun s h1 h2 => ?_)
               · rw [cu_ap, if_neg (by omega)]; exact hF g a b n
               · by_cases q : s = i
                 · rw [q, cu_ap, if_pos ⟨rfl, rfl, rfl⟩, if_pos (by omega)]
                 · rw [cu_ap, if_neg (by omega)]; exact hX s (by omega)
               · rw [cu_ap, if_neg (by omega)]; exact hU s (by omega) h2)
            | (refine ih (i + 1) _ (by omega) hF (fun s hs => ?_) (fun s h1 h2 => hU s (by omega) h2)
               by_cases q : s = i
               · rw [q, hU i (by omega) (by omega), if_neg (by omega)]
               · exact hX s (by omega))
theorem m_restore {z : xZ} {d : Nat} {Q : tQ} {c : tC} {L : tL}  (hh : ∀ s : Nat, s < 8 → (0 ≤ c 51 44 s ∧ c 51 44 s ≤ 2) ∧ (c 51 44 s = 2 → 0 ≤ c 51 47 s ∧ c 51 47 s ≤ 14)) (h67 : -1 ≤ c 50 0 67 ∧ c 50 0 67 ≤ 239) (h69 : c 50 0 67 ≠ -1 → 0 ≤ c 50 0 69 ∧ c 50 0 69 ≤ 14) (kb : c 50 0 67 = -1 → Q (some (.int (iI (-6)))) (mRe c 6) L) (k : c 50 0 67 ≠ -1 → ∀ c2, (∀ g i j, ¬ (g = 50 ∧ i = 0 ∧ (j < 8 ∨ j = 9)) → ¬ (g = 51 ∧ 11 ≤ i ∧ i ≤ 44) → c2 g i j = c g i j) → (∀ j, j < 8 → c2 50 0 j = c 50 0 (67 + j)) → c2 50 0 9 = c 50 0 75 → (∀ f j, f < 44 → 11 ≤ f → j < tml.getD f 0 → c2 51 f j = c 51 76 (koff f + j)) → (∀ s : Nat, s < 8 → c2 51 44 s = if c 51 44 s = 2 ∧ c 50 0 69 ≤ c 51 47 s then 0 else c 51 44 s) → Q (some (.int (iI (c 50 0 67)))) c2 L) : En z (d + 20) MX11_restore Q 0 [some (.ref (xad z 50 0)), none] [] c L := by
  refine r_aloadN 1 dX11_restore_0 rfl rfl ?_
  refine r_geti 4 dX11_restore_1 rfl fX11_165 (by decide) (sh_50 z _) rfl ?_
  refine r_iconst 5 dX11_restore_4 rfl ?_
  refine r_icne 15 8 dX11_restore_5 rfl (by decide) (by omega) (by omega) (fun h5 => ?_) (fun h5 => ?_)
  · refine r_aloadN 16 dX11_restore_15 rfl rfl ?_
    refine r_aloadN 17 dX11_restore_16 rfl rfl ?_
    refine r_geti 20 dX11_restore_17 rfl fX11_165 (by decide) (sh_50 z _) rfl ?_
    refine r_puti 23 dX11_restore_20 rfl pX11_200 (by decide) (sh_50 z _) rfl ?_
    refine r_aloadN 24 dX11_restore_23 rfl rfl ?_
    refine r_aloadN 25 dX11_restore_24 rfl rfl ?_
    refine r_geti 28 dX11_restore_25 rfl fX11_371 (by decide) (sh_50 z _) rfl ?_
    (try simp only [cu_ap, Nat.reduceEqDiff, false_and, and_false, if_false, reduceIte])
    refine r_puti 31 dX11_restore_28 rfl pX11_171 (by decide) (sh_50 z _) rfl ?_
    refine r_aloadN 32 dX11_restore_31 rfl rfl ?_
    refine r_aloadN 33 dX11_restore_32 rfl rfl ?_
    refine r_geti 36 dX11_restore_33 rfl fX11_374 (by decide) (sh_50 z _) rfl ?_
    (try simp only [cu_ap, Nat.reduceEqDiff, false_and, and_false, if_false, reduceIte])
    refine r_puti 39 dX11_restore_36 rfl pX11_174 (by decide) (sh_50 z _) rfl ?_
    refine r_aloadN 40 dX11_restore_39 rfl rfl ?_
    refine r_aloadN 41 dX11_restore_40 rfl rfl ?_
    refine r_geti 44 dX11_restore_41 rfl fX11_377 (by decide) (sh_50 z _) rfl ?_
    (try simp only [cu_ap, Nat.reduceEqDiff, false_and, and_false, if_false, reduceIte])
    refine r_puti 47 dX11_restore_44 rfl pX11_303 (by decide) (sh_50 z _) rfl ?_
    refine r_aloadN 48 dX11_restore_47 rfl rfl ?_
    refine r_aloadN 49 dX11_restore_48 rfl rfl ?_
    refine r_geti 52 dX11_restore_49 rfl fX11_380 (by decide) (sh_50 z _) rfl ?_
    (try simp only [cu_ap, Nat.reduceEqDiff, false_and, and_false, if_false, reduceIte])
    refine r_puti 55 dX11_restore_52 rfl pX11_316 (by decide) (sh_50 z _) rfl ?_
    refine r_aloadN 56 dX11_restore_55 rfl rfl ?_
    refine r_aloadN 57 dX11_restore_56 rfl rfl ?_
    refine r_geti 60 dX11_restore_57 rfl fX11_383 (by decide) (sh_50 z _) rfl ?_
    (try simp only [cu_ap, Nat.reduceEqDiff, false_and, and_false, if_false, reduceIte])
    refine r_puti 63 dX11_restore_60 rfl pX11_319 (by decide) (sh_50 z _) rfl ?_
    refine r_aloadN 64 dX11_restore_63 rfl rfl ?_
    refine r_aloadN 65 dX11_restore_64 rfl rfl ?_
    refine r_geti 68 dX11_restore_65 rfl fX11_386 (by decide) (sh_50 z _) rfl ?_
    (try simp only [cu_ap, Nat.reduceEqDiff, false_and, and_false, if_false, reduceIte])
    refine r_puti 71 dX11_restore_68 rfl pX11_257 (by decide) (sh_50 z _) rfl ?_
    refine r_aloadN 72 dX11_restore_71 rfl rfl ?_
    refine r_aloadN 73 dX11_restore_72 rfl rfl ?_
    refine r_geti 76 dX11_restore_73 rfl fX11_389 (by decide) (sh_50 z _) rfl ?_
    (try simp only [cu_ap, Nat.reduceEqDiff, false_and, and_false, if_false, reduceIte])
    refine r_puti 79 dX11_restore_76 rfl pX11_9 (by decide) (sh_50 z _) rfl ?_
    refine r_aloadN 80 dX11_restore_79 rfl rfl ?_
    refine r_aloadN 81 dX11_restore_80 rfl rfl ?_
    refine r_geti 84 dX11_restore_81 rfl fX11_392 (by decide) (sh_50 z _) rfl ?_
    (try simp only [cu_ap, Nat.reduceEqDiff, false_and, and_false, if_false, reduceIte])
    refine r_puti 87 dX11_restore_84 rfl pX11_306 (by decide) (sh_50 z _) rfl ?_
    obtain ⟨c9, h9⟩ : ∃ c9 : tC, c9 = cu (cu (cu (cu (cu (cu (cu (cu (cu c 50 0 0 (c 50 0 67)) 50 0 1 (c 50 0 68)) 50 0 2 (c 50 0 69)) 50 0 3 (c 50 0 70)) 50 0 4 (c 50 0 71)) 50 0 5 (c 50 0 72)) 50 0 6 (c 50 0 73)) 50 0 7 (c 50 0 74)) 50 0 9 (c 50 0 75) := ⟨_, rfl⟩
    rw [← h9]
    have k9 : ∀ g i j, ¬ (g = 50 ∧ i = 0 ∧ (j < 8 ∨ j = 9)) → c9 g i j = c g i j := fun g i j n => by
      rw [h9, cu_ap, if_neg (by omega), cu_ap, if_neg (by omega), cu_ap, if_neg (by omega), cu_ap, if_neg (by omega), cu_ap, if_neg (by omega), cu_ap, if_neg (by omega), cu_ap, if_neg (by omega), cu_ap, if_neg (by omega), cu_ap, if_neg (by omega)]
    have e9 : ∀ j, j < 8 → c9 50 0 j = c 50 0 (67 + j) := fun j hj => by
      rcases (show j = 0 ∨ j = 1 ∨ j = 2 ∨ j = 3 ∨ j = 4 ∨ j = 5 ∨ j = 6 ∨ j = 7 by omega) with e | e | e | e | e | e | e | e <;> (subst e; rw [h9]; simp [cu_ap])
    have n9 : c9 50 0 9 = c 50 0 75 := by rw [h9, cu_ap, if_pos ⟨rfl, rfl, rfl⟩]
    clear h9
    refine r_aloadN 88 dX11_restore_87 rfl rfl ?_
    refine r_iconst 89 dX11_restore_88 rfl ?_
    refine r_cv1 92 dX11_restore_89 rfl gX11_395 rfl (by decide) (sh_50 z _) rfl rfl (Nat.le_of_ble_eq_true rfl) (Nat.le_of_ble_eq_true rfl) rfl ?_
    refine m_allR ?_
    refine r_iconst 93 dX11_restore_92 rfl ?_
    refine r_istore1 94 dX11_restore_93 rfl rfl (by decide) ?_
    have hr4 : ∀ j, rsA ktb 0 c9 51 44 j = c 51 44 j := fun j => by rw [rsA_fr ktb 0 c9 51 44 j (fun q => by have := ktb_in 44 q.2; omega)]; exact k9 51 44 j (by omega)
    have hr7 : ∀ j, rsA ktb 0 c9 51 47 j = c 51 47 j := fun j => by rw [rsA_fr ktb 0 c9 51 47 j (fun q => by have := ktb_in 47 q.2; omega)]; exact k9 51 47 j (by omega)
    have h50 : ∀ j, rsA ktb 0 c9 50 0 j = c9 50 0 j := fun j => rsA_fr ktb 0 c9 50 0 j (fun q => absurd q.1 (by decide))
    have hne : c 50 0 67 ≠ -1 := h5
    have e2 : rsA ktb 0 c9 50 0 2 = c 50 0 69 := (h50 2).trans (e9 2 (by omega))
    have e0 : rsA ktb 0 c9 50 0 0 = c 50 0 67 := (h50 0).trans (e9 0 (by omega))
    refine m_rest_loop (c0 := rsA ktb 0 c9) (fun s hs => by rw [hr4 s, hr7 s]; exact hh s hs) (by rw [e2]; exact h69 hne) (fun c3 hF hX => ?_) 8 0 _ rfl (fun _ _ _ _ => rfl) (fun s hs => absurd hs (Nat.not_lt_zero _)) (fun _ _ _ => rfl)
    rw [e0]
    refine k hne c3 (fun g i j n1 n2 => ?_) (fun j hj => ?_) ?_ (fun f j h1 h2 hj => ?_) (fun s hs => ?_)
    · rw [hF g i j (by omega), rsA_fr ktb 0 c9 g i j (fun q => by have := ktb_in i q.2; omega)]
      exact k9 g i j n1
    · rw [hF 50 0 j (by omega), h50 j]; exact e9 j hj
    · rw [hF 50 0 9 (by omega), h50 9]; exact n9
    · rw [hF 51 f j (by omega), rsA_at ktb 0 c9 f j ktb_nd ktb_76 (by rw [ktb_ln f h1 h2]; exact hj)]; exact k9 51 76 _ (by omega)
    · rw [hX s hs, hr4 s, hr7 s, e2]
  · refine r_aloadN 9 dX11_restore_8 rfl rfl ?_
    refine r_bipush 11 dX11_restore_9 rfl (by decide) ?_
    refine r_cv1 14 dX11_restore_11 rfl gX11_184 rfl (by decide) (sh_50 z _) rfl rfl (Nat.le_of_ble_eq_true rfl) (Nat.le_of_ble_eq_true rfl) rfl ?_
    refine m_no (k0 := 6) (by decide) (by decide) ?_
    exact r_ret dX11_restore_14 rfl (kb (by omega))
