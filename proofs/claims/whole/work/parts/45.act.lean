/-! act: bodies that run; kd the kind, m the number, t the tone -/
/-- bodies l written to the row (ga, ia), counted at field jf of (gf, 0), n of them there already -/
def tB (ga ia gf jf : Nat) : tC → Nat → List Int → tC
  | c, _, [] => c
  | c, n, b :: l => tB ga ia gf jf (cu (cu c ga ia n b) gf 0 jf ((n : Int) + 1)) (n + 1) l
theorem tB_app {ga ia gf jf : Nat} : ∀ (l l2 : List Int) (c : tC) (n : Nat), tB ga ia gf jf c n (l ++ l2) = tB ga ia gf jf (tB ga ia gf jf c n l) (n + l.length) l2
  | [], _, _, _ => rfl
  | b :: l, l2, c, n => by
    rw [List.cons_append, tB, tB_app l l2, tB, List.length_cons, show n + 1 + l.length = n + (l.length + 1) by omega]
theorem tB_at {ga ia gf jf g i j : Nat} (h1 : ¬ (g = ga ∧ i = ia)) (h2 : ¬ (g = gf ∧ i = 0 ∧ j = jf)) : ∀ (l : List Int) (c : tC) (n : Nat), tB ga ia gf jf c n l g i j = c g i j
  | [], _, _ => rfl
  | b :: l, c, n => by
    rw [tB, tB_at h1 h2 l, cu, if_neg h2, cu, if_neg (fun q => h1 ⟨q.1, q.2.1⟩)]
theorem tB_n {ga ia gf jf : Nat} (h : ¬ (gf = ga ∧ 0 = ia)) : ∀ (l : List Int) (c : tC) (n : Nat), c gf 0 jf = (n : Int) → tB ga ia gf jf c n l gf 0 jf = ((n + l.length : Nat) : Int)
  | [], _, _, h0 => h0
  | b :: l, c, n, h0 => by
    rw [tB, tB_n h l _ (n + 1) (by rw [cu, if_pos ⟨rfl, rfl, rfl⟩]; omega), List.length_cons, show n + 1 + l.length = n + (l.length + 1) by omega]
theorem tB_row {ga ia gf jf : Nat} (h : ¬ (gf = ga ∧ 0 = ia)) : ∀ (l : List Int) (c : tC) (n j : Nat), (j < n → tB ga ia gf jf c n l ga ia j = c ga ia j) ∧ (n ≤ j → j < n + l.length → tB ga ia gf jf c n l ga ia j = l.getD (j - n) 0)
  | [], _, n, j => ⟨fun _ => rfl, fun h1 h2 => by rw [List.length_nil] at h2; omega⟩
  | b :: l, c, n, j => by
    have ih := tB_row (jf := jf) h l (cu (cu c ga ia n b) gf 0 jf ((n : Int) + 1)) (n + 1) j
    have hg : ¬ (ga = gf ∧ ia = 0 ∧ j = jf) := fun q => h ⟨q.1.symm, q.2.1.symm⟩
    refine ⟨fun h1 => ?_, fun h1 h2 => ?_⟩
    · rw [tB, ih.1 (by omega), cu, if_neg hg, cu, if_neg (fun q => absurd q.2.2 (by omega))]
    · rw [List.length_cons] at h2
      by_cases e : j = n
      · rw [tB, ih.1 (by omega), cu, if_neg hg, cu, if_pos ⟨rfl, rfl, e⟩, e, Nat.sub_self]
        rfl
      · rw [tB, ih.2 (by omega) (by omega), show j - n = (j - (n + 1)) + 1 by omega]
        rfl
abbrev xBs : tC → Nat → List Int → tC := tB 34 0 33 4
abbrev mBs : tC → Nat → List Int → tC := tB 51 65 50 66
theorem xBs_at {c : tC} {n j : Nat} {l : List Int} (h : j ≠ 4) : xBs c n l 33 0 j = c 33 0 j := tB_at (by omega) (by omega) _ _ _
theorem mBs_at {c : tC} {n f j : Nat} {l : List Int} (h : f ≠ 65) : mBs c n l 51 f j = c 51 f j := tB_at (by omega) (by omega) _ _ _
def sV (kd m x : Int) : Int := if kd = 1 then (x + m) * 3 else if kd = 7 then (x - 1 + m) * 3 else if kd = 5 then ixor (x + m) 5 else x + m
def sL (kd : Int) : List Int := if kd = 1 then [20, 10] else if kd = 7 then [80, 20, 10] else if kd = 5 then [60, 10] else [10]
def rV (kd m t x : Int) : Int := if kd = 2 then sV kd m x * 2 + t else if kd = 3 then sV kd m (x + 1) * 2 else if kd = 7 then sV kd m x * 2 + 9 else sV kd m x * 2
def rL (kd : Int) : List Int := if kd = 2 then 30 :: 11 :: sL kd else if kd = 3 then 40 :: 11 :: sL kd else if kd = 7 then 81 :: 11 :: sL kd else 11 :: sL kd
def hV0 (kd m t x : Int) : Int := ixor (rV kd m t x) (sV kd m (x - t))
def hV (kd m t x : Int) : Int := if kd = 3 then -(hV0 kd m t x) else if kd = 4 then hV0 kd m t x - m else if kd = 6 then hV0 kd m t x * 2 else hV0 kd m t x
def hL0 (kd : Int) : List Int := 12 :: (rL kd ++ sL kd)
def hL (kd : Int) : List Int := if kd = 3 then 41 :: hL0 kd else if kd = 4 then 50 :: hL0 kd else if kd = 6 then 70 :: hL0 kd else hL0 kd
theorem sL_len (kd : Int) : (sL kd).length ≤ 3 := by
  unfold sL
  split
  · decide
  · split
    · decide
    · split <;> decide
theorem rL_len (kd : Int) : (rL kd).length ≤ 5 := by
  have := sL_len kd
  unfold rL
  split
  · simp only [List.length_cons]; omega
  · split
    · simp only [List.length_cons]; omega
    · split <;> (simp only [List.length_cons]; omega)
theorem hL_len (kd : Int) : (hL kd).length ≤ 10 := by
  have h1 := sL_len kd
  have h2 := rL_len kd
  unfold hL hL0
  split
  · simp only [List.length_cons, List.length_append]; omega
  · split
    · simp only [List.length_cons, List.length_append]; omega
    · split <;> (simp only [List.length_cons, List.length_append]; omega)
theorem x_abegin {z : xZ} {d : Nat} {Q : tQ} {c : tC} {L : tL} {n : Nat} {b : Int} (h : c 33 0 4 = (n : Int)) (hn : n < 20) (k : Q none (cu (cu c 34 0 n b) 33 0 4 ((n : Int) + 1)) L) : En z (d + 1) MX0_begin Q 0 [some (.ref (xad z 33 0)), some (.int (iI b))] [] c L := by
  refine r_aloadN 1 dX0_begin_0 rfl rfl ?_
  refine r_geti 4 dX0_begin_1 rfl fX0_25 (by decide) (sh_33 z _) rfl ?_
  rw [h]
  refine r_bipush 6 dX0_begin_4 rfl (by decide) ?_
  refine r_icge 19 9 dX0_begin_6 rfl (by decide) (by omega) (by omega) (fun h6 => ?_) (fun h6 => ?_)
  · refine r_aloadN 20 dX0_begin_19 rfl rfl ?_
    refine r_dupr 21 dX0_begin_20 rfl ?_
    refine r_geti 24 dX0_begin_21 rfl fX0_25 (by decide) (sh_33 z _) rfl ?_
    (try simp only [cu_ap, Nat.reduceEqDiff, false_and, and_false, if_false, reduceIte])
    rw [h]
    refine r_iconst 25 dX0_begin_24 rfl ?_
    refine r_iadd 26 dX0_begin_25 rfl ?_
    refine r_puti 29 dX0_begin_26 rfl pX0_25 (by decide) (sh_33 z _) rfl ?_
    first
      | (exfalso; omega)
      | exact r_vret dX0_begin_29 rfl k
  · refine r_aloadN 10 dX0_begin_9 rfl rfl ?_
    refine r_getq 13 dX0_begin_10 rfl fX0_9 (by decide) (sh_33 z _) rfl ?_
    refine r_aloadN 14 dX0_begin_13 rfl rfl ?_
    refine r_geti 17 dX0_begin_14 rfl fX0_25 (by decide) (sh_33 z _) rfl ?_
    (try simp only [cu_ap, Nat.reduceEqDiff, false_and, and_false, if_false, reduceIte])
    rw [h]
    refine r_iloadN 18 dX0_begin_17 rfl rfl ?_
    refine r_iast 19 dX0_begin_18 (n) rfl rfl (by decide) (sh_34 z _) (by decide) (by omega) (by omega) ?_
    refine r_aloadN 20 dX0_begin_19 rfl rfl ?_
    refine r_dupr 21 dX0_begin_20 rfl ?_
    refine r_geti 24 dX0_begin_21 rfl fX0_25 (by decide) (sh_33 z _) rfl ?_
    (try simp only [cu_ap, Nat.reduceEqDiff, false_and, and_false, if_false, reduceIte])
    rw [h]
    refine r_iconst 25 dX0_begin_24 rfl ?_
    refine r_iadd 26 dX0_begin_25 rfl ?_
    refine r_puti 29 dX0_begin_26 rfl pX0_25 (by decide) (sh_33 z _) rfl ?_
    first
      | (exfalso; omega)
      | exact r_vret dX0_begin_29 rfl k
theorem x_soundsWith {z : xZ} {d : Nat} {Q : tQ} {c : tC} {L : tL} {n : Nat} {kd m x : Int} (h : c 33 0 4 = (n : Int)) (hn : n + 3 ≤ 20) (h3 : c 33 0 3 = kd) (h1 : c 33 0 1 = m) (hk : 1 ≤ kd ∧ kd ≤ 7) (k : Q (some (.int (iI (sV kd m x)))) (xBs c n (sL kd)) L) : En z (d + 2) MX0_soundsWith Q 0 [some (.ref (xad z 33 0)), some (.int (iI x))] [] c L := by
  refine r_aloadN 1 dX0_soundsWith_0 rfl rfl ?_
  refine r_geti 4 dX0_soundsWith_1 rfl fX0_22 (by decide) (sh_33 z _) rfl ?_
  rcases (show kd = 1 ∨ kd = 2 ∨ kd = 3 ∨ kd = 4 ∨ kd = 5 ∨ kd = 6 ∨ kd = 7 by omega) with e9 | e9 | e9 | e9 | e9 | e9 | e9
  · subst e9
    refine r_look (36) 40 dX0_soundsWith_4 (by omega) (by decide) (by rw [h3]; rfl) (by decide) ?_
    refine r_aloadN 41 dX0_soundsWith_40 rfl rfl ?_
    refine r_bipush 43 dX0_soundsWith_41 rfl (by decide) ?_
    refine r_cv1 46 dX0_soundsWith_43 rfl gX0_44 rfl (by decide) (sh_33 z _) rfl rfl (Nat.le_of_ble_eq_true rfl) (Nat.le_of_ble_eq_true rfl) rfl ?_
    refine x_abegin (n := n) h (by omega) ?_
    refine r_aloadN 47 dX0_soundsWith_46 rfl rfl ?_
    refine r_bipush 49 dX0_soundsWith_47 rfl (by decide) ?_
    refine r_cv1 52 dX0_soundsWith_49 rfl gX0_44 rfl (by decide) (sh_33 z _) rfl rfl (Nat.le_of_ble_eq_true rfl) (Nat.le_of_ble_eq_true rfl) rfl ?_
    refine x_abegin (n := n + 1) (by show (n : Int) + 1 = _; omega) (by omega) ?_
    refine r_iloadN 53 dX0_soundsWith_52 rfl rfl ?_
    refine r_aloadN 54 dX0_soundsWith_53 rfl rfl ?_
    refine r_geti 57 dX0_soundsWith_54 rfl fX0_15 (by decide) (sh_33 z _) rfl ?_
    (try simp only [cu_ap, Nat.reduceEqDiff, false_and, and_false, if_false, reduceIte])
    rw [h1]
    refine r_iadd 58 dX0_soundsWith_57 rfl ?_
    refine r_iconst 59 dX0_soundsWith_58 rfl ?_
    refine r_imul 60 dX0_soundsWith_59 rfl ?_
    exact r_ret dX0_soundsWith_60 rfl k
  · subst e9
    refine r_look (107) 111 dX0_soundsWith_4 (by omega) (by decide) (by rw [h3]; rfl) (by decide) ?_
    refine r_aloadN 112 dX0_soundsWith_111 rfl rfl ?_
    refine r_bipush 114 dX0_soundsWith_112 rfl (by decide) ?_
    refine r_cv1 117 dX0_soundsWith_114 rfl gX0_44 rfl (by decide) (sh_33 z _) rfl rfl (Nat.le_of_ble_eq_true rfl) (Nat.le_of_ble_eq_true rfl) rfl ?_
    refine x_abegin (n := n) h (by omega) ?_
    refine r_iloadN 118 dX0_soundsWith_117 rfl rfl ?_
    refine r_aloadN 119 dX0_soundsWith_118 rfl rfl ?_
    refine r_geti 122 dX0_soundsWith_119 rfl fX0_15 (by decide) (sh_33 z _) rfl ?_
    (try simp only [cu_ap, Nat.reduceEqDiff, false_and, and_false, if_false, reduceIte])
    rw [h1]
    refine r_iadd 123 dX0_soundsWith_122 rfl ?_
    exact r_ret dX0_soundsWith_123 rfl k
  · subst e9
    refine r_look (107) 111 dX0_soundsWith_4 (by omega) (by decide) (by rw [h3]; rfl) (by decide) ?_
    refine r_aloadN 112 dX0_soundsWith_111 rfl rfl ?_
    refine r_bipush 114 dX0_soundsWith_112 rfl (by decide) ?_
    refine r_cv1 117 dX0_soundsWith_114 rfl gX0_44 rfl (by decide) (sh_33 z _) rfl rfl (Nat.le_of_ble_eq_true rfl) (Nat.le_of_ble_eq_true rfl) rfl ?_
    refine x_abegin (n := n) h (by omega) ?_
    refine r_iloadN 118 dX0_soundsWith_117 rfl rfl ?_
    refine r_aloadN 119 dX0_soundsWith_118 rfl rfl ?_
    refine r_geti 122 dX0_soundsWith_119 rfl fX0_15 (by decide) (sh_33 z _) rfl ?_
    (try simp only [cu_ap, Nat.reduceEqDiff, false_and, and_false, if_false, reduceIte])
    rw [h1]
    refine r_iadd 123 dX0_soundsWith_122 rfl ?_
    exact r_ret dX0_soundsWith_123 rfl k
  · subst e9
    refine r_look (107) 111 dX0_soundsWith_4 (by omega) (by decide) (by rw [h3]; rfl) (by decide) ?_
    refine r_aloadN 112 dX0_soundsWith_111 rfl rfl ?_
    refine r_bipush 114 dX0_soundsWith_112 rfl (by decide) ?_
    refine r_cv1 117 dX0_soundsWith_114 rfl gX0_44 rfl (by decide) (sh_33 z _) rfl rfl (Nat.le_of_ble_eq_true rfl) (Nat.le_of_ble_eq_true rfl) rfl ?_
    refine x_abegin (n := n) h (by omega) ?_
    refine r_iloadN 118 dX0_soundsWith_117 rfl rfl ?_
    refine r_aloadN 119 dX0_soundsWith_118 rfl rfl ?_
    refine r_geti 122 dX0_soundsWith_119 rfl fX0_15 (by decide) (sh_33 z _) rfl ?_
    (try simp only [cu_ap, Nat.reduceEqDiff, false_and, and_false, if_false, reduceIte])
    rw [h1]
    refine r_iadd 123 dX0_soundsWith_122 rfl ?_
    exact r_ret dX0_soundsWith_123 rfl k
  · subst e9
    refine r_look (86) 90 dX0_soundsWith_4 (by omega) (by decide) (by rw [h3]; rfl) (by decide) ?_
    refine r_aloadN 91 dX0_soundsWith_90 rfl rfl ?_
    refine r_bipush 93 dX0_soundsWith_91 rfl (by decide) ?_
    refine r_cv1 96 dX0_soundsWith_93 rfl gX0_44 rfl (by decide) (sh_33 z _) rfl rfl (Nat.le_of_ble_eq_true rfl) (Nat.le_of_ble_eq_true rfl) rfl ?_
    refine x_abegin (n := n) h (by omega) ?_
    refine r_aloadN 97 dX0_soundsWith_96 rfl rfl ?_
    refine r_bipush 99 dX0_soundsWith_97 rfl (by decide) ?_
    refine r_cv1 102 dX0_soundsWith_99 rfl gX0_44 rfl (by decide) (sh_33 z _) rfl rfl (Nat.le_of_ble_eq_true rfl) (Nat.le_of_ble_eq_true rfl) rfl ?_
    refine x_abegin (n := n + 1) (by show (n : Int) + 1 = _; omega) (by omega) ?_
    refine r_iloadN 103 dX0_soundsWith_102 rfl rfl ?_
    refine r_aloadN 104 dX0_soundsWith_103 rfl rfl ?_
    refine r_geti 107 dX0_soundsWith_104 rfl fX0_15 (by decide) (sh_33 z _) rfl ?_
    (try simp only [cu_ap, Nat.reduceEqDiff, false_and, and_false, if_false, reduceIte])
    rw [h1]
    refine r_iadd 108 dX0_soundsWith_107 rfl ?_
    refine r_iconst 109 dX0_soundsWith_108 rfl ?_
    refine r_ixor 110 dX0_soundsWith_109 rfl ?_
    exact r_ret dX0_soundsWith_110 rfl k
  · subst e9
    refine r_look (107) 111 dX0_soundsWith_4 (by omega) (by decide) (by rw [h3]; rfl) (by decide) ?_
    refine r_aloadN 112 dX0_soundsWith_111 rfl rfl ?_
    refine r_bipush 114 dX0_soundsWith_112 rfl (by decide) ?_
    refine r_cv1 117 dX0_soundsWith_114 rfl gX0_44 rfl (by decide) (sh_33 z _) rfl rfl (Nat.le_of_ble_eq_true rfl) (Nat.le_of_ble_eq_true rfl) rfl ?_
    refine x_abegin (n := n) h (by omega) ?_
    refine r_iloadN 118 dX0_soundsWith_117 rfl rfl ?_
    refine r_aloadN 119 dX0_soundsWith_118 rfl rfl ?_
    refine r_geti 122 dX0_soundsWith_119 rfl fX0_15 (by decide) (sh_33 z _) rfl ?_
    (try simp only [cu_ap, Nat.reduceEqDiff, false_and, and_false, if_false, reduceIte])
    rw [h1]
    refine r_iadd 123 dX0_soundsWith_122 rfl ?_
    exact r_ret dX0_soundsWith_123 rfl k
  · subst e9
    refine r_look (57) 61 dX0_soundsWith_4 (by omega) (by decide) (by rw [h3]; rfl) (by decide) ?_
    refine r_aloadN 62 dX0_soundsWith_61 rfl rfl ?_
    refine r_bipush 64 dX0_soundsWith_62 rfl (by decide) ?_
    refine r_cv1 67 dX0_soundsWith_64 rfl gX0_44 rfl (by decide) (sh_33 z _) rfl rfl (Nat.le_of_ble_eq_true rfl) (Nat.le_of_ble_eq_true rfl) rfl ?_
    refine x_abegin (n := n) h (by omega) ?_
    refine r_aloadN 68 dX0_soundsWith_67 rfl rfl ?_
    refine r_bipush 70 dX0_soundsWith_68 rfl (by decide) ?_
    refine r_cv1 73 dX0_soundsWith_70 rfl gX0_44 rfl (by decide) (sh_33 z _) rfl rfl (Nat.le_of_ble_eq_true rfl) (Nat.le_of_ble_eq_true rfl) rfl ?_
    refine x_abegin (n := n + 1) (by show (n : Int) + 1 = _; omega) (by omega) ?_
    refine r_aloadN 74 dX0_soundsWith_73 rfl rfl ?_
    refine r_bipush 76 dX0_soundsWith_74 rfl (by decide) ?_
    refine r_cv1 79 dX0_soundsWith_76 rfl gX0_44 rfl (by decide) (sh_33 z _) rfl rfl (Nat.le_of_ble_eq_true rfl) (Nat.le_of_ble_eq_true rfl) rfl ?_
    refine x_abegin (n := n + 2) (by show (n : Int) + 1 + 1 = _; omega) (by omega) ?_
    refine r_iloadN 80 dX0_soundsWith_79 rfl rfl ?_
    refine r_iconst 81 dX0_soundsWith_80 rfl ?_
    refine r_isub 82 dX0_soundsWith_81 rfl ?_
    refine r_aloadN 83 dX0_soundsWith_82 rfl rfl ?_
    refine r_geti 86 dX0_soundsWith_83 rfl fX0_15 (by decide) (sh_33 z _) rfl ?_
    (try simp only [cu_ap, Nat.reduceEqDiff, false_and, and_false, if_false, reduceIte])
    rw [h1]
    refine r_iadd 87 dX0_soundsWith_86 rfl ?_
    refine r_iconst 88 dX0_soundsWith_87 rfl ?_
    refine r_imul 89 dX0_soundsWith_88 rfl ?_
    exact r_ret dX0_soundsWith_89 rfl k
theorem x_reachesOfHum {z : xZ} {d : Nat} {Q : tQ} {c : tC} {L : tL} {n : Nat} {kd m x : Int} (h : c 33 0 4 = (n : Int)) (hn : n + 4 ≤ 20) (h3 : c 33 0 3 = kd) (h1 : c 33 0 1 = m) (hk : 1 ≤ kd ∧ kd ≤ 7) (k : Q (some (.int (iI (sV kd m x * 2)))) (xBs c n (11 :: sL kd)) L) : En z (d + 3) MX0_reachesOfHum Q 0 [some (.ref (xad z 33 0)), some (.int (iI x))] [] c L := by
  refine r_aloadN 1 dX0_reachesOfHum_0 rfl rfl ?_
  refine r_bipush 3 dX0_reachesOfHum_1 rfl (by decide) ?_
  refine r_cv1 6 dX0_reachesOfHum_3 rfl gX0_44 rfl (by decide) (sh_33 z _) rfl rfl (Nat.le_of_ble_eq_true rfl) (Nat.le_of_ble_eq_true rfl) rfl ?_
  refine x_abegin (n := n) h (by omega) ?_
  refine r_aloadN 7 dX0_reachesOfHum_6 rfl rfl ?_
  refine r_iloadN 8 dX0_reachesOfHum_7 rfl rfl ?_
  refine r_cv1 11 dX0_reachesOfHum_8 rfl gX0_34 rfl (by decide) (sh_33 z _) rfl rfl (Nat.le_of_ble_eq_true rfl) (Nat.le_of_ble_eq_true rfl) rfl ?_
  refine x_soundsWith (n := n + 1) (kd := kd) (m := m) (by show (n : Int) + 1 = _; omega) (by omega) h3 h1 hk ?_
  refine r_iconst 12 dX0_reachesOfHum_11 rfl ?_
  refine r_imul 13 dX0_reachesOfHum_12 rfl ?_
  exact r_ret dX0_reachesOfHum_13 rfl k
theorem x_reachesWith {z : xZ} {d : Nat} {Q : tQ} {c : tC} {L : tL} {n : Nat} {kd m t x : Int} (h : c 33 0 4 = (n : Int)) (hn : n + 5 ≤ 20) (h3 : c 33 0 3 = kd) (h1 : c 33 0 1 = m) (h2 : c 33 0 2 = t) (hk : 1 ≤ kd ∧ kd ≤ 7) (k : Q (some (.int (iI (rV kd m t x)))) (xBs c n (rL kd)) L) : En z (d + 4) MX0_reachesWith Q 0 [some (.ref (xad z 33 0)), some (.int (iI x))] [] c L := by
  refine r_aloadN 1 dX0_reachesWith_0 rfl rfl ?_
  refine r_geti 4 dX0_reachesWith_1 rfl fX0_22 (by decide) (sh_33 z _) rfl ?_
  rcases (show kd = 1 ∨ kd = 2 ∨ kd = 3 ∨ kd = 4 ∨ kd = 5 ∨ kd = 6 ∨ kd = 7 by omega) with e9 | e9 | e9 | e9 | e9 | e9 | e9
  · subst e9
    refine r_look (82) 86 dX0_reachesWith_4 (by omega) (by decide) (by rw [h3]; rfl) (by decide) ?_
    refine r_aloadN 87 dX0_reachesWith_86 rfl rfl ?_
    refine r_iloadN 88 dX0_reachesWith_87 rfl rfl ?_
    refine r_cv1 91 dX0_reachesWith_88 rfl gX0_48 rfl (by decide) (sh_33 z _) rfl rfl (Nat.le_of_ble_eq_true rfl) (Nat.le_of_ble_eq_true rfl) rfl ?_
    refine x_reachesOfHum (n := n) (m := m) h (by omega) h3 h1 (by omega) ?_
    exact r_ret dX0_reachesWith_91 rfl k
  · subst e9
    refine r_look (36) 40 dX0_reachesWith_4 (by omega) (by decide) (by rw [h3]; rfl) (by decide) ?_
    refine r_aloadN 41 dX0_reachesWith_40 rfl rfl ?_
    refine r_bipush 43 dX0_reachesWith_41 rfl (by decide) ?_
    refine r_cv1 46 dX0_reachesWith_43 rfl gX0_44 rfl (by decide) (sh_33 z _) rfl rfl (Nat.le_of_ble_eq_true rfl) (Nat.le_of_ble_eq_true rfl) rfl ?_
    refine x_abegin (n := n) h (by omega) ?_
    refine r_aloadN 47 dX0_reachesWith_46 rfl rfl ?_
    refine r_iloadN 48 dX0_reachesWith_47 rfl rfl ?_
    refine r_cv1 51 dX0_reachesWith_48 rfl gX0_48 rfl (by decide) (sh_33 z _) rfl rfl (Nat.le_of_ble_eq_true rfl) (Nat.le_of_ble_eq_true rfl) rfl ?_
    refine x_reachesOfHum (n := n + 1) (m := m) (by show (n : Int) + 1 = _; omega) (by omega) h3 h1 (by omega) ?_
    refine r_aloadN 52 dX0_reachesWith_51 rfl rfl ?_
    refine r_geti 55 dX0_reachesWith_52 rfl fX0_19 (by decide) (sh_33 z _) rfl ?_
    rw [xBs_at (by decide)]
    (try simp only [cu_ap, Nat.reduceEqDiff, false_and, and_false, if_false, reduceIte])
    rw [h2]
    refine r_iadd 56 dX0_reachesWith_55 rfl ?_
    exact r_ret dX0_reachesWith_56 rfl k
  · subst e9
    refine r_look (53) 57 dX0_reachesWith_4 (by omega) (by decide) (by rw [h3]; rfl) (by decide) ?_
    refine r_aloadN 58 dX0_reachesWith_57 rfl rfl ?_
    refine r_bipush 60 dX0_reachesWith_58 rfl (by decide) ?_
    refine r_cv1 63 dX0_reachesWith_60 rfl gX0_44 rfl (by decide) (sh_33 z _) rfl rfl (Nat.le_of_ble_eq_true rfl) (Nat.le_of_ble_eq_true rfl) rfl ?_
    refine x_abegin (n := n) h (by omega) ?_
    refine r_aloadN 64 dX0_reachesWith_63 rfl rfl ?_
    refine r_iloadN 65 dX0_reachesWith_64 rfl rfl ?_
    refine r_iconst 66 dX0_reachesWith_65 rfl ?_
    refine r_iadd 67 dX0_reachesWith_66 rfl ?_
    refine r_cv1 70 dX0_reachesWith_67 rfl gX0_48 rfl (by decide) (sh_33 z _) rfl rfl (Nat.le_of_ble_eq_true rfl) (Nat.le_of_ble_eq_true rfl) rfl ?_
    refine x_reachesOfHum (n := n + 1) (m := m) (by show (n : Int) + 1 = _; omega) (by omega) h3 h1 (by omega) ?_
    exact r_ret dX0_reachesWith_70 rfl k
  · subst e9
    refine r_look (82) 86 dX0_reachesWith_4 (by omega) (by decide) (by rw [h3]; rfl) (by decide) ?_
    refine r_aloadN 87 dX0_reachesWith_86 rfl rfl ?_
    refine r_iloadN 88 dX0_reachesWith_87 rfl rfl ?_
    refine r_cv1 91 dX0_reachesWith_88 rfl gX0_48 rfl (by decide) (sh_33 z _) rfl rfl (Nat.le_of_ble_eq_true rfl) (Nat.le_of_ble_eq_true rfl) rfl ?_
    refine x_reachesOfHum (n := n) (m := m) h (by omega) h3 h1 (by omega) ?_
    exact r_ret dX0_reachesWith_91 rfl k
  · subst e9
    refine r_look (82) 86 dX0_reachesWith_4 (by omega) (by decide) (by rw [h3]; rfl) (by decide) ?_
    refine r_aloadN 87 dX0_reachesWith_86 rfl rfl ?_
    refine r_iloadN 88 dX0_reachesWith_87 rfl rfl ?_
    refine r_cv1 91 dX0_reachesWith_88 rfl gX0_48 rfl (by decide) (sh_33 z _) rfl rfl (Nat.le_of_ble_eq_true rfl) (Nat.le_of_ble_eq_true rfl) rfl ?_
    refine x_reachesOfHum (n := n) (m := m) h (by omega) h3 h1 (by omega) ?_
    exact r_ret dX0_reachesWith_91 rfl k
  · subst e9
    refine r_look (82) 86 dX0_reachesWith_4 (by omega) (by decide) (by rw [h3]; rfl) (by decide) ?_
    refine r_aloadN 87 dX0_reachesWith_86 rfl rfl ?_
    refine r_iloadN 88 dX0_reachesWith_87 rfl rfl ?_
    refine r_cv1 91 dX0_reachesWith_88 rfl gX0_48 rfl (by decide) (sh_33 z _) rfl rfl (Nat.le_of_ble_eq_true rfl) (Nat.le_of_ble_eq_true rfl) rfl ?_
    refine x_reachesOfHum (n := n) (m := m) h (by omega) h3 h1 (by omega) ?_
    exact r_ret dX0_reachesWith_91 rfl k
  · subst e9
    refine r_look (67) 71 dX0_reachesWith_4 (by omega) (by decide) (by rw [h3]; rfl) (by decide) ?_
    refine r_aloadN 72 dX0_reachesWith_71 rfl rfl ?_
    refine r_bipush 74 dX0_reachesWith_72 rfl (by decide) ?_
    refine r_cv1 77 dX0_reachesWith_74 rfl gX0_44 rfl (by decide) (sh_33 z _) rfl rfl (Nat.le_of_ble_eq_true rfl) (Nat.le_of_ble_eq_true rfl) rfl ?_
    refine x_abegin (n := n) h (by omega) ?_
    refine r_aloadN 78 dX0_reachesWith_77 rfl rfl ?_
    refine r_iloadN 79 dX0_reachesWith_78 rfl rfl ?_
    refine r_cv1 82 dX0_reachesWith_79 rfl gX0_48 rfl (by decide) (sh_33 z _) rfl rfl (Nat.le_of_ble_eq_true rfl) (Nat.le_of_ble_eq_true rfl) rfl ?_
    refine x_reachesOfHum (n := n + 1) (m := m) (by show (n : Int) + 1 = _; omega) (by omega) h3 h1 (by omega) ?_
    refine r_bipush 84 dX0_reachesWith_82 rfl (by decide) ?_
    refine r_iadd 85 dX0_reachesWith_84 rfl ?_
    exact r_ret dX0_reachesWith_85 rfl k
theorem x_hearsOfHum {z : xZ} {d : Nat} {Q : tQ} {c : tC} {L : tL} {n : Nat} {kd m t x : Int} (h : c 33 0 4 = (n : Int)) (hn : n + 10 ≤ 20) (h3 : c 33 0 3 = kd) (h1 : c 33 0 1 = m) (h2 : c 33 0 2 = t) (hk : 1 ≤ kd ∧ kd ≤ 7) (k : Q (some (.int (iI (hV0 kd m t x)))) (xBs c n (hL0 kd)) L) : En z (d + 5) MX0_hearsOfHum Q 0 [some (.ref (xad z 33 0)), some (.int (iI x)), none] [] c L := by
  have hl1 := sL_len kd
  have hl2 := rL_len kd
  refine r_aloadN 1 dX0_hearsOfHum_0 rfl rfl ?_
  refine r_bipush 3 dX0_hearsOfHum_1 rfl (by decide) ?_
  refine r_cv1 6 dX0_hearsOfHum_3 rfl gX0_44 rfl (by decide) (sh_33 z _) rfl rfl (Nat.le_of_ble_eq_true rfl) (Nat.le_of_ble_eq_true rfl) rfl ?_
  refine x_abegin (n := n) h (by omega) ?_
  refine r_aloadN 7 dX0_hearsOfHum_6 rfl rfl ?_
  refine r_iloadN 8 dX0_hearsOfHum_7 rfl rfl ?_
  refine r_cv1 11 dX0_hearsOfHum_8 rfl gX0_38 rfl (by decide) (sh_33 z _) rfl rfl (Nat.le_of_ble_eq_true rfl) (Nat.le_of_ble_eq_true rfl) rfl ?_
  refine x_reachesWith (n := n + 1) (kd := kd) (m := m) (t := t) (by show (n : Int) + 1 = _; omega) (by omega) h3 h1 h2 hk ?_
  refine r_istore2 12 dX0_hearsOfHum_11 rfl rfl (by decide) ?_
  refine r_iloadN 13 dX0_hearsOfHum_12 rfl rfl ?_
  refine r_aloadN 14 dX0_hearsOfHum_13 rfl rfl ?_
  refine r_iloadN 15 dX0_hearsOfHum_14 rfl rfl ?_
  refine r_aloadN 16 dX0_hearsOfHum_15 rfl rfl ?_
  refine r_geti 19 dX0_hearsOfHum_16 rfl fX0_19 (by decide) (sh_33 z _) rfl ?_
  rw [xBs_at (by decide)]
  (try simp only [cu_ap, Nat.reduceEqDiff, false_and, and_false, if_false, reduceIte])
  rw [h2]
  refine r_isub 20 dX0_hearsOfHum_19 rfl ?_
  refine r_cv1 23 dX0_hearsOfHum_20 rfl gX0_34 rfl (by decide) (sh_33 z _) rfl rfl (Nat.le_of_ble_eq_true rfl) (Nat.le_of_ble_eq_true rfl) rfl ?_
  refine x_soundsWith (n := n + 1 + (rL kd).length) (kd := kd) (m := m) (tB_n (by decide) _ _ _ (by show (n : Int) + 1 = _; omega)) (by omega) ((tB_at (by decide) (by decide) _ _ _).trans h3) ((tB_at (by decide) (by decide) _ _ _).trans h1) hk ?_
  refine r_ixor 24 dX0_hearsOfHum_23 rfl ?_
  refine r_ret dX0_hearsOfHum_24 rfl ?_
  unfold hL0 at k
  have k2 := k
  rw [show xBs c n (12 :: (rL kd ++ sL kd)) = tB 34 0 33 4 (cu (cu c 34 0 n 12) 33 0 4 ((n : Int) + 1)) (n + 1) (rL kd ++ sL kd) from rfl, tB_app] at k2
  exact k2
theorem x_hearsWith {z : xZ} {d : Nat} {Q : tQ} {c : tC} {L : tL} {n : Nat} {kd m t x : Int} (h : c 33 0 4 = (n : Int)) (hn : n + 11 ≤ 20) (h3 : c 33 0 3 = kd) (h1 : c 33 0 1 = m) (h2 : c 33 0 2 = t) (hk : 1 ≤ kd ∧ kd ≤ 7) (k : Q (some (.int (iI (hV kd m t x)))) (xBs c n (hL kd)) L) : En z (d + 6) MX0_hearsWith Q 0 [some (.ref (xad z 33 0)), some (.int (iI x))] [] c L := by
  refine r_aloadN 1 dX0_hearsWith_0 rfl rfl ?_
  refine r_geti 4 dX0_hearsWith_1 rfl fX0_22 (by decide) (sh_33 z _) rfl ?_
  rcases (show kd = 1 ∨ kd = 2 ∨ kd = 3 ∨ kd = 4 ∨ kd = 5 ∨ kd = 6 ∨ kd = 7 by omega) with e9 | e9 | e9 | e9 | e9 | e9 | e9
  · subst e9
    refine r_tout 80 dX0_hearsWith_4 (by omega) (by omega) (by decide) ?_
    refine r_aloadN 81 dX0_hearsWith_80 rfl rfl ?_
    refine r_iloadN 82 dX0_hearsWith_81 rfl rfl ?_
    refine r_cv1 85 dX0_hearsWith_82 rfl gX0_51 rfl (by decide) (sh_33 z _) rfl rfl (Nat.le_of_ble_eq_true rfl) (Nat.le_of_ble_eq_true rfl) rfl ?_
    refine x_hearsOfHum (n := n) (m := m) (t := t) h (by omega) h3 h1 h2 (by omega) ?_
    exact r_ret dX0_hearsWith_85 rfl k
  · subst e9
    refine r_tout 80 dX0_hearsWith_4 (by omega) (by omega) (by decide) ?_
    refine r_aloadN 81 dX0_hearsWith_80 rfl rfl ?_
    refine r_iloadN 82 dX0_hearsWith_81 rfl rfl ?_
    refine r_cv1 85 dX0_hearsWith_82 rfl gX0_51 rfl (by decide) (sh_33 z _) rfl rfl (Nat.le_of_ble_eq_true rfl) (Nat.le_of_ble_eq_true rfl) rfl ?_
    refine x_hearsOfHum (n := n) (m := m) (t := t) h (by omega) h3 h1 h2 (by omega) ?_
    exact r_ret dX0_hearsWith_85 rfl k
  · subst e9
    refine r_tin (32) 36 dX0_hearsWith_4 (by omega) (by omega) (by omega) (by rw [h3]; rfl) (by decide) ?_
    refine r_aloadN 37 dX0_hearsWith_36 rfl rfl ?_
    refine r_bipush 39 dX0_hearsWith_37 rfl (by decide) ?_
    refine r_cv1 42 dX0_hearsWith_39 rfl gX0_44 rfl (by decide) (sh_33 z _) rfl rfl (Nat.le_of_ble_eq_true rfl) (Nat.le_of_ble_eq_true rfl) rfl ?_
    refine x_abegin (n := n) h (by omega) ?_
    refine r_aloadN 43 dX0_hearsWith_42 rfl rfl ?_
    refine r_iloadN 44 dX0_hearsWith_43 rfl rfl ?_
    refine r_cv1 47 dX0_hearsWith_44 rfl gX0_51 rfl (by decide) (sh_33 z _) rfl rfl (Nat.le_of_ble_eq_true rfl) (Nat.le_of_ble_eq_true rfl) rfl ?_
    refine x_hearsOfHum (n := n + 1) (m := m) (t := t) (by show (n : Int) + 1 = _; omega) (by omega) h3 h1 h2 (by omega) ?_
    refine r_ineg 48 dX0_hearsWith_47 rfl ?_
    exact r_ret dX0_hearsWith_48 rfl k
  · subst e9
    refine r_tin (45) 49 dX0_hearsWith_4 (by omega) (by omega) (by omega) (by rw [h3]; rfl) (by decide) ?_
    refine r_aloadN 50 dX0_hearsWith_49 rfl rfl ?_
    refine r_bipush 52 dX0_hearsWith_50 rfl (by decide) ?_
    refine r_cv1 55 dX0_hearsWith_52 rfl gX0_44 rfl (by decide) (sh_33 z _) rfl rfl (Nat.le_of_ble_eq_true rfl) (Nat.le_of_ble_eq_true rfl) rfl ?_
    refine x_abegin (n := n) h (by omega) ?_
    refine r_aloadN 56 dX0_hearsWith_55 rfl rfl ?_
    refine r_iloadN 57 dX0_hearsWith_56 rfl rfl ?_
    refine r_cv1 60 dX0_hearsWith_57 rfl gX0_51 rfl (by decide) (sh_33 z _) rfl rfl (Nat.le_of_ble_eq_true rfl) (Nat.le_of_ble_eq_true rfl) rfl ?_
    refine x_hearsOfHum (n := n + 1) (m := m) (t := t) (by show (n : Int) + 1 = _; omega) (by omega) h3 h1 h2 (by omega) ?_
    refine r_aloadN 61 dX0_hearsWith_60 rfl rfl ?_
    refine r_geti 64 dX0_hearsWith_61 rfl fX0_15 (by decide) (sh_33 z _) rfl ?_
    rw [xBs_at (by decide)]
    (try simp only [cu_ap, Nat.reduceEqDiff, false_and, and_false, if_false, reduceIte])
    rw [h1]
    refine r_isub 65 dX0_hearsWith_64 rfl ?_
    exact r_ret dX0_hearsWith_65 rfl k
  · subst e9
    refine r_tin (76) 80 dX0_hearsWith_4 (by omega) (by omega) (by omega) (by rw [h3]; rfl) (by decide) ?_
    refine r_aloadN 81 dX0_hearsWith_80 rfl rfl ?_
    refine r_iloadN 82 dX0_hearsWith_81 rfl rfl ?_
    refine r_cv1 85 dX0_hearsWith_82 rfl gX0_51 rfl (by decide) (sh_33 z _) rfl rfl (Nat.le_of_ble_eq_true rfl) (Nat.le_of_ble_eq_true rfl) rfl ?_
    refine x_hearsOfHum (n := n) (m := m) (t := t) h (by omega) h3 h1 h2 (by omega) ?_
    exact r_ret dX0_hearsWith_85 rfl k
  · subst e9
    refine r_tin (62) 66 dX0_hearsWith_4 (by omega) (by omega) (by omega) (by rw [h3]; rfl) (by decide) ?_
    refine r_aloadN 67 dX0_hearsWith_66 rfl rfl ?_
    refine r_bipush 69 dX0_hearsWith_67 rfl (by decide) ?_
    refine r_cv1 72 dX0_hearsWith_69 rfl gX0_44 rfl (by decide) (sh_33 z _) rfl rfl (Nat.le_of_ble_eq_true rfl) (Nat.le_of_ble_eq_true rfl) rfl ?_
    refine x_abegin (n := n) h (by omega) ?_
    refine r_aloadN 73 dX0_hearsWith_72 rfl rfl ?_
    refine r_iloadN 74 dX0_hearsWith_73 rfl rfl ?_
    refine r_cv1 77 dX0_hearsWith_74 rfl gX0_51 rfl (by decide) (sh_33 z _) rfl rfl (Nat.le_of_ble_eq_true rfl) (Nat.le_of_ble_eq_true rfl) rfl ?_
    refine x_hearsOfHum (n := n + 1) (m := m) (t := t) (by show (n : Int) + 1 = _; omega) (by omega) h3 h1 h2 (by omega) ?_
    refine r_iconst 78 dX0_hearsWith_77 rfl ?_
    refine r_imul 79 dX0_hearsWith_78 rfl ?_
    exact r_ret dX0_hearsWith_79 rfl k
  · subst e9
    refine r_tout 80 dX0_hearsWith_4 (by omega) (by omega) (by decide) ?_
    refine r_aloadN 81 dX0_hearsWith_80 rfl rfl ?_
    refine r_iloadN 82 dX0_hearsWith_81 rfl rfl ?_
    refine r_cv1 85 dX0_hearsWith_82 rfl gX0_51 rfl (by decide) (sh_33 z _) rfl rfl (Nat.le_of_ble_eq_true rfl) (Nat.le_of_ble_eq_true rfl) rfl ?_
    refine x_hearsOfHum (n := n) (m := m) (t := t) h (by omega) h3 h1 h2 (by omega) ?_
    exact r_ret dX0_hearsWith_85 rfl k
def aV (a kd m t x : Int) : Int := if a = 0 then sV kd m x else if a = 1 then rV kd m t x else if a = 2 then hV kd m t x else 0
def aL (a kd : Int) : List Int := if a = 0 then sL kd else if a = 1 then rL kd else if a = 2 then hL kd else []
theorem aL_len (a kd : Int) : (aL a kd).length ≤ 10 := by
  have h1 := sL_len kd
  have h2 := rL_len kd
  have h3 := hL_len kd
  unfold aL
  split
  · omega
  · split
    · omega
    · split
      · omega
      · exact Nat.zero_le _
def gActV (S : sS) (A : sA) (s a x : Int) : Int := if isSo S s then aV a (A 19 s.toNat) s (A 21 s.toNat) x else 0
def gActL (S : sS) (A : sA) (s a : Int) : List Int := if isSo S s then aL a (A 19 s.toNat) else []
theorem gActL_len (S : sS) (A : sA) (s a : Int) : (gActL S A s a).length ≤ 10 := by
  unfold gActL
  split
  · exact aL_len _ _
  · exact Nat.zero_le _
theorem x_arun {z : xZ} {d : Nat} {Q : tQ} {c : tC} {L : tL} {s0 : Nat} {m a x : Int} (hR : RX c) (hs : (s0 : Int) < c 50 0 2) (h : c 33 0 4 = 0) (ha : inR a) (k : Q (some (.int (iI (aV a (c 51 19 s0) m (c 51 21 s0) x)))) (xBs (cu (cu (cu c 33 0 1 m) 33 0 2 (c 51 21 s0)) 33 0 3 (c 51 19 s0)) 0 (aL a (c 51 19 s0))) L) : En z (d + 8) MX0_run Q 0 [some (.ref (xad z 33 0)), some (.int (iI m)), some (.ref (xad z 13 s0)), some (.int (iI a)), some (.int (iI x))] [] c L := by
  have hg := R0_rng hR
  have hc := R0_scal hR
  have hq := R0_src hR s0 hs
  have ha1 := ha.1
  have ha2 := ha.2
  refine r_aloadN 1 dX0_run_0 rfl rfl ?_
  refine r_iloadN 2 dX0_run_1 rfl rfl ?_
  refine r_puti 5 dX0_run_2 rfl pX0_15 (by decide) (sh_33 z _) rfl ?_
  refine r_aloadN 6 dX0_run_5 rfl rfl ?_
  refine r_aloadN 7 dX0_run_6 rfl rfl ?_
  refine r_geti 10 dX0_run_7 rfl fX0_28 (ct_13 (by omega)) (sh_13 z _) rfl ?_
  (try simp only [cu_ap, Nat.reduceEqDiff, false_and, and_false, if_false, reduceIte])
  rw [hq.1.2.2.1]
  refine r_puti 13 dX0_run_10 rfl pX0_19 (by decide) (sh_33 z _) rfl ?_
  refine r_aloadN 14 dX0_run_13 rfl rfl ?_
  refine r_aloadN 15 dX0_run_14 rfl rfl ?_
  refine r_geti 18 dX0_run_15 rfl fX0_33 (ct_13 (by omega)) (sh_13 z _) rfl ?_
  (try simp only [cu_ap, Nat.reduceEqDiff, false_and, and_false, if_false, reduceIte])
  rw [hq.1.1]
  refine r_puti 21 dX0_run_18 rfl pX0_22 (by decide) (sh_33 z _) rfl ?_
  refine r_iloadN 22 dX0_run_21 rfl rfl ?_
  rcases (show a = 0 ∨ a = 1 ∨ a = 2 ∨ ¬ (0 ≤ a ∧ a ≤ 2) by omega) with e9 | e9 | e9 | e9
  · refine r_tin (26) 48 dX0_run_22 (by omega) (by omega) (by omega) (by rw [e9]; rfl) (by decide) ?_
    refine r_aloadN 49 dX0_run_48 rfl rfl ?_
    refine r_iload 51 dX0_run_49 rfl rfl ?_
    refine r_cv1 54 dX0_run_51 rfl gX0_34 rfl (by decide) (sh_33 z _) rfl rfl (Nat.le_of_ble_eq_true rfl) (Nat.le_of_ble_eq_true rfl) rfl ?_
    refine x_soundsWith (n := 0) (kd := c 51 19 s0) (m := m) h (by omega) rfl rfl hq.2.1 ?_
    have hv9 : aV a (c 51 19 s0) m (c 51 21 s0) x = sV (c 51 19 s0) m x := by unfold aV; rw [if_pos e9]
    have hl9 : aL a (c 51 19 s0) = sL (c 51 19 s0) := by unfold aL; rw [if_pos e9]
    rw [hv9, hl9] at k
    exact r_ret dX0_run_54 rfl k
  · refine r_tin (33) 55 dX0_run_22 (by omega) (by omega) (by omega) (by rw [e9]; rfl) (by decide) ?_
    refine r_aloadN 56 dX0_run_55 rfl rfl ?_
    refine r_iload 58 dX0_run_56 rfl rfl ?_
    refine r_cv1 61 dX0_run_58 rfl gX0_38 rfl (by decide) (sh_33 z _) rfl rfl (Nat.le_of_ble_eq_true rfl) (Nat.le_of_ble_eq_true rfl) rfl ?_
    refine x_reachesWith (n := 0) (kd := c 51 19 s0) (m := m) (t := c 51 21 s0) h (by omega) rfl rfl rfl hq.2.1 ?_
    have hv9 : aV a (c 51 19 s0) m (c 51 21 s0) x = rV (c 51 19 s0) m (c 51 21 s0) x := by unfold aV; rw [if_neg (by omega), if_pos e9]
    have hl9 : aL a (c 51 19 s0) = rL (c 51 19 s0) := by unfold aL; rw [if_neg (by omega), if_pos e9]
    rw [hv9, hl9] at k
    exact r_ret dX0_run_61 rfl k
  · refine r_tin (40) 62 dX0_run_22 (by omega) (by omega) (by omega) (by rw [e9]; rfl) (by decide) ?_
    refine r_aloadN 63 dX0_run_62 rfl rfl ?_
    refine r_iload 65 dX0_run_63 rfl rfl ?_
    refine r_cv1 68 dX0_run_65 rfl gX0_41 rfl (by decide) (sh_33 z _) rfl rfl (Nat.le_of_ble_eq_true rfl) (Nat.le_of_ble_eq_true rfl) rfl ?_
    refine x_hearsWith (n := 0) (kd := c 51 19 s0) (m := m) (t := c 51 21 s0) h (by omega) rfl rfl rfl hq.2.1 ?_
    have hv9 : aV a (c 51 19 s0) m (c 51 21 s0) x = hV (c 51 19 s0) m (c 51 21 s0) x := by unfold aV; rw [if_neg (by omega), if_neg (by omega), if_pos e9]
    have hl9 : aL a (c 51 19 s0) = hL (c 51 19 s0) := by unfold aL; rw [if_neg (by omega), if_neg (by omega), if_pos e9]
    rw [hv9, hl9] at k
    exact r_ret dX0_run_68 rfl k
  · refine r_tout 69 dX0_run_22 (by omega) (by omega) (by decide) ?_
    refine r_iconst 70 dX0_run_69 rfl ?_
    have hv9 : aV a (c 51 19 s0) m (c 51 21 s0) x = 0 := by unfold aV; rw [if_neg (by omega), if_neg (by omega), if_neg (by omega)]
    have hl9 : aL a (c 51 19 s0) = [] := by unfold aL; rw [if_neg (by omega), if_neg (by omega), if_neg (by omega)]
    rw [hv9, hl9] at k
    exact r_ret dX0_run_70 rfl k
theorem x_forget {z : xZ} {d : Nat} {Q : tQ} {c : tC} {L : tL}   (k : Q none (cu c 33 0 4 0) L) : En z (d + 1) MX0_forget Q 0 [some (.ref (xad z 33 0))] [] c L := by
  refine r_aloadN 1 dX0_forget_0 rfl rfl ?_
  refine r_iconst 2 dX0_forget_1 rfl ?_
  refine r_puti 5 dX0_forget_2 rfl pX0_25 (by decide) (sh_33 z _) rfl ?_
  exact r_vret dX0_forget_5 rfl k
theorem RX_33 {c : tC} {i j : Nat} {v : Int} (h : RX c) : RX (cu c 33 i j v) := RT_fr (c := c) (t := 0) ⟨⟨rfl, rfl, rfl, rfl, rfl, rfl⟩, ⟨rfl, rfl, rfl, rfl⟩, ⟨rfl, rfl, rfl⟩, fun _ => rfl, fun _ => rfl, fun _ => ⟨rfl, rfl, rfl, rfl, rfl, rfl⟩⟩ h
theorem x_act {z : xZ} {d : Nat} {Q : tQ} {c : tC} {L : tL} {s a x : Int} (hR : RX c) (hs : inR s) (ha : inR a) (hx : inR x) (k : ∀ c2 : tC, (∀ g, g ≠ 33 → g ≠ 34 → c2 g = c g) → c2 33 0 4 = (((gActL (c 50 0) (c 51) s a).length : Nat) : Int) → (∀ j, j < (gActL (c 50 0) (c 51) s a).length → c2 34 0 j = (gActL (c 50 0) (c 51) s a).getD j 0) → Q (some (.int (iI (gActV (c 50 0) (c 51) s a x)))) c2 L) : En z (d + 20) MX10_act Q 0 [some (.ref (xad z 0 0)), some (.int (iI s)), some (.int (iI a)), some (.int (iI x))] [] c L := by
  have hs1 := hs.1
  have hs2 := hs.2
  have hg := R0_rng hR
  have hc := R0_scal hR
  refine r_aloadN 1 dX10_act_0 rfl rfl ?_
  refine r_getq 4 dX10_act_1 rfl fX10_43 (by decide) (sh_0 z _) rfl ?_
  refine r_cv0 7 dX10_act_4 rfl gX10_351 rfl (by decide) (sh_33 z _) rfl rfl (Nat.le_of_ble_eq_true rfl) (Nat.le_of_ble_eq_true rfl) rfl ?_
  refine x_forget ?_
  refine r_aloadN 8 dX10_act_7 rfl rfl ?_
  refine r_getq 11 dX10_act_8 rfl fX10_26 (by decide) (sh_0 z _) rfl ?_
  refine r_iloadN 12 dX10_act_11 rfl rfl ?_
  refine r_cv1 15 dX10_act_12 rfl gX10_101 rfl (by decide) (sh_8 z _) rfl rfl (Nat.le_of_ble_eq_true rfl) (Nat.le_of_ble_eq_true rfl) rfl ?_
  refine x_isSource (RX_33 hR) (by assumption) (fun y12 => ?_) (fun y12 => ?_)
  · refine r_ifneT 20 0 dX10_act_15 (by decide) (by decide) (by decide) ?_
    have y12b : 0 ≤ s ∧ s < c 50 0 2 := y12
    obtain ⟨s0, hs00⟩ := Int.eq_ofNat_of_zero_le (show 0 ≤ s by omega)
    subst hs00
    refine r_aloadN 21 dX10_act_20 rfl rfl ?_
    refine r_getq 24 dX10_act_21 rfl fX10_43 (by decide) (sh_0 z _) rfl ?_
    refine r_iloadN 25 dX10_act_24 rfl rfl ?_
    refine r_aloadN 26 dX10_act_25 rfl rfl ?_
    refine r_getq 29 dX10_act_26 rfl fX10_26 (by decide) (sh_0 z _) rfl ?_
    refine r_getq 32 dX10_act_29 rfl fX10_118 (by decide) (sh_8 z _) rfl ?_
    refine r_iloadN 33 dX10_act_32 rfl rfl ?_
    refine r_aald 34 dX10_act_33 (s0) rfl rfl (by decide) (sh_10a z) rfl (by decide) (by omega) (by omega) ?_
    refine r_iloadN 35 dX10_act_34 rfl rfl ?_
    refine r_iloadN 36 dX10_act_35 rfl rfl ?_
    refine r_cv4 39 dX10_act_36 rfl gX10_354 rfl (by decide) (sh_33 z _) rfl rfl (Nat.le_of_ble_eq_true rfl) (Nat.le_of_ble_eq_true rfl) rfl ?_
    refine x_arun (s0 := s0) (m := (s0 : Int)) (RX_33 hR) (by show (s0 : Int) < c 50 0 2; exact y12.2) rfl ha ?_
    have y13 : 0 ≤ (s0 : Int) ∧ (s0 : Int) < c 50 0 2 := y12
    have e1 : gActL (c 50 0) (c 51) (s0 : Int) a = aL a (c 51 19 s0) := by unfold gActL; rw [if_pos y13, Int.toNat_natCast]
    have e2 : gActV (c 50 0) (c 51) (s0 : Int) a x = aV a (c 51 19 s0) (s0 : Int) (c 51 21 s0) x := by unfold gActV; rw [if_pos y13, Int.toNat_natCast]
    rw [e2] at k
    refine r_ret dX10_act_39 rfl (k _ (fun g h1 h2 => ?_) ?_ (fun j hj => ?_))
    · funext i j
      refine (tB_at (fun q => h2 q.1) (fun q => h1 q.1) _ _ _).trans ?_
      rw [cu, if_neg (fun q => h1 q.1), cu, if_neg (fun q => h1 q.1), cu, if_neg (fun q => h1 q.1), cu, if_neg (fun q => h1 q.1)]
    · rw [e1]
      refine (tB_n (by decide) _ _ 0 rfl).trans ?_
      rw [Nat.zero_add]
      rfl
    · rw [e1] at hj ⊢
      exact (tB_row (by decide) _ _ 0 j).2 (Nat.zero_le _) (by rw [Nat.zero_add]; exact hj)
  · refine r_ifneF 18 dX10_act_15 rfl 20 (by decide) (by decide) (by decide) ?_
    refine r_iconst 19 dX10_act_18 rfl ?_
    have y13 : ¬ (0 ≤ s ∧ s < c 50 0 2) := y12
    have e1 : gActL (c 50 0) (c 51) s a = [] := by unfold gActL; rw [if_neg y13]
    have e2 : gActV (c 50 0) (c 51) s a x = 0 := by unfold gActV; rw [if_neg y13]
    rw [e2] at k
    refine r_ret dX10_act_19 rfl (k _ (fun g h1 h2 => ?_) (by rw [e1]; rfl) (fun j hj => absurd hj (by rw [e1]; exact Nat.not_lt_zero _)))
    funext i j
    rw [cu, if_neg (fun q => h1 q.1)]
