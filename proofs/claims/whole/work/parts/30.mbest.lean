theorem fTalk_A {A A2 : sA} (hA : sfA A A2) : fTalk A2 = fTalk A := by
  funext s
  unfold fTalk
  rw [hA 19 (by decide) (by decide)]
theorem fPr_A {A A2 : sA} (hA : sfA A A2) : fPr A2 = fPr A := by
  funext X n
  induction n with
  | zero => rfl
  | succ n ih => rw [fPr, fPr, ih, hA 25 (by decide) (by decide)]
theorem m_bi_loop {z : xZ} {d : Nat} {Q : tQ} {c : tC} {L : tL} {n X : Nat} {bu a b is mo co : Int} (hR : RX c) (hn : c 50 0 2 = (n : Int)) (hX : X < 2 ^ n) (kk : ∀ sm mv v10, (-2147483648 ≤ sm ∧ sm < 2147483648) → ((mv = 1 ∧ sm = fPr (c 51) X n ∧ ∀ s, X.testBit s = true → fTalk (c 51) s = false) ∨ (mv = 0 ∧ ∃ s, X.testBit s = true ∧ fTalk (c 51) s = true)) → En z (d + 4) MX11_best Q 126 [some (.ref (xad z 50 0)), some (.int (iI bu)), some (.int (iI a)), some (.int (iI b)), some (.int (iI is)), some (.int (iI mo)), some (.int (iI co)), some (.int (iI (X : Int))), some (.int (iI sm)), some (.int (iI mv)), v10] [] c L) : ∀ (k i : Nat) (sm mv : Int), i + k = n → sm = fPr (c 51) X i → ((mv = 1 ∧ ∀ s, s < i → X.testBit s = true → fTalk (c 51) s = false) ∨ (mv = 0 ∧ ∃ s, X.testBit s = true ∧ fTalk (c 51) s = true)) → En z (d + 4) MX11_best Q 65 [some (.ref (xad z 50 0)), some (.int (iI bu)), some (.int (iI a)), some (.int (iI b)), some (.int (iI is)), some (.int (iI mo)), some (.int (iI co)), some (.int (iI (X : Int))), some (.int (iI sm)), some (.int (iI mv)), some (.int (iI (i : Int)))] [] c L := by
  have hg := R0_rng hR
  have hc := R0_scal hR
  have hp14 : (2 : Nat) ^ n ≤ 2 ^ 14 := Nat.pow_le_pow_right (by decide) (by omega)
  have hX31 : X < 2 ^ 31 := by omega
  have hA25 : ∀ s, s < n → 0 ≤ c 51 25 s ∧ c 51 25 s ≤ 99 := fun s hs => (R0_src hR s (by omega)).2.2.2.2.2.2.2.2.1
  intro k
  induction k with
  | zero =>
    intro i sm mv hi hs hA
    have hpb := fPr_rng hA25 X i (by omega)
    have hmv : mv = 0 ∨ mv = 1 := by rcases hA with a1 | a1 <;> omega
    refine r_iload 67 dX11_best_65 rfl rfl ?_
    refine r_aloadN 68 dX11_best_67 rfl rfl ?_
    refine r_geti 71 dX11_best_68 rfl fX11_174 (by decide) (sh_50 z _) rfl ?_
    refine r_icge 126 74 dX11_best_71 rfl (by decide) (by omega) (by omega) (fun h71 => ?_) (fun h71 => ?_)
    · refine kk _ _ _ (by omega) ?_
      rcases hA with ⟨a1, a2⟩ | a1
      · refine Or.inl ⟨a1, by rw [hs, show i = n by omega], fun s hs2 => ?_⟩
        by_cases e : s < n
        · exact a2 s (by omega) hs2
        · have := Nat.testBit_lt_two_pow (Nat.lt_of_lt_of_le hX (Nat.pow_le_pow_right (show 0 < 2 by decide) (show n ≤ s by omega)))
          rw [hs2] at this
          exact absurd this (by decide)
      · exact Or.inr a1
    · exfalso; omega
  | succ k ih =>
    intro i sm mv hi hs hA
    have hpb := fPr_rng hA25 X i (by omega)
    have hmv : mv = 0 ∨ mv = 1 := by rcases hA with a1 | a1 <;> omega
    refine r_iload 67 dX11_best_65 rfl rfl ?_
    refine r_aloadN 68 dX11_best_67 rfl rfl ?_
    refine r_geti 71 dX11_best_68 rfl fX11_174 (by decide) (sh_50 z _) rfl ?_
    refine r_icge 126 74 dX11_best_71 rfl (by decide) (by omega) (by omega) (fun h71 => ?_) (fun h71 => ?_)
    · first
        | (exfalso; omega)
        | (refine kk _ _ _ (by omega) (Or.inr ?_)
           rcases hA with ⟨a1, a2⟩ | a1
           · exfalso; omega
           · exact a1)
    · refine r_iload 76 dX11_best_74 rfl rfl ?_
      refine r_ifeq 126 79 dX11_best_76 rfl (by decide) (by omega) (fun h76 => ?_) (fun h76 => ?_)
      · first
          | (exfalso; omega)
          | (refine kk _ _ _ (by omega) (Or.inr ?_)
             rcases hA with ⟨a1, a2⟩ | a1
             · exfalso; omega
             · exact a1)
      · refine r_iload 81 dX11_best_79 rfl rfl ?_
        refine r_iload 83 dX11_best_81 rfl rfl ?_
        refine r_ishr 84 dX11_best_83 rfl ?_
        refine r_iconst 85 dX11_best_84 rfl ?_
        refine r_iand 86 dX11_best_85 rfl ?_
        rw [ibit hX31 (by omega)]
        refine r_ifne 92 89 dX11_best_86 rfl (by decide) (by split <;> omega) (fun h86 => ?_) (fun h86 => ?_)
        · refine r_aloadN 93 dX11_best_92 rfl rfl ?_
          refine r_iload 95 dX11_best_93 rfl rfl ?_
          refine r_cv1 98 dX11_best_95 rfl gX11_279 rfl (by decide) (sh_50 z _) rfl rfl (Nat.le_of_ble_eq_true rfl) (Nat.le_of_ble_eq_true rfl) rfl ?_
          refine m_isTalk hR hn (s := i) (by omega) (fun y95 => ?_) (fun y95 => ?_)
          · refine r_ifneT 105 0 dX11_best_98 (by decide) (by decide) (by decide) ?_
            refine r_iconst 106 dX11_best_105 rfl ?_
            refine r_istore9 108 dX11_best_106 rfl rfl (by decide) ?_
            have hqi := R0_src hR i (by omega)
            refine r_iload 110 dX11_best_108 rfl rfl ?_
            refine r_aloadN 111 dX11_best_110 rfl rfl ?_
            refine r_getq 114 dX11_best_111 rfl fX11_62 (by decide) (sh_50 z _) rfl ?_
            refine r_iload 116 dX11_best_114 rfl rfl ?_
            refine r_iald (n := 14) 117 dX11_best_116 (i) rfl rfl (by decide) (sh_51 z _) (by decide) (by omega) (by omega) ?_
            refine r_iadd 118 dX11_best_117 rfl ?_
            refine r_istore8 120 dX11_best_118 rfl rfl (by decide) ?_
            refine r_iinc10 123 dX11_best_120 rfl rfl (by decide) ?_
            refine r_goto 65 dX11_best_123 (by decide) ?_
            rcases hA with ⟨a1, a2⟩ | ⟨a1, a2⟩
            · cases hXi : X.testBit i with
              | false =>
                rw [hXi, if_neg (by decide)] at h86
                first
                  | (exfalso; omega)
                  | (refine ih (i + 1) _ _ (by omega) (by rw [fPr, hXi, if_neg (by decide), hs, Int.add_zero]) (Or.inl ⟨a1, fun s h1 h2 => ?_⟩)
                     by_cases e : s = i
                     · rw [e, hXi] at h2; exact absurd h2 (by decide)
                     · exact a2 s (by omega) h2)
              | true =>
                rw [hXi, if_pos rfl] at h86
                first
                  | (exfalso; omega)
                  | (refine ih (i + 1) _ _ (by omega) (by rw [fPr, hXi, if_pos rfl, hs]) (Or.inl ⟨rfl, fun s h1 h2 => ?_⟩)
                     by_cases e : s = i
                     · rw [e]; exact y95
                     · exact a2 s (by omega) h2)
                  | exact ih (i + 1) _ _ (by omega) (by rw [fPr, hXi, if_pos rfl, hs]) (Or.inr ⟨rfl, i, hXi, y95⟩)
            · exfalso; omega
          · refine r_ifneF 101 dX11_best_98 rfl 105 (by decide) (by decide) (by decide) ?_
            refine r_iconst 102 dX11_best_101 rfl ?_
            refine r_goto 106 dX11_best_102 (by decide) ?_
            refine r_istore9 108 dX11_best_106 rfl rfl (by decide) ?_
            have hqi := R0_src hR i (by omega)
            refine r_iload 110 dX11_best_108 rfl rfl ?_
            refine r_aloadN 111 dX11_best_110 rfl rfl ?_
            refine r_getq 114 dX11_best_111 rfl fX11_62 (by decide) (sh_50 z _) rfl ?_
            refine r_iload 116 dX11_best_114 rfl rfl ?_
            refine r_iald (n := 14) 117 dX11_best_116 (i) rfl rfl (by decide) (sh_51 z _) (by decide) (by omega) (by omega) ?_
            refine r_iadd 118 dX11_best_117 rfl ?_
            refine r_istore8 120 dX11_best_118 rfl rfl (by decide) ?_
            refine r_iinc10 123 dX11_best_120 rfl rfl (by decide) ?_
            refine r_goto 65 dX11_best_123 (by decide) ?_
            rcases hA with ⟨a1, a2⟩ | ⟨a1, a2⟩
            · cases hXi : X.testBit i with
              | false =>
                rw [hXi, if_neg (by decide)] at h86
                first
                  | (exfalso; omega)
                  | (refine ih (i + 1) _ _ (by omega) (by rw [fPr, hXi, if_neg (by decide), hs, Int.add_zero]) (Or.inl ⟨a1, fun s h1 h2 => ?_⟩)
                     by_cases e : s = i
                     · rw [e, hXi] at h2; exact absurd h2 (by decide)
                     · exact a2 s (by omega) h2)
              | true =>
                rw [hXi, if_pos rfl] at h86
                first
                  | (exfalso; omega)
                  | (refine ih (i + 1) _ _ (by omega) (by rw [fPr, hXi, if_pos rfl, hs]) (Or.inl ⟨rfl, fun s h1 h2 => ?_⟩)
                     by_cases e : s = i
                     · rw [e]; exact y95
                     · exact a2 s (by omega) h2)
                  | exact ih (i + 1) _ _ (by omega) (by rw [fPr, hXi, if_pos rfl, hs]) (Or.inr ⟨rfl, i, hXi, y95⟩)
            · exfalso; omega
        · refine r_goto 120 dX11_best_89 (by decide) ?_
          refine r_iinc10 123 dX11_best_120 rfl rfl (by decide) ?_
          refine r_goto 65 dX11_best_123 (by decide) ?_
          rcases hA with ⟨a1, a2⟩ | ⟨a1, a2⟩
          · cases hXi : X.testBit i with
            | false =>
              rw [hXi, if_neg (by decide)] at h86
              first
                | (exfalso; omega)
                | (refine ih (i + 1) _ _ (by omega) (by rw [fPr, hXi, if_neg (by decide), hs, Int.add_zero]) (Or.inl ⟨a1, fun s h1 h2 => ?_⟩)
                   by_cases e : s = i
                   · rw [e, hXi] at h2; exact absurd h2 (by decide)
                   · exact a2 s (by omega) h2)
            | true =>
              rw [hXi, if_pos rfl] at h86
              first
                | (exfalso; omega)
                | (refine ih (i + 1) _ _ (by omega) (by rw [fPr, hXi, if_pos rfl, hs]) (Or.inl ⟨rfl, fun s h1 h2 => ?_⟩)
                   by_cases e : s = i
                   · rw [e]; exact y95
                   · exact a2 s (by omega) h2)
                | exact ih (i + 1) _ _ (by omega) (by rw [fPr, hXi, if_pos rfl, hs]) (Or.inr ⟨rfl, i, hXi, y95⟩)
          · exfalso; omega
theorem m_bo_loop {z : xZ} {d : Nat} {Q : tQ} {c : tC} {L : tL} {n pe : Nat} {bu a b : Int} {A : sA} {G : Nat → Bool} (hR : RX c) (hn : c 50 0 2 = (n : Int)) (hpe : c 50 0 1 = (pe : Int)) (hbu : 0 ≤ bu ∧ bu ≤ 999) (hT : fTalk (c 51) = fTalk A) (hP : fPr (c 51) = fPr A) (hE : ∀ p, p < pe → c 51 64 p = ((mkN (fun s => fHear A p s (A 14 p) && G s) n : Nat) : Int)) (kk : ∀ Y : Nat, fBestP A G n pe bu Y → Q (some (.int (iI (Y : Int)))) c L) : ∀ (k i : Nat) (is mo co : Int) (v8 v9 v10 : Option Value), i + k = 2 ^ n → ((i = 0 ∧ is = 0 ∧ mo = -1 ∧ co = 0) ∨ ∃ Y : Nat, Y < i ∧ is = (Y : Int) ∧ mo = ((cntN (fRid A G Y n) pe : Nat) : Int) ∧ co = fPr A Y n ∧ (∀ s, Y.testBit s = true → fTalk A s = false) ∧ co ≤ bu ∧ ∀ U, U < i → (∀ s, U.testBit s = true → fTalk A s = false) → fPr A U n ≤ bu → fKT A G n pe U ≤ fKT A G n pe Y) → En z (d + 5) MX11_best Q 45 [some (.ref (xad z 50 0)), some (.int (iI bu)), some (.int (iI a)), some (.int (iI b)), some (.int (iI is)), some (.int (iI mo)), some (.int (iI co)), some (.int (iI (i : Int))), v8, v9, v10] [] c L := by
  have hg := R0_rng hR
  have hc := R0_scal hR
  have hp14 : (2 : Nat) ^ n ≤ 2 ^ 14 := Nat.pow_le_pow_right (by decide) (by omega)
  have hA25 : ∀ s, s < n → 0 ≤ c 51 25 s ∧ c 51 25 s ≤ 99 := fun s hs => (R0_src hR s (by omega)).2.2.2.2.2.2.2.2.1
  intro k
  induction k with
  | zero =>
    intro i is mo co v8 v9 v10 hi hA
    refine r_iload 47 dX11_best_45 rfl rfl ?_
    refine r_iconst 48 dX11_best_47 rfl ?_
    refine r_aloadN 49 dX11_best_48 rfl rfl ?_
    refine r_geti 52 dX11_best_49 rfl fX11_174 (by decide) (sh_50 z _) rfl ?_
    refine r_ishl 53 dX11_best_52 rfl ?_
    rw [hn, ishl_one n (by omega)]
    refine r_icge 187 56 dX11_best_53 rfl (by decide) (by omega) (p2_in (by omega)) (fun h53 => ?_) (fun h53 => ?_)
    · refine r_iload 189 dX11_best_187 rfl rfl ?_
      rcases hA with ⟨b1, b2, b3, b4⟩ | ⟨Y, b1, b2, b3, b4, b5, b6, b7⟩
      · exfalso; have := Nat.pow_pos (n := n) (show 0 < 2 by decide); omega
      · rw [b2]
        refine r_ret dX11_best_189 rfl (kk Y ⟨by omega, b5, by omega, fun U hU hUa hUb => b7 U (by omega) hUa hUb⟩)
    · exfalso; omega
  | succ k ih =>
    intro i is mo co v8 v9 v10 hi hA
    have hbn : -1 ≤ mo ∧ mo ≤ 12 ∧ 0 ≤ co ∧ co ≤ 999 := by
      rcases hA with ⟨b1, b2, b3, b4⟩ | ⟨Y, b1, b2, b3, b4, b5, b6, b7⟩
      · omega
      · have h1 := cntN_le (fRid A G Y n) pe
        have hpy := fPr_rng hA25 Y n (Nat.le_refl _)
        rw [hP, ← b4] at hpy
        omega
    refine r_iload 47 dX11_best_45 rfl rfl ?_
    refine r_iconst 48 dX11_best_47 rfl ?_
    refine r_aloadN 49 dX11_best_48 rfl rfl ?_
    refine r_geti 52 dX11_best_49 rfl fX11_174 (by decide) (sh_50 z _) rfl ?_
    refine r_ishl 53 dX11_best_52 rfl ?_
    rw [hn, ishl_one n (by omega)]
    refine r_icge 187 56 dX11_best_53 rfl (by decide) (by omega) (p2_in (by omega)) (fun h53 => ?_) (fun h53 => ?_)
    · exfalso; omega
    · refine r_iconst 57 dX11_best_56 rfl ?_
      refine r_istore8 59 dX11_best_57 rfl rfl (by decide) ?_
      refine r_iconst 60 dX11_best_59 rfl ?_
      refine r_istore9 62 dX11_best_60 rfl rfl (by decide) ?_
      refine r_iconst 63 dX11_best_62 rfl ?_
      refine r_istore10 65 dX11_best_63 rfl rfl (by decide) ?_
      refine m_bi_loop hR hn (X := i) (by omega) (fun sm mv v10 hsr hSM => ?_) n 0 _ _ (by omega) rfl (Or.inl ⟨rfl, fun s hs => by omega⟩)
      rw [hT, hP] at hSM
      have hmv : mv = 0 ∨ mv = 1 := by rcases hSM with a1 | a1 <;> omega
      refine r_iload 128 dX11_best_126 rfl rfl ?_
      refine r_ifeq 181 131 dX11_best_128 rfl (by decide) (by omega) (fun h128 => ?_) (fun h128 => ?_)
      · refine r_iinc7 184 dX11_best_181 rfl rfl (by decide) ?_
        refine r_goto 45 dX11_best_184 (by decide) ?_
        rcases hSM with ⟨a1, a2, a3⟩ | ⟨a1, s0, a2, a3⟩
        · have hpi := fPr_rng hA25 i n (Nat.le_refl _)
          rw [hP] at hpi
          rcases hA with ⟨b1, b2, b3, b4⟩ | ⟨Y, b1, b2, b3, b4, b5, b6, b7⟩
          · first
              | (exfalso; omega)
              | (refine ih (i + 1) _ _ _ _ _ _ (by omega) (Or.inr ⟨i, by omega, rfl, by rw [e143], a2, a3, by omega, fun U hU hUa hUb => ?_⟩)
                 rw [show U = i by omega]
                 exact Int.le_refl _)
              | (exfalso
                 rw [b1] at a2
                 rw [fPr_nil A n] at a2
                 omega)
          · have hpy := fPr_rng hA25 Y n (Nat.le_refl _)
            rw [hP, ← b4] at hpy
            have hk1 : fKT A G n pe Y = mo * 1000000000 - co * 100000 - Y := by unfold fKT; rw [b3, b4]
            first
              | (have hk2 : fKT A G n pe i = (r143 : Int) * 1000000000 - sm * 100000 - i := by unfold fKT; rw [e143, a2]
                 first
                   | (refine ih (i + 1) _ _ _ _ _ _ (by omega) (Or.inr ⟨i, by omega, rfl, by rw [e143], a2, a3, by omega, fun U hU hUa hUb => ?_⟩)
                      by_cases e : U = i
                      · rw [e]; exact Int.le_refl _
                      · have := b7 U (by omega) hUa hUb
                        omega)
                   | (refine ih (i + 1) _ _ _ _ _ _ (by omega) (Or.inr ⟨Y, by omega, b2, b3, b4, b5, b6, fun U hU hUa hUb => ?_⟩)
                      by_cases e : U = i
                      · rw [e]; omega
                      · exact b7 U (by omega) hUa hUb))
              | (exfalso; omega)
              | (refine ih (i + 1) _ _ _ _ _ _ (by omega) (Or.inr ⟨Y, by omega, b2, b3, b4, b5, b6, fun U hU hUa hUb => ?_⟩)
                 by_cases e : U = i
                 · rw [e] at hUb; exfalso; omega
                 · exact b7 U (by omega) hUa hUb)
        · first
            | (exfalso; omega)
            | (rcases hA with ⟨b1, b2, b3, b4⟩ | ⟨Y, b1, b2, b3, b4, b5, b6, b7⟩
               · exfalso
                 rw [b1, Nat.zero_testBit] at a2
                 exact absurd a2 (by decide)
               · refine ih (i + 1) _ _ _ _ _ _ (by omega) (Or.inr ⟨Y, by omega, b2, b3, b4, b5, b6, fun U hU hUa hUb => ?_⟩)
                 by_cases e : U = i
                 · rw [e] at hUa
                   have := hUa s0 a2
                   rw [a3] at this
                   exact absurd this (by decide)
                 · exact b7 U (by omega) hUa hUb)
      · refine r_iload 133 dX11_best_131 rfl rfl ?_
        refine r_iloadN 134 dX11_best_133 rfl rfl ?_
        refine r_icle 140 137 dX11_best_134 rfl (by decide) (by omega) (by omega) (fun h134 => ?_) (fun h134 => ?_)
        · refine r_aloadN 141 dX11_best_140 rfl rfl ?_
          refine r_iload 143 dX11_best_141 rfl rfl ?_
          refine r_cv1 146 dX11_best_143 rfl gX11_341 rfl (by decide) (sh_50 z _) rfl rfl (Nat.le_of_ble_eq_true rfl) (Nat.le_of_ble_eq_true rfl) rfl ?_
          refine m_ridBy (n := n) (pe := pe) (A := A) (G := G) (by omega) hpe (by omega) (by omega) hE (fun r143 e143 => ?_)
          refine r_istore10 148 dX11_best_146 rfl rfl (by decide) ?_
          have hb14 : r143 ≤ 12 := by rw [e143]; exact Nat.le_trans (cntN_le _ pe) (by omega)
          refine r_iload 150 dX11_best_148 rfl rfl ?_
          refine r_iload 152 dX11_best_150 rfl rfl ?_
          refine r_icgt 169 155 dX11_best_152 rfl (by decide) (by omega) (by omega) (fun h152 => ?_) (fun h152 => ?_)
          · refine r_iload 171 dX11_best_169 rfl rfl ?_
            refine r_istore4 173 dX11_best_171 rfl rfl (by decide) ?_
            refine r_iload 175 dX11_best_173 rfl rfl ?_
            refine r_istore5 177 dX11_best_175 rfl rfl (by decide) ?_
            refine r_iload 179 dX11_best_177 rfl rfl ?_
            refine r_istore6 181 dX11_best_179 rfl rfl (by decide) ?_
            refine r_iinc7 184 dX11_best_181 rfl rfl (by decide) ?_
            refine r_goto 45 dX11_best_184 (by decide) ?_
            rcases hSM with ⟨a1, a2, a3⟩ | ⟨a1, s0, a2, a3⟩
            · have hpi := fPr_rng hA25 i n (Nat.le_refl _)
              rw [hP] at hpi
              rcases hA with ⟨b1, b2, b3, b4⟩ | ⟨Y, b1, b2, b3, b4, b5, b6, b7⟩
              · first
                  | (exfalso; omega)
                  | (refine ih (i + 1) _ _ _ _ _ _ (by omega) (Or.inr ⟨i, by omega, rfl, by rw [e143], a2, a3, by omega, fun U hU hUa hUb => ?_⟩)
                     rw [show U = i by omega]
                     exact Int.le_refl _)
                  | (exfalso
                     rw [b1] at a2
                     rw [fPr_nil A n] at a2
                     omega)
              · have hpy := fPr_rng hA25 Y n (Nat.le_refl _)
                rw [hP, ← b4] at hpy
                have hk1 : fKT A G n pe Y = mo * 1000000000 - co * 100000 - Y := by unfold fKT; rw [b3, b4]
                first
                  | (have hk2 : fKT A G n pe i = (r143 : Int) * 1000000000 - sm * 100000 - i := by unfold fKT; rw [e143, a2]
                     first
                       | (refine ih (i + 1) _ _ _ _ _ _ (by omega) (Or.inr ⟨i, by omega, rfl, by rw [e143], a2, a3, by omega, fun U hU hUa hUb => ?_⟩)
                          by_cases e : U = i
                          · rw [e]; exact Int.le_refl _
                          · have := b7 U (by omega) hUa hUb
                            omega)
                       | (refine ih (i + 1) _ _ _ _ _ _ (by omega) (Or.inr ⟨Y, by omega, b2, b3, b4, b5, b6, fun U hU hUa hUb => ?_⟩)
                          by_cases e : U = i
                          · rw [e]; omega
                          · exact b7 U (by omega) hUa hUb))
                  | (exfalso; omega)
                  | (refine ih (i + 1) _ _ _ _ _ _ (by omega) (Or.inr ⟨Y, by omega, b2, b3, b4, b5, b6, fun U hU hUa hUb => ?_⟩)
                     by_cases e : U = i
                     · rw [e] at hUb; exfalso; omega
                     · exact b7 U (by omega) hUa hUb)
            · first
                | (exfalso; omega)
                | (rcases hA with ⟨b1, b2, b3, b4⟩ | ⟨Y, b1, b2, b3, b4, b5, b6, b7⟩
                   · exfalso
                     rw [b1, Nat.zero_testBit] at a2
                     exact absurd a2 (by decide)
                   · refine ih (i + 1) _ _ _ _ _ _ (by omega) (Or.inr ⟨Y, by omega, b2, b3, b4, b5, b6, fun U hU hUa hUb => ?_⟩)
                     by_cases e : U = i
                     · rw [e] at hUa
                       have := hUa s0 a2
                       rw [a3] at this
                       exact absurd this (by decide)
                     · exact b7 U (by omega) hUa hUb)
          · refine r_iload 157 dX11_best_155 rfl rfl ?_
            refine r_iload 159 dX11_best_157 rfl rfl ?_
            refine r_icne 181 162 dX11_best_159 rfl (by decide) (by omega) (by omega) (fun h159 => ?_) (fun h159 => ?_)
            · refine r_iinc7 184 dX11_best_181 rfl rfl (by decide) ?_
              refine r_goto 45 dX11_best_184 (by decide) ?_
              rcases hSM with ⟨a1, a2, a3⟩ | ⟨a1, s0, a2, a3⟩
              · have hpi := fPr_rng hA25 i n (Nat.le_refl _)
                rw [hP] at hpi
                rcases hA with ⟨b1, b2, b3, b4⟩ | ⟨Y, b1, b2, b3, b4, b5, b6, b7⟩
                · first
                    | (exfalso; omega)
                    | (refine ih (i + 1) _ _ _ _ _ _ (by omega) (Or.inr ⟨i, by omega, rfl, by rw [e143], a2, a3, by omega, fun U hU hUa hUb => ?_⟩)
                       rw [show U = i by omega]
                       exact Int.le_refl _)
                    | (exfalso
                       rw [b1] at a2
                       rw [fPr_nil A n] at a2
                       omega)
                · have hpy := fPr_rng hA25 Y n (Nat.le_refl _)
                  rw [hP, ← b4] at hpy
                  have hk1 : fKT A G n pe Y = mo * 1000000000 - co * 100000 - Y := by unfold fKT; rw [b3, b4]
                  first
                    | (have hk2 : fKT A G n pe i = (r143 : Int) * 1000000000 - sm * 100000 - i := by unfold fKT; rw [e143, a2]
                       first
                         | (refine ih (i + 1) _ _ _ _ _ _ (by omega) (Or.inr ⟨i, by omega, rfl, by rw [e143], a2, a3, by omega, fun U hU hUa hUb => ?_⟩)
                            by_cases e : U = i
                            · rw [e]; exact Int.le_refl _
                            · have := b7 U (by omega) hUa hUb
                              omega)
                         | (refine ih (i + 1) _ _ _ _ _ _ (by omega) (Or.inr ⟨Y, by omega, b2, b3, b4, b5, b6, fun U hU hUa hUb => ?_⟩)
                            by_cases e : U = i
                            · rw [e]; omega
                            · exact b7 U (by omega) hUa hUb))
                    | (exfalso; omega)
                    | (refine ih (i + 1) _ _ _ _ _ _ (by omega) (Or.inr ⟨Y, by omega, b2, b3, b4, b5, b6, fun U hU hUa hUb => ?_⟩)
                       by_cases e : U = i
                       · rw [e] at hUb; exfalso; omega
                       · exact b7 U (by omega) hUa hUb)
              · first
                  | (exfalso; omega)
                  | (rcases hA with ⟨b1, b2, b3, b4⟩ | ⟨Y, b1, b2, b3, b4, b5, b6, b7⟩
                     · exfalso
                       rw [b1, Nat.zero_testBit] at a2
                       exact absurd a2 (by decide)
                     · refine ih (i + 1) _ _ _ _ _ _ (by omega) (Or.inr ⟨Y, by omega, b2, b3, b4, b5, b6, fun U hU hUa hUb => ?_⟩)
                       by_cases e : U = i
                       · rw [e] at hUa
                         have := hUa s0 a2
                         rw [a3] at this
                         exact absurd this (by decide)
                       · exact b7 U (by omega) hUa hUb)
            · refine r_iload 164 dX11_best_162 rfl rfl ?_
              refine r_iload 166 dX11_best_164 rfl rfl ?_
              refine r_icge 181 169 dX11_best_166 rfl (by decide) (by omega) (by omega) (fun h166 => ?_) (fun h166 => ?_)
              · refine r_iinc7 184 dX11_best_181 rfl rfl (by decide) ?_
                refine r_goto 45 dX11_best_184 (by decide) ?_
                rcases hSM with ⟨a1, a2, a3⟩ | ⟨a1, s0, a2, a3⟩
                · have hpi := fPr_rng hA25 i n (Nat.le_refl _)
                  rw [hP] at hpi
                  rcases hA with ⟨b1, b2, b3, b4⟩ | ⟨Y, b1, b2, b3, b4, b5, b6, b7⟩
                  · first
                      | (exfalso; omega)
                      | (refine ih (i + 1) _ _ _ _ _ _ (by omega) (Or.inr ⟨i, by omega, rfl, by rw [e143], a2, a3, by omega, fun U hU hUa hUb => ?_⟩)
                         rw [show U = i by omega]
                         exact Int.le_refl _)
                      | (exfalso
                         rw [b1] at a2
                         rw [fPr_nil A n] at a2
                         omega)
                  · have hpy := fPr_rng hA25 Y n (Nat.le_refl _)
                    rw [hP, ← b4] at hpy
                    have hk1 : fKT A G n pe Y = mo * 1000000000 - co * 100000 - Y := by unfold fKT; rw [b3, b4]
                    first
                      | (have hk2 : fKT A G n pe i = (r143 : Int) * 1000000000 - sm * 100000 - i := by unfold fKT; rw [e143, a2]
                         first
                           | (refine ih (i + 1) _ _ _ _ _ _ (by omega) (Or.inr ⟨i, by omega, rfl, by rw [e143], a2, a3, by omega, fun U hU hUa hUb => ?_⟩)
                              by_cases e : U = i
                              · rw [e]; exact Int.le_refl _
                              · have := b7 U (by omega) hUa hUb
                                omega)
                           | (refine ih (i + 1) _ _ _ _ _ _ (by omega) (Or.inr ⟨Y, by omega, b2, b3, b4, b5, b6, fun U hU hUa hUb => ?_⟩)
                              by_cases e : U = i
                              · rw [e]; omega
                              · exact b7 U (by omega) hUa hUb))
                      | (exfalso; omega)
                      | (refine ih (i + 1) _ _ _ _ _ _ (by omega) (Or.inr ⟨Y, by omega, b2, b3, b4, b5, b6, fun U hU hUa hUb => ?_⟩)
                         by_cases e : U = i
                         · rw [e] at hUb; exfalso; omega
                         · exact b7 U (by omega) hUa hUb)
                · first
                    | (exfalso; omega)
                    | (rcases hA with ⟨b1, b2, b3, b4⟩ | ⟨Y, b1, b2, b3, b4, b5, b6, b7⟩
                       · exfalso
                         rw [b1, Nat.zero_testBit] at a2
                         exact absurd a2 (by decide)
                       · refine ih (i + 1) _ _ _ _ _ _ (by omega) (Or.inr ⟨Y, by omega, b2, b3, b4, b5, b6, fun U hU hUa hUb => ?_⟩)
                         by_cases e : U = i
                         · rw [e] at hUa
                           have := hUa s0 a2
                           rw [a3] at this
                           exact absurd this (by decide)
                         · exact b7 U (by omega) hUa hUb)
              · refine r_iload 171 dX11_best_169 rfl rfl ?_
                refine r_istore4 173 dX11_best_171 rfl rfl (by decide) ?_
                refine r_iload 175 dX11_best_173 rfl rfl ?_
                refine r_istore5 177 dX11_best_175 rfl rfl (by decide) ?_
                refine r_iload 179 dX11_best_177 rfl rfl ?_
                refine r_istore6 181 dX11_best_179 rfl rfl (by decide) ?_
                refine r_iinc7 184 dX11_best_181 rfl rfl (by decide) ?_
                refine r_goto 45 dX11_best_184 (by decide) ?_
                rcases hSM with ⟨a1, a2, a3⟩ | ⟨a1, s0, a2, a3⟩
                · have hpi := fPr_rng hA25 i n (Nat.le_refl _)
                  rw [hP] at hpi
                  rcases hA with ⟨b1, b2, b3, b4⟩ | ⟨Y, b1, b2, b3, b4, b5, b6, b7⟩
                  · first
                      | (exfalso; omega)
                      | (refine ih (i + 1) _ _ _ _ _ _ (by omega) (Or.inr ⟨i, by omega, rfl, by rw [e143], a2, a3, by omega, fun U hU hUa hUb => ?_⟩)
                         rw [show U = i by omega]
                         exact Int.le_refl _)
                      | (exfalso
                         rw [b1] at a2
                         rw [fPr_nil A n] at a2
                         omega)
                  · have hpy := fPr_rng hA25 Y n (Nat.le_refl _)
                    rw [hP, ← b4] at hpy
                    have hk1 : fKT A G n pe Y = mo * 1000000000 - co * 100000 - Y := by unfold fKT; rw [b3, b4]
                    first
                      | (have hk2 : fKT A G n pe i = (r143 : Int) * 1000000000 - sm * 100000 - i := by unfold fKT; rw [e143, a2]
                         first
                           | (refine ih (i + 1) _ _ _ _ _ _ (by omega) (Or.inr ⟨i, by omega, rfl, by rw [e143], a2, a3, by omega, fun U hU hUa hUb => ?_⟩)
                              by_cases e : U = i
                              · rw [e]; exact Int.le_refl _
                              · have := b7 U (by omega) hUa hUb
                                omega)
                           | (refine ih (i + 1) _ _ _ _ _ _ (by omega) (Or.inr ⟨Y, by omega, b2, b3, b4, b5, b6, fun U hU hUa hUb => ?_⟩)
                              by_cases e : U = i
                              · rw [e]; omega
                              · exact b7 U (by omega) hUa hUb))
                      | (exfalso; omega)
                      | (refine ih (i + 1) _ _ _ _ _ _ (by omega) (Or.inr ⟨Y, by omega, b2, b3, b4, b5, b6, fun U hU hUa hUb => ?_⟩)
                         by_cases e : U = i
                         · rw [e] at hUb; exfalso; omega
                         · exact b7 U (by omega) hUa hUb)
                · first
                    | (exfalso; omega)
                    | (rcases hA with ⟨b1, b2, b3, b4⟩ | ⟨Y, b1, b2, b3, b4, b5, b6, b7⟩
                       · exfalso
                         rw [b1, Nat.zero_testBit] at a2
                         exact absurd a2 (by decide)
                       · refine ih (i + 1) _ _ _ _ _ _ (by omega) (Or.inr ⟨Y, by omega, b2, b3, b4, b5, b6, fun U hU hUa hUb => ?_⟩)
                         by_cases e : U = i
                         · rw [e] at hUa
                           have := hUa s0 a2
                           rw [a3] at this
                           exact absurd this (by decide)
                         · exact b7 U (by omega) hUa hUb)
        · refine r_goto 181 dX11_best_137 (by decide) ?_
          refine r_iinc7 184 dX11_best_181 rfl rfl (by decide) ?_
          refine r_goto 45 dX11_best_184 (by decide) ?_
          rcases hSM with ⟨a1, a2, a3⟩ | ⟨a1, s0, a2, a3⟩
          · have hpi := fPr_rng hA25 i n (Nat.le_refl _)
            rw [hP] at hpi
            rcases hA with ⟨b1, b2, b3, b4⟩ | ⟨Y, b1, b2, b3, b4, b5, b6, b7⟩
            · first
                | (exfalso; omega)
                | (refine ih (i + 1) _ _ _ _ _ _ (by omega) (Or.inr ⟨i, by omega, rfl, by rw [e143], a2, a3, by omega, fun U hU hUa hUb => ?_⟩)
                   rw [show U = i by omega]
                   exact Int.le_refl _)
                | (exfalso
                   rw [b1] at a2
                   rw [fPr_nil A n] at a2
                   omega)
            · have hpy := fPr_rng hA25 Y n (Nat.le_refl _)
              rw [hP, ← b4] at hpy
              have hk1 : fKT A G n pe Y = mo * 1000000000 - co * 100000 - Y := by unfold fKT; rw [b3, b4]
              first
                | (have hk2 : fKT A G n pe i = (r143 : Int) * 1000000000 - sm * 100000 - i := by unfold fKT; rw [e143, a2]
                   first
                     | (refine ih (i + 1) _ _ _ _ _ _ (by omega) (Or.inr ⟨i, by omega, rfl, by rw [e143], a2, a3, by omega, fun U hU hUa hUb => ?_⟩)
                        by_cases e : U = i
                        · rw [e]; exact Int.le_refl _
                        · have := b7 U (by omega) hUa hUb
                          omega)
                     | (refine ih (i + 1) _ _ _ _ _ _ (by omega) (Or.inr ⟨Y, by omega, b2, b3, b4, b5, b6, fun U hU hUa hUb => ?_⟩)
                        by_cases e : U = i
                        · rw [e]; omega
                        · exact b7 U (by omega) hUa hUb))
                | (exfalso; omega)
                | (refine ih (i + 1) _ _ _ _ _ _ (by omega) (Or.inr ⟨Y, by omega, b2, b3, b4, b5, b6, fun U hU hUa hUb => ?_⟩)
                   by_cases e : U = i
                   · rw [e] at hUb; exfalso; omega
                   · exact b7 U (by omega) hUa hUb)
          · first
              | (exfalso; omega)
              | (rcases hA with ⟨b1, b2, b3, b4⟩ | ⟨Y, b1, b2, b3, b4, b5, b6, b7⟩
                 · exfalso
                   rw [b1, Nat.zero_testBit] at a2
                   exact absurd a2 (by decide)
                 · refine ih (i + 1) _ _ _ _ _ _ (by omega) (Or.inr ⟨Y, by omega, b2, b3, b4, b5, b6, fun U hU hUa hUb => ?_⟩)
                   by_cases e : U = i
                   · rw [e] at hUa
                     have := hUa s0 a2
                     rw [a3] at this
                     exact absurd this (by decide)
                   · exact b7 U (by omega) hUa hUb)
theorem m_best {z : xZ} {d : Nat} {Q : tQ} {c : tC} {L : tL} {n : Nat} {u a b : Int} (hR : RX c) (hn : c 50 0 2 = (n : Int)) (hu : inR u) (ha : inR a) (hb : inR b) (k : ∀ r w (c2 : tC), efr c c2 → (r, w) = gBest (c 50 0) (c 51) u a b → Q (some (.int (iI r))) (mRe c2 w) L) : En z (d + 20) MX11_best Q 0 [some (.ref (xad z 50 0)), some (.int (iI u)), some (.int (iI a)), some (.int (iI b)), none, none, none, none, none, none, none] [] c L := by
  have u1 := hu.1
  have u2 := hu.2
  have a1 := ha.1
  have a2 := ha.2
  have b1 := hb.1
  have b2 := hb.2
  have hg := R0_rng hR
  have hc := R0_scal hR
  refine r_iloadN 1 dX11_best_0 rfl rfl ?_
  refine r_iflt 20 4 dX11_best_1 rfl (by decide) (by omega) (fun h1 => ?_) (fun h1 => ?_)
  · refine r_aloadN 21 dX11_best_20 rfl rfl ?_
    refine r_bipush 23 dX11_best_21 rfl (by decide) ?_
    refine r_cv1 26 dX11_best_23 rfl gX11_184 rfl (by decide) (sh_50 z _) rfl rfl (Nat.le_of_ble_eq_true rfl) (Nat.le_of_ble_eq_true rfl) rfl ?_
    refine m_no (k0 := 6) (by decide) (by decide) ?_
    refine r_ret dX11_best_26 rfl (k _ 6 c (efr_rfl c) ?_)
    unfold gBest
    rw [if_pos (by omega)]
  · refine r_iloadN 5 dX11_best_4 rfl rfl ?_
    refine r_sipush 8 dX11_best_5 rfl (by decide) ?_
    refine r_icgt 20 11 dX11_best_8 rfl (by decide) (by omega) (by omega) (fun h8 => ?_) (fun h8 => ?_)
    · refine r_aloadN 21 dX11_best_20 rfl rfl ?_
      refine r_bipush 23 dX11_best_21 rfl (by decide) ?_
      refine r_cv1 26 dX11_best_23 rfl gX11_184 rfl (by decide) (sh_50 z _) rfl rfl (Nat.le_of_ble_eq_true rfl) (Nat.le_of_ble_eq_true rfl) rfl ?_
      refine m_no (k0 := 6) (by decide) (by decide) ?_
      refine r_ret dX11_best_26 rfl (k _ 6 c (efr_rfl c) ?_)
      unfold gBest
      rw [if_pos (by omega)]
    · refine r_aloadN 12 dX11_best_11 rfl rfl ?_
      refine r_iloadN 13 dX11_best_12 rfl rfl ?_
      refine r_iloadN 14 dX11_best_13 rfl rfl ?_
      refine r_cv2 17 dX11_best_14 rfl gX11_334 rfl (by decide) (sh_50 z _) rfl rfl (Nat.le_of_ble_eq_true rfl) (Nat.le_of_ble_eq_true rfl) rfl ?_
      refine m_isHours (by assumption) (by assumption) (fun y14 => ?_) (fun y14 => ?_)
      · refine r_ifneT 27 0 dX11_best_17 (by decide) (by decide) (by decide) ?_
        obtain ⟨pe, hpe⟩ := Int.eq_ofNat_of_zero_le (show 0 ≤ c 50 0 1 by omega)
        refine r_aloadN 28 dX11_best_27 rfl rfl ?_
        refine r_iloadN 29 dX11_best_28 rfl rfl ?_
        refine r_iloadN 30 dX11_best_29 rfl rfl ?_
        refine r_cv2 33 dX11_best_30 rfl gX11_337 rfl (by decide) (sh_50 z _) rfl rfl (Nat.le_of_ble_eq_true rfl) (Nat.le_of_ble_eq_true rfl) rfl ?_
        refine m_ears hR hn hpe (by omega) (fun c2 f2 E2 => ?_)
        refine r_iconst 34 dX11_best_33 rfl ?_
        refine r_istore4 36 dX11_best_34 rfl rfl (by decide) ?_
        refine r_iconst 37 dX11_best_36 rfl ?_
        refine r_istore5 39 dX11_best_37 rfl rfl (by decide) ?_
        refine r_iconst 40 dX11_best_39 rfl ?_
        refine r_istore6 42 dX11_best_40 rfl rfl (by decide) ?_
        refine r_iconst 43 dX11_best_42 rfl ?_
        refine r_istore7 45 dX11_best_43 rfl rfl (by decide) ?_
        have hA2 := efr_A f2
        have e50 : c2 50 = c 50 := f2.1 50 (by decide)
        refine m_bo_loop (efr_RX f2 hR) (by rw [e50]; exact hn) (by rw [e50]; exact hpe) (A := c 51) (G := gMask (c 50 0) (c 51) a b) (by omega) (fTalk_A hA2) (fPr_A hA2) E2 (fun Y P => k _ 0 c2 f2 ?_) (2 ^ n) 0 _ _ _ none none none (by omega) (Or.inl ⟨rfl, rfl, rfl, rfl⟩)
        unfold gBest
        rw [if_neg (by omega), hn, hpe, Int.toNat_natCast, Int.toNat_natCast, theN_eq (P := fBestP (c 51) (gMask (c 50 0) (c 51) a b) n pe u) (x := Y) P (fun Z hZ => (fBestP_one (by omega) (fun s hs => (R0_src hR s (by omega)).2.2.2.2.2.2.2.2.1) P hZ).symm)]
      · refine r_ifneF 20 dX11_best_17 rfl 27 (by decide) (by decide) (by decide) ?_
        refine r_aloadN 21 dX11_best_20 rfl rfl ?_
        refine r_bipush 23 dX11_best_21 rfl (by decide) ?_
        refine r_cv1 26 dX11_best_23 rfl gX11_184 rfl (by decide) (sh_50 z _) rfl rfl (Nat.le_of_ble_eq_true rfl) (Nat.le_of_ble_eq_true rfl) rfl ?_
        refine m_no (k0 := 6) (by decide) (by decide) ?_
        refine r_ret dX11_best_26 rfl (k _ 6 c (efr_rfl c) ?_)
        unfold gBest
        rw [if_pos (by omega)]
