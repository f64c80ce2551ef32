theorem kfr_rfl (c : tC) : kfr c c := fun _ _ _ => rfl
theorem kfr_cu5 {c0 c : tC} {i j : Nat} {v : Int} (h : kfr c0 c) : kfr c0 (cu c 5 i j v) := fun g h5 h7 => by
  funext a b
  rw [cu, if_neg (fun q => h5 q.1), h g h5 h7]
theorem kfr_cu7 {c0 c : tC} {i j : Nat} {v : Int} (h : kfr c0 c) : kfr c0 (cu c 7 i j v) := fun g h5 h7 => by
  funext a b
  rw [cu, if_neg (fun q => h7 q.1), h g h5 h7]
theorem kfr_trans {a b c : tC} (h1 : kfr a b) (h2 : kfr b c) : kfr a c := fun g h5 h7 => (h2 g h5 h7).trans (h1 g h5 h7)
theorem mk_sub {F : Nat → Bool} {n U : Nat} : mkN F n ||| U = U ↔ ∀ s, s < n → F s = true → U.testBit s = true := by
  rw [sb_iff]
  constructor
  · intro h s hs hF
    exact h s (by rw [mk_bit hs]; exact hF)
  · intro h s hs
    rw [mkN_bit, Bool.and_eq_true] at hs
    exact h s (of_decide_eq_true hs.1) hs.2
theorem rid_in {A : sA} {G : Nat → Bool} {U n p : Nat} : fRid A G U n p = decide (mkN (fun s => fHear A p s (A 14 p) && G s) n ||| U = U) := by
  by_cases h : mkN (fun s => fHear A p s (A 14 p) && G s) n ||| U = U
  · rw [decide_eq_true h]
    have h2 := mk_sub.mp h
    unfold fRid
    cases ha : fAny (fun s => (fHear A p s (A 14 p) && G s) && !U.testBit s) n with
    | false => rfl
    | true =>
      obtain ⟨s, hs, hb⟩ := fAny_iff.mp ha
      rw [Bool.and_eq_true] at hb
      rw [h2 s hs hb.1] at hb
      exact absurd hb.2 (by decide)
  · rw [decide_eq_false h]
    unfold fRid
    cases ha : fAny (fun s => (fHear A p s (A 14 p) && G s) && !U.testBit s) n with
    | true => rfl
    | false =>
      refine absurd (mk_sub.mpr fun s hs hF => ?_) h
      cases hb : U.testBit s with
      | true => rfl
      | false =>
        have : fAny (fun s => (fHear A p s (A 14 p) && G s) && !U.testBit s) n = true := fAny_iff.mpr ⟨s, hs, by rw [hb, Bool.and_eq_true]; exact ⟨hF, rfl⟩⟩
        rw [ha] at this
        exact absurd this (by decide)
def fKT (A : sA) (G : Nat → Bool) (n pe U : Nat) : Int := ((cntN (fRid A G U n) pe : Nat) : Int) * 1000000000 - fPr A U n * 100000 - U
def fBestP (A : sA) (G : Nat → Bool) (n pe : Nat) (bu : Int) (Y : Nat) : Prop := Y < 2 ^ n ∧ (∀ s, Y.testBit s = true → fTalk A s = false) ∧ fPr A Y n ≤ bu ∧ ∀ U, U < 2 ^ n → (∀ s, U.testBit s = true → fTalk A s = false) → fPr A U n ≤ bu → fKT A G n pe U ≤ fKT A G n pe Y
theorem fBestP_one {A : sA} {G : Nat → Bool} {n pe : Nat} {bu : Int} {Y Z : Nat} (hn : n ≤ 14) (hA : ∀ s, s < n → 0 ≤ A 25 s ∧ A 25 s ≤ 99) (h1 : fBestP A G n pe bu Y) (h2 : fBestP A G n pe bu Z) : Y = Z := by
  have a := h1.2.2.2 Z h2.1 h2.2.1 h2.2.2.1
  have b := h2.2.2.2 Y h1.1 h1.2.1 h1.2.2.1
  have hp14 : (2 : Nat) ^ n ≤ 2 ^ 14 := Nat.pow_le_pow_right (by decide) hn
  have p1 := fPr_rng hA Y n (Nat.le_refl _)
  have p2 := fPr_rng hA Z n (Nat.le_refl _)
  have := h1.1
  have := h2.1
  unfold fKT at a b
  omega
theorem best_end {A : sA} {G : Nat → Bool} {n pe wc : Nat} {bu K : Int} {W : Nat → Nat} {Y : Nat} {rd : Int} (hn : n ≤ 14) (hA : ∀ s, s < n → 0 ≤ A 25 s ∧ A 25 s ≤ 99)
    (hC : ∀ U, (∀ s, U.testBit s = true → fTalk A s = false) → cntN (fun j => decide (W j ||| U = U)) wc = cntN (fRid A G U n) pe)
    (hY : Y < 2 ^ n) (hYa : ∀ s, Y.testBit s = true → fTalk A s = false) (hYb : fPr A Y n ≤ bu) (hrd : rd ≤ ((cntN (fun i => decide (W i ||| Y = Y)) wc : Nat) : Int)) (hK : K = rd * 1000000000 - fPr A Y n * 100000 - Y)
    (h : ∀ U, U < 2 ^ n → 0 ||| U = U → fPr A U n ≤ bu → U = 0 ||| wOr W U 0 wc → (((0 : Nat) : Int) + (wCt W U 0 wc : Nat)) * 1000000000 - fPr A U n * 100000 - U ≤ K) : fBestP A G n pe bu Y := by
  refine ⟨hY, hYa, hYb, fun U hU hUa hUb => ?_⟩
  have hV := wOr_sub W U wc 0
  have hVe : wOr W U 0 wc = wOr W (wOr W U 0 wc) 0 wc := wOr_ext wc 0 fun i h1 h2 => ⟨fun q => wOr_in wc 0 i h1 h2 q, fun q => sb_trans q hV⟩
  have hVl := sb_le hV
  have hVp := fPr_mono hA hV n (Nat.le_refl _)
  have hk := h (wOr W U 0 wc) (by omega) (Nat.zero_or _) (by omega) (by rw [Nat.zero_or]; exact hVe)
  have hVa : ∀ s, (wOr W U 0 wc).testBit s = true → fTalk A s = false := fun s hs => hUa s (sb_iff.mp hV s hs)
  have c1 := wCt_cnt W (wOr W U 0 wc) wc 0
  have c2 : cntN (fun i => decide (W i ||| U = U)) wc ≤ cntN (fun i => decide (W i ||| wOr W U 0 wc = wOr W U 0 wc)) wc := cntN_mono fun i hi q => decide_eq_true (wOr_in wc 0 i (Nat.zero_le _) (by omega) (of_decide_eq_true q))
  have c3 := hC U hUa
  have c4 := hC Y hYa
  rw [Nat.zero_add, show cntN (fun i => decide (W i ||| wOr W U 0 wc = wOr W U 0 wc)) 0 = 0 from rfl, Nat.zero_add] at c1
  unfold fKT
  omega
theorem fPr_nil (A : sA) : ∀ n, fPr A 0 n = 0 := by
  intro n
  induction n with
  | zero => rfl
  | succ n ih => rw [fPr, ih, Nat.zero_testBit, if_neg (by decide)]; rfl
theorem x_bs_loop {z : xZ} {d : Nat} {Q : tQ} {L : tL} {n pe : Nat} {bu a b m ai : Int} {G : Nat → Bool} {c0 : tC} (hR0 : RX c0) (hn0 : c0 50 0 2 = (n : Int)) (hpe : c0 50 0 1 = (pe : Int)) (hbu : 0 ≤ bu ∧ bu ≤ 999) (hm : m = ((mkN G n : Nat) : Int)) (hai : ai = ((mkN (fun s => !fTalk (c0 51) s) n : Nat) : Int)) (kk : ∀ (c2 : tC) (Y : Nat), kfr c0 c2 → fBestP (c0 51) G n pe bu Y → Q (some (.int (iI (Y : Int)))) c2 L) : ∀ (k i : Nat) (c : tC) (wc : Nat) (W : Nat → Nat) (v7 : Option Value), i + k = pe → kfr c0 c → (c 5 0 3 = (wc : Int) ∧ c 5 0 4 = bu ∧ c 5 0 5 = 0 ∧ c 5 0 6 = 0 ∧ c 5 0 7 = 0) → wc ≤ i → (∀ j, j < wc → c 7 0 j = (W j : Int) ∧ W j < 2 ^ n) → (∀ j, j < wc → ∀ s, (W j).testBit s = true → fTalk (c0 51) s = false) → (∀ U, (∀ s, U.testBit s = true → fTalk (c0 51) s = false) → cntN (fun j => decide (W j ||| U = U)) wc = cntN (fRid (c0 51) G U n) i) → En z (d + 16) MX6_bestSet Q 48 [some (.ref (xad z 5 0)), some (.int (iI bu)), some (.int (iI a)), some (.int (iI b)), some (.int (iI m)), some (.int (iI ai)), some (.int (iI (i : Int))), v7] [] c L := by
  have hg0 := R0_rng hR0
  intro k
  induction k with
  | zero =>
    intro i c wc W v7 hi hk h5 hwc hW hWa hC
    have hR := kfr_RX hk hR0
    have e51 : c 51 = c0 51 := hk 51 (by decide) (by decide)
    have e50 : c 50 = c0 50 := hk 50 (by decide) (by decide)
    have hn : c 50 0 2 = (n : Int) := by rw [e50]; exact hn0
    have hg := R0_rng hR
    have hc := R0_scal hR
    have hA25 : ∀ s, s < n → 0 ≤ c0 51 25 s ∧ c0 51 25 s ≤ 99 := fun s hs => (R0_src hR0 s (by omega)).2.2.2.2.2.2.2.2.1
    rw [← e50] at hpe
    refine r_iload 50 dX6_bestSet_48 rfl rfl ?_
    refine r_aloadN 51 dX6_bestSet_50 rfl rfl ?_
    refine r_getq 54 dX6_bestSet_51 rfl fX6_12 (by decide) (sh_5 z _) rfl ?_
    refine r_geti 57 dX6_bestSet_54 rfl fX6_100 (by decide) (sh_8 z _) rfl ?_
    refine r_icge 107 60 dX6_bestSet_57 rfl (by decide) (by omega) (by omega) (fun h57 => ?_) (fun h57 => ?_)
    · rw [show d + 16 = d + (12 - wc) + wc + 3 + 1 by omega]
      refine r_aloadN 108 dX6_bestSet_107 rfl rfl ?_
      refine r_iconst 109 dX6_bestSet_108 rfl ?_
      refine r_iconst 110 dX6_bestSet_109 rfl ?_
      refine r_iconst 111 dX6_bestSet_110 rfl ?_
      refine r_iconst 112 dX6_bestSet_111 rfl ?_
      refine r_cv4 115 dX6_bestSet_112 rfl gX6_118 rfl (by decide) (sh_5 z _) rfl rfl (Nat.le_of_ble_eq_true rfl) (Nat.le_of_ble_eq_true rfl) rfl ?_
      refine x_choose wc _ c 0 0 0 0 hR hn h5.1 (by omega) h5.2.1 hbu hW (by rw [e51]; exact hWa) ⟨0, Nat.pow_pos (by decide), h5.2.2.1, (by rw [h5.2.2.2.2]; exact (fPr_nil _ n).symm), (by omega), (by rw [h5.2.2.2.1]; exact Int.natCast_nonneg _), (by omega), (fun s hs => by rw [Nat.zero_testBit] at hs; exact absurd hs (by decide))⟩ (by omega) (Nat.pow_pos (by decide)) (fun s hs => by rw [Nat.zero_testBit] at hs; exact absurd hs (by decide)) (fPr_nil _ n).symm (Nat.zero_le _) (fun c2 f2 B2 K2 A2 => ?_)
      refine r_aloadN 116 dX6_bestSet_115 rfl rfl ?_
      refine r_geti 119 dX6_bestSet_116 rfl fX6_33 (by decide) (sh_5 z _) rfl ?_
      obtain ⟨Y, hY1, hY2, hY3, hY4, hY5, hY6, hY7⟩ := B2
      have e51b : c2 51 = c0 51 := (f2.1 51 (by decide)).trans e51
      rw [e51b] at hY3 hY7
      rw [e51] at A2
      rw [hY2]
      refine r_ret dX6_bestSet_119 rfl (kk c2 Y (kfr_trans hk (sfr_k f2)) (best_end (W := W) (wc := wc) (rd := c2 5 0 6) (K := fKy c2) (by omega) hA25 (by rw [← show i = pe by omega]; exact hC) hY1 hY7 (by omega) hY5 (by unfold fKy; rw [hY2, hY3]) ?_))
      exact A2
    · exfalso; omega
  | succ k ih =>
    intro i c wc W v7 hi hk h5 hwc hW hWa hC
    have hR := kfr_RX hk hR0
    have e51 : c 51 = c0 51 := hk 51 (by decide) (by decide)
    have e50 : c 50 = c0 50 := hk 50 (by decide) (by decide)
    have hn : c 50 0 2 = (n : Int) := by rw [e50]; exact hn0
    have hg := R0_rng hR
    have hc := R0_scal hR
    have hpe2 := hpe
    rw [← e50] at hpe2
    have hFl := mkN_lt31 (fun s => fHear (c0 51) i s (c0 51 14 i) && G s) (show n ≤ 14 by omega)
    refine r_iload 50 dX6_bestSet_48 rfl rfl ?_
    refine r_aloadN 51 dX6_bestSet_50 rfl rfl ?_
    refine r_getq 54 dX6_bestSet_51 rfl fX6_12 (by decide) (sh_5 z _) rfl ?_
    refine r_geti 57 dX6_bestSet_54 rfl fX6_100 (by decide) (sh_8 z _) rfl ?_
    refine r_icge 107 60 dX6_bestSet_57 rfl (by decide) (by omega) (by omega) (fun h57 => ?_) (fun h57 => ?_)
    · exfalso; omega
    · refine r_aloadN 61 dX6_bestSet_60 rfl rfl ?_
      refine r_iload 63 dX6_bestSet_61 rfl rfl ?_
      refine r_iload 65 dX6_bestSet_63 rfl rfl ?_
      refine r_cv2 68 dX6_bestSet_65 rfl gX6_103 rfl (by decide) (sh_5 z _) rfl rfl (Nat.le_of_ble_eq_true rfl) (Nat.le_of_ble_eq_true rfl) rfl ?_
      refine x_heardOf hR hn (p := i) (by omega) hm (fun r65 e65 => ?_)
      rw [e51] at e65
      subst e65
      refine r_istore7 70 dX6_bestSet_68 rfl rfl (by decide) ?_
      refine r_iload 72 dX6_bestSet_70 rfl rfl ?_
      refine r_iload 74 dX6_bestSet_72 rfl rfl ?_
      refine r_iconst 75 dX6_bestSet_74 rfl ?_
      refine r_ixor 76 dX6_bestSet_75 rfl ?_
      refine r_iand 77 dX6_bestSet_76 rfl ?_
      rw [inot_mk (by omega) rfl (mkN_lt31 _ (show n ≤ 14 by omega)) hai]
      refine r_ifne 101 80 dX6_bestSet_77 rfl (by decide) (mk_in _ (by omega)) (fun h77 => ?_) (fun h77 => ?_)
      · refine r_iinc6 104 dX6_bestSet_101 rfl rfl (by decide) ?_
        refine r_goto 48 dX6_bestSet_104 (by decide) ?_
        first
          | (refine ih (i + 1) c wc W _ (by omega) hk h5 (by omega) hW hWa (fun U hU => ?_)
             rw [hC U hU, cntN, rid_in, if_neg]
             · rfl
             · intro q
               refine h77 ?_
               have q2 := mk_sub.mp (of_decide_eq_true q)
               have hz : mkN (fun i_1 => (fun s => fHear (c0 51) i s (c0 51 14 i) && G s) i_1 && !(mkN (fun s => !fTalk (c0 51) s) n).testBit i_1) n = 0 := mk_zero.mpr fun s hs => by
                 cases hF : (fun s => fHear (c0 51) i s (c0 51 14 i) && G s) s with
                 | false => rfl
                 | true => rw [mk_bit hs, hU s (q2 s hs hF)]; rfl
               exact congrArg Nat.cast hz)
          | (have hz : ∀ s, s < n → ((fHear (c0 51) i s (c0 51 14 i) && G s) && !(mkN (fun s => !fTalk (c0 51) s) n).testBit s) = false := mk_zero.mp (Int.ofNat.inj h77)
             refine ih (i + 1) _ (wc + 1) (fun j => if j = wc then mkN (fun s => fHear (c0 51) i s (c0 51 14 i) && G s) n else W j) _ (by omega) (kfr_cu5 (kfr_cu7 hk)) ⟨rfl, h5.2.1, h5.2.2.1, h5.2.2.2.1, h5.2.2.2.2⟩ (by omega) ?_ ?_ ?_
             · intro j hj
               by_cases e : j = wc
               · rw [if_pos e, e]
                 exact ⟨by simp [cu], mkN_lt _ _⟩
               · rw [if_neg e]
                 have := hW j (by omega)
                 exact ⟨by simp [cu, e]; exact this.1, this.2⟩
             · intro j hj s hs
               by_cases e : j = wc
               · rw [if_pos e, mkN_bit, Bool.and_eq_true] at hs
                 have h1 := of_decide_eq_true hs.1
                 have h2 := hz s h1
                 rw [hs.2, mk_bit h1] at h2
                 simpa using h2
               · rw [if_neg e] at hs
                 exact hWa j (by omega) s hs
             · intro U hU
               rw [cntN, cntN, rid_in, ← hC U hU]
               congr 1
               · exact cntN_ext fun j hj => by rw [if_neg (show ¬ j = wc by omega)]
               · rw [if_pos (show wc = wc from rfl)])
      · refine r_aloadN 81 dX6_bestSet_80 rfl rfl ?_
        refine r_getq 84 dX6_bestSet_81 rfl fX6_22 (by decide) (sh_5 z _) rfl ?_
        refine r_aloadN 85 dX6_bestSet_84 rfl rfl ?_
        refine r_geti 88 dX6_bestSet_85 rfl fX6_26 (by decide) (sh_5 z _) rfl ?_
        rw [h5.1]
        refine r_iload 90 dX6_bestSet_88 rfl rfl ?_
        refine r_iast 91 dX6_bestSet_90 (wc) rfl rfl (by decide) (sh_7 z _) (by decide) (by omega) (by omega) ?_
        refine r_aloadN 92 dX6_bestSet_91 rfl rfl ?_
        refine r_dupr 93 dX6_bestSet_92 rfl ?_
        refine r_geti 96 dX6_bestSet_93 rfl fX6_26 (by decide) (sh_5 z _) rfl ?_
        rw [show cu c 7 0 wc ((mkN (fun s => fHear (c0 51) i s (c0 51 14 i) && G s) n : Nat) : Int) 5 0 3 = (wc : Int) from h5.1]
        refine r_iconst 97 dX6_bestSet_96 rfl ?_
        refine r_iadd 98 dX6_bestSet_97 rfl ?_
        refine r_puti 101 dX6_bestSet_98 rfl pX6_26 (by decide) (sh_5 z _) rfl ?_
        refine r_iinc6 104 dX6_bestSet_101 rfl rfl (by decide) ?_
        refine r_goto 48 dX6_bestSet_104 (by decide) ?_
        first
          | (refine ih (i + 1) c wc W _ (by omega) hk h5 (by omega) hW hWa (fun U hU => ?_)
             rw [hC U hU, cntN, rid_in, if_neg]
             · rfl
             · intro q
               refine h77 ?_
               have q2 := mk_sub.mp (of_decide_eq_true q)
               have hz : mkN (fun i_1 => (fun s => fHear (c0 51) i s (c0 51 14 i) && G s) i_1 && !(mkN (fun s => !fTalk (c0 51) s) n).testBit i_1) n = 0 := mk_zero.mpr fun s hs => by
                 cases hF : (fun s => fHear (c0 51) i s (c0 51 14 i) && G s) s with
                 | false => rfl
                 | true => rw [mk_bit hs, hU s (q2 s hs hF)]; rfl
               exact congrArg Nat.cast hz)
          | (have hz : ∀ s, s < n → ((fHear (c0 51) i s (c0 51 14 i) && G s) && !(mkN (fun s => !fTalk (c0 51) s) n).testBit s) = false := mk_zero.mp (Int.ofNat.inj h77)
             refine ih (i + 1) _ (wc + 1) (fun j => if j = wc then mkN (fun s => fHear (c0 51) i s (c0 51 14 i) && G s) n else W j) _ (by omega) (kfr_cu5 (kfr_cu7 hk)) ⟨rfl, h5.2.1, h5.2.2.1, h5.2.2.2.1, h5.2.2.2.2⟩ (by omega) ?_ ?_ ?_
             · intro j hj
               by_cases e : j = wc
               · rw [if_pos e, e]
                 exact ⟨by simp [cu], mkN_lt _ _⟩
               · rw [if_neg e]
                 have := hW j (by omega)
                 exact ⟨by simp [cu, e]; exact this.1, this.2⟩
             · intro j hj s hs
               by_cases e : j = wc
               · rw [if_pos e, mkN_bit, Bool.and_eq_true] at hs
                 have h1 := of_decide_eq_true hs.1
                 have h2 := hz s h1
                 rw [hs.2, mk_bit h1] at h2
                 simpa using h2
               · rw [if_neg e] at hs
                 exact hWa j (by omega) s hs
             · intro U hU
               rw [cntN, cntN, rid_in, ← hC U hU]
               congr 1
               · exact cntN_ext fun j hj => by rw [if_neg (show ¬ j = wc by omega)]
               · rw [if_pos (show wc = wc from rfl)])
theorem x_bestSet {z : xZ} {d : Nat} {Q : tQ} {c : tC} {L : tL} {n pe : Nat} {bu a b : Int} (hR : RX c) (hn : c 50 0 2 = (n : Int)) (hpe : c 50 0 1 = (pe : Int)) (hbu : 0 ≤ bu ∧ bu ≤ 999) (ha : 0 ≤ a ∧ a ≤ b ∧ b ≤ 239) (k : ∀ (c2 : tC) (Y : Nat), kfr c c2 → fBestP (c 51) (fun s => fSome (c 50 0) (c 51) s a (b + 1 - a).toNat) n pe bu Y → Q (some (.int (iI (Y : Int)))) c2 L) : En z (d + 16) MX6_bestSet Q 0 [some (.ref (xad z 5 0)), some (.int (iI bu)), some (.int (iI a)), some (.int (iI b)), none, none, none, none] [] c L := by
  have hg := R0_rng hR
  have hc := R0_scal hR
  refine r_aloadN 1 dX6_bestSet_0 rfl rfl ?_
  refine r_getq 4 dX6_bestSet_1 rfl fX6_12 (by decide) (sh_5 z _) rfl ?_
  refine r_iloadN 5 dX6_bestSet_4 rfl rfl ?_
  refine r_iloadN 6 dX6_bestSet_5 rfl rfl ?_
  refine r_cv2 9 dX6_bestSet_6 rfl gX6_97 rfl (by decide) (sh_8 z _) rfl rfl (Nat.le_of_ble_eq_true rfl) (Nat.le_of_ble_eq_true rfl) rfl ?_
  refine x_soundingWithin hR hn ha (fun r6 e6 => ?_)
  refine r_istore4 11 dX6_bestSet_9 rfl rfl (by decide) ?_
  refine r_aloadN 12 dX6_bestSet_11 rfl rfl ?_
  refine r_getq 15 dX6_bestSet_12 rfl fX6_12 (by decide) (sh_5 z _) rfl ?_
  refine r_cv0 18 dX6_bestSet_15 rfl gX6_114 rfl (by decide) (sh_8 z _) rfl rfl (Nat.le_of_ble_eq_true rfl) (Nat.le_of_ble_eq_true rfl) rfl ?_
  refine x_airborne hR hn (fun r15 e15 => ?_)
  refine r_istore5 20 dX6_bestSet_18 rfl rfl (by decide) ?_
  refine r_aloadN 21 dX6_bestSet_20 rfl rfl ?_
  refine r_iloadN 22 dX6_bestSet_21 rfl rfl ?_
  refine r_puti 25 dX6_bestSet_22 rfl pX6_30 (by decide) (sh_5 z _) rfl ?_
  refine r_aloadN 26 dX6_bestSet_25 rfl rfl ?_
  refine r_iconst 27 dX6_bestSet_26 rfl ?_
  refine r_puti 30 dX6_bestSet_27 rfl pX6_33 (by decide) (sh_5 z _) rfl ?_
  refine r_aloadN 31 dX6_bestSet_30 rfl rfl ?_
  refine r_iconst 32 dX6_bestSet_31 rfl ?_
  refine r_puti 35 dX6_bestSet_32 rfl pX6_36 (by decide) (sh_5 z _) rfl ?_
  refine r_aloadN 36 dX6_bestSet_35 rfl rfl ?_
  refine r_iconst 37 dX6_bestSet_36 rfl ?_
  refine r_puti 40 dX6_bestSet_37 rfl pX6_39 (by decide) (sh_5 z _) rfl ?_
  refine r_aloadN 41 dX6_bestSet_40 rfl rfl ?_
  refine r_iconst 42 dX6_bestSet_41 rfl ?_
  refine r_puti 45 dX6_bestSet_42 rfl pX6_26 (by decide) (sh_5 z _) rfl ?_
  refine r_iconst 46 dX6_bestSet_45 rfl ?_
  refine r_istore6 48 dX6_bestSet_46 rfl rfl (by decide) ?_
  exact x_bs_loop hR hn hpe hbu e6 e15 k pe 0 _ 0 (fun _ => 0) none (by omega) (kfr_cu5 (kfr_cu5 (kfr_cu5 (kfr_cu5 (kfr_cu5 (kfr_rfl c)))))) ⟨rfl, rfl, rfl, rfl, rfl⟩ (Nat.le_refl _) (fun j hj => absurd hj (Nat.not_lt_zero _)) (fun j hj => absurd hj (Nat.not_lt_zero _)) (fun U hU => rfl)
