theorem cntN_shift (f : Nat → Bool) : ∀ n, cntN f (n + 1) = (if f 0 = true then 1 else 0) + cntN (fun i => f (i + 1)) n := by
  intro n
  induction n with
  | zero => rw [cntN, cntN, cntN]; omega
  | succ n ih =>
    rw [cntN, ih]
    show _ = _ + (cntN (fun i => f (i + 1)) n + if f (n + 1) = true then 1 else 0)
    omega
theorem pop_low : ∀ (n m : Nat), m < 2 ^ n → m ≠ 0 → cntN (m &&& (m - 1)).testBit n + 1 = cntN m.testBit n := by
  intro n
  induction n with
  | zero => intro m h h0; rw [Nat.pow_zero] at h; omega
  | succ n ih =>
    intro m h h0
    have e : ∀ x : Nat, (fun i => x.testBit (i + 1)) = (x / 2).testBit := fun x => funext fun i => Nat.testBit_succ x i
    rw [cntN_shift, cntN_shift, e, e, Nat.and_div_two, Nat.testBit_and, Nat.testBit_zero, Nat.testBit_zero]
    rw [Nat.pow_succ] at h
    by_cases ho : m % 2 = 1
    · rw [show (m - 1) / 2 = m / 2 by omega, Nat.and_self, decide_eq_true ho, decide_eq_false (show ¬ (m - 1) % 2 = 1 by omega)]
      simp
      omega
    · have h2 := ih (m / 2) (by omega) (by omega)
      rw [show (m - 1) / 2 = m / 2 - 1 by omega, decide_eq_false ho]
      simp
      omega
theorem m_many_loop {z : xZ} {d : Nat} {Q : tQ} {c : tC} {L : tL} {t : Nat} {y : Int}  (kk : ∀ r : Nat, r = t → Q (some (.int (iI (r : Int)))) c L) : ∀ (k i : Nat) (x : Int), i ≤ k → i < 2 ^ 14 → x + ((cntN i.testBit 14 : Nat) : Int) = (t : Int) → En z (d + 1) MX11_many Q 4 [some (.ref (xad z 50 0)), some (.int (iI y)), some (.int (iI x)), some (.int (iI (i : Int)))] [] c L := by
  intro k
  induction k with
  | zero =>
    intro i x hi hb hx
    refine r_iloadN 5 dX11_many_4 rfl rfl ?_
    refine r_ifeq 20 8 dX11_many_5 rfl (by decide) (by omega) (fun h5 => ?_) (fun h5 => ?_)
    · refine r_iloadN 21 dX11_many_20 rfl rfl ?_
      have e0 : i = 0 := by omega
      subst e0
      have hz : cntN (0 : Nat).testBit 14 = 0 := cntN_false fun j _ => Nat.zero_testBit j
      rw [show x = (t : Int) by omega]
      exact r_ret dX11_many_21 rfl (kk t rfl)
    · exfalso; omega
  | succ k ih =>
    intro i x hi hb hx
    refine r_iloadN 5 dX11_many_4 rfl rfl ?_
    refine r_ifeq 20 8 dX11_many_5 rfl (by decide) (by omega) (fun h5 => ?_) (fun h5 => ?_)
    · refine r_iloadN 21 dX11_many_20 rfl rfl ?_
      have e0 : i = 0 := by omega
      subst e0
      have hz : cntN (0 : Nat).testBit 14 = 0 := cntN_false fun j _ => Nat.zero_testBit j
      rw [show x = (t : Int) by omega]
      exact r_ret dX11_many_21 rfl (kk t rfl)
    · refine r_iinc2 11 dX11_many_8 rfl rfl (by decide) ?_
      refine r_iloadN 12 dX11_many_11 rfl rfl ?_
      refine r_iloadN 13 dX11_many_12 rfl rfl ?_
      refine r_iconst 14 dX11_many_13 rfl ?_
      refine r_isub 15 dX11_many_14 rfl ?_
      refine r_iand 16 dX11_many_15 rfl ?_
      rw [show (i : Int) - 1 = ((i - 1 : Nat) : Int) by omega, iand_nat (by omega)]
      refine r_istore3 17 dX11_many_16 rfl rfl (by decide) ?_
      refine r_goto 4 dX11_many_17 (by decide) ?_
      have h0 : i ≠ 0 := by omega
      have hp := pop_low 14 i hb h0
      have hl : i &&& (i - 1) ≤ i - 1 := Nat.and_le_right
      exact ih (i &&& (i - 1)) _ (by omega) (by omega) (by omega)
theorem m_many {z : xZ} {d : Nat} {Q : tQ} {c : tC} {L : tL} {n : Nat} {f : Nat → Bool} {v : Int} (hn : n ≤ 14) (hv : v = ((mkN f n : Nat) : Int)) (k : ∀ r : Nat, r = cntN f n → Q (some (.int (iI (r : Int)))) c L) : En z (d + 1) MX11_many Q 0 [some (.ref (xad z 50 0)), some (.int (iI v)), none, none] [] c L := by
  subst hv
  refine r_iconst 1 dX11_many_0 rfl ?_
  refine r_istore2 2 dX11_many_1 rfl rfl (by decide) ?_
  refine r_iloadN 3 dX11_many_2 rfl rfl ?_
  refine r_istore3 4 dX11_many_3 rfl rfl (by decide) ?_
  exact m_many_loop (t := cntN f n) k _ _ 0 (Nat.le_refl _) (Nat.lt_of_lt_of_le (mkN_lt f n) (Nat.pow_le_pow_right (by decide) hn)) (by rw [pop_mk hn]; omega)
/-- the town's numbers and rows stand alike -/
def sfS (S S2 : sS) : Prop := ∀ i, i < 10 → S2 i = S i
def sfA (A A2 : sA) : Prop := ∀ f, f < 44 → f ≠ 10 → A2 f = A f
theorem RT_SA {c : tC} {t : Nat} {S S2 : sS} {A A2 : sA} (hS : sfS S S2) (hA : sfA A A2) (hR : RT c t S A) : RT c t S2 A2 := by
  revert hR
  unfold RT RT_scal RT_rng RT_per RT_src RT_off RT_beat RT_law RT_size RT_storm RT_plan RT_press RT_pmon RT_match RT_mmon RT_came RT_let fHand
  rw [hS 0 (by decide), hS 1 (by decide), hS 2 (by decide), hS 3 (by decide), hS 4 (by decide), hS 5 (by decide), hS 6 (by decide), hS 7 (by decide), hS 9 (by decide)]
  rw [hA 11 (by decide) (by decide), hA 12 (by decide) (by decide), hA 13 (by decide) (by decide), hA 14 (by decide) (by decide), hA 15 (by decide) (by decide), hA 16 (by decide) (by decide), hA 17 (by decide) (by decide), hA 18 (by decide) (by decide), hA 19 (by decide) (by decide), hA 20 (by decide) (by decide), hA 21 (by decide) (by decide), hA 22 (by decide) (by decide), hA 23 (by decide) (by decide), hA 24 (by decide) (by decide), hA 25 (by decide) (by decide), hA 26 (by decide) (by decide), hA 27 (by decide) (by decide), hA 28 (by decide) (by decide), hA 29 (by decide) (by decide), hA 30 (by decide) (by decide), hA 31 (by decide) (by decide), hA 32 (by decide) (by decide), hA 33 (by decide) (by decide), hA 34 (by decide) (by decide), hA 35 (by decide) (by decide), hA 36 (by decide) (by decide), hA 37 (by decide) (by decide), hA 38 (by decide) (by decide), hA 39 (by decide) (by decide), hA 40 (by decide) (by decide), hA 41 (by decide) (by decide), hA 42 (by decide) (by decide), hA 43 (by decide) (by decide)]
  exact id
theorem fLvl_A {A A2 : sA} (hA : sfA A A2) : fLvl A2 = fLvl A := by
  funext s sp
  unfold fLvl fRaw fStd fTalk
  rw [hA 11 (by decide) (by decide), hA 12 (by decide) (by decide), hA 19 (by decide) (by decide), hA 20 (by decide) (by decide), hA 21 (by decide) (by decide), hA 22 (by decide) (by decide)]
theorem fHear_A {A A2 : sA} (hA : sfA A A2) : fHear A2 = fHear A := by
  funext p s sp
  unfold fHear fNeed
  rw [fLvl_A hA, hA 15 (by decide) (by decide), hA 16 (by decide) (by decide), hA 17 (by decide) (by decide), hA 18 (by decide) (by decide), hA 19 (by decide) (by decide), hA 20 (by decide) (by decide), hA 21 (by decide) (by decide)]
/-- nothing changes but the row of ears -/
def efr (c c2 : tC) : Prop := (∀ g, g ≠ 51 → c2 g = c g) ∧ ∀ f, f ≠ 64 → c2 51 f = c 51 f
theorem efr_rfl (c : tC) : efr c c := ⟨fun _ _ => rfl, fun _ _ => rfl⟩
theorem efr_trans {a b c : tC} (h1 : efr a b) (h2 : efr b c) : efr a c := ⟨fun g hg => (h2.1 g hg).trans (h1.1 g hg), fun g hg => (h2.2 g hg).trans (h1.2 g hg)⟩
theorem efr_cu {c0 c : tC} {j : Nat} {v : Int} (h : efr c0 c) : efr c0 (cu c 51 64 j v) := ⟨fun g hg => by
  funext a b
  rw [cu, if_neg (fun q => hg q.1), h.1 g hg], fun f hf => by
  funext b
  rw [cu, if_neg (fun q => hf q.2.1), h.2 f hf]⟩
theorem efr_A {c c2 : tC} (h : efr c c2) : sfA (c 51) (c2 51) := fun f hf _ => h.2 f (by omega)
theorem efr_same {c c2 : tC} (h : efr c c2) (t : Nat) : tsame c c2 t := by
  have q : ∀ g, g ≠ 51 → c2 g = c g := h.1
  unfold tsame
  rw [q 8 (by decide), q 16 (by decide), q 21 (by decide), q 25 (by decide), q 26 (by decide), q 27 (by decide), q 17 (by decide), q 18 (by decide), q 19 (by decide), q 20 (by decide), q 22 (by decide), q 23 (by decide), q 24 (by decide), q 12 (by decide), q 13 (by decide), q 14 (by decide), q 41 (by decide), q 42 (by decide), q 43 (by decide), q 44 (by decide), q 45 (by decide)]
  exact ⟨⟨rfl, rfl, rfl, rfl, rfl, rfl⟩, ⟨rfl, rfl, rfl, rfl⟩, ⟨rfl, rfl, rfl⟩, fun _ => rfl, fun _ => rfl, fun _ => ⟨rfl, rfl, rfl, rfl, rfl, rfl⟩⟩
theorem efr_RX {c c2 : tC} (h : efr c c2) (hR : RX c) : RX c2 := by
  have e1 : c2 50 = c 50 := h.1 50 (by decide)
  show RT c2 0 (c2 50 0) (c2 51)
  rw [e1]
  exact RT_SA (fun _ _ => rfl) (efr_A h) (RT_fr (efr_same h 0) hR)
theorem m_ears_loop {z : xZ} {d : Nat} {Q : tQ} {L : tL} {n pe : Nat} {a b m : Int} {G : Nat → Bool} {c0 : tC} (hR0 : RX c0) (hn0 : c0 50 0 2 = (n : Int)) (hpe0 : c0 50 0 1 = (pe : Int)) (hm : m = ((mkN G n : Nat) : Int)) (kk : ∀ c2 : tC, efr c0 c2 → (∀ p, p < pe → c2 51 64 p = ((mkN (fun s => fHear (c0 51) p s (c0 51 14 p) && G s) n : Nat) : Int)) → Q none c2 L) : ∀ (k i : Nat) (c : tC), i + k = pe → efr c0 c → (∀ p, p < i → c 51 64 p = ((mkN (fun s => fHear (c0 51) p s (c0 51 14 p) && G s) n : Nat) : Int)) → En z (d + 5) MX11_ears Q 10 [some (.ref (xad z 50 0)), some (.int (iI a)), some (.int (iI b)), some (.int (iI m)), some (.int (iI (i : Int)))] [] c L := by
  intro k
  induction k with
  | zero =>
    intro i c hi hk hE
    have hR := efr_RX hk hR0
    have e50 : c 50 = c0 50 := hk.1 50 (by decide)
    have hg := R0_rng hR
    rw [← e50] at hpe0 hn0
    refine r_iload 12 dX11_ears_10 rfl rfl ?_
    refine r_aloadN 13 dX11_ears_12 rfl rfl ?_
    refine r_geti 16 dX11_ears_13 rfl fX11_171 (by decide) (sh_50 z _) rfl ?_
    refine r_icge 46 19 dX11_ears_16 rfl (by decide) (by omega) (by omega) (fun h16 => ?_) (fun h16 => ?_)
    · exact r_vret dX11_ears_46 rfl (kk c hk (fun p hp => hE p (by omega)))
    · exfalso; omega
  | succ k ih =>
    intro i c hi hk hE
    have hR := efr_RX hk hR0
    have e50 : c 50 = c0 50 := hk.1 50 (by decide)
    have hg := R0_rng hR
    have hpe := hpe0
    have hn := hn0
    rw [← e50] at hpe hn
    refine r_iload 12 dX11_ears_10 rfl rfl ?_
    refine r_aloadN 13 dX11_ears_12 rfl rfl ?_
    refine r_geti 16 dX11_ears_13 rfl fX11_171 (by decide) (sh_50 z _) rfl ?_
    refine r_icge 46 19 dX11_ears_16 rfl (by decide) (by omega) (by omega) (fun h16 => ?_) (fun h16 => ?_)
    · exfalso; omega
    · refine r_aloadN 20 dX11_ears_19 rfl rfl ?_
      refine r_getq 23 dX11_ears_20 rfl fX11_159 (by decide) (sh_50 z _) rfl ?_
      refine r_iload 25 dX11_ears_23 rfl rfl ?_
      refine r_aloadN 26 dX11_ears_25 rfl rfl ?_
      refine r_iload 28 dX11_ears_26 rfl rfl ?_
      refine r_aloadN 29 dX11_ears_28 rfl rfl ?_
      refine r_getq 32 dX11_ears_29 rfl fX11_29 (by decide) (sh_50 z _) rfl ?_
      refine r_iload 34 dX11_ears_32 rfl rfl ?_
      have hpp := R0_per hR i (by omega)
      obtain ⟨sp, hsp⟩ := Int.eq_ofNat_of_zero_le (show 0 ≤ c 51 14 i by omega)
      refine r_iald (n := 12) 35 dX11_ears_34 (i) rfl rfl (by decide) (sh_51 z _) (by decide) (by omega) (by omega) ?_
      refine r_iloadN 36 dX11_ears_35 rfl rfl ?_
      rw [hsp]
      refine r_cv3 39 dX11_ears_36 rfl gX11_331 rfl (by decide) (sh_50 z _) rfl rfl (Nat.le_of_ble_eq_true rfl) (Nat.le_of_ble_eq_true rfl) rfl ?_
      refine m_heardOf hR hn (sp := sp) (by omega) (by omega) hm (fun r36 e36 => ?_)
      refine r_iast (n := 12) 40 dX11_ears_39 (i) rfl rfl (by decide) (sh_51 z _) (by decide) (by omega) (by omega) ?_
      refine r_iinc4 43 dX11_ears_40 rfl rfl (by decide) ?_
      refine r_goto 10 dX11_ears_43 (by decide) ?_
      refine ih (i + 1) _ (by omega) (efr_cu hk) ?_
      intro p hp
      by_cases e : p = i
      · subst e
        rw [cu, if_pos ⟨rfl, rfl, rfl⟩, e36, fHear_A (efr_A hk)]
        rw [show c 51 14 p = c0 51 14 p from congrFun (hk.2 14 (by decide)) p] at hsp
        rw [hsp]
      · rw [cu, if_neg (fun q => e q.2.2)]
        exact hE p (by omega)
theorem m_ears {z : xZ} {d : Nat} {Q : tQ} {c : tC} {L : tL} {n pe : Nat} {a b : Int} (hR : RX c) (hn : c 50 0 2 = (n : Int)) (hpe : c 50 0 1 = (pe : Int)) (ha : 0 ≤ a ∧ a ≤ b ∧ b ≤ 239) (k : ∀ c2 : tC, efr c c2 → (∀ p, p < pe → c2 51 64 p = ((mkN (fun s => fHear (c 51) p s (c 51 14 p) && fSome (c 50 0) (c 51) s a (b + 1 - a).toNat) n : Nat) : Int)) → Q none c2 L) : En z (d + 6) MX11_ears Q 0 [some (.ref (xad z 50 0)), some (.int (iI a)), some (.int (iI b)), none, none] [] c L := by
  refine r_aloadN 1 dX11_ears_0 rfl rfl ?_
  refine r_iloadN 2 dX11_ears_1 rfl rfl ?_
  refine r_iloadN 3 dX11_ears_2 rfl rfl ?_
  refine r_cv2 6 dX11_ears_3 rfl gX11_328 rfl (by decide) (sh_50 z _) rfl rfl (Nat.le_of_ble_eq_true rfl) (Nat.le_of_ble_eq_true rfl) rfl ?_
  refine m_sounding hR hn ha (fun r3 e3 => ?_)
  refine r_istore3 7 dX11_ears_6 rfl rfl (by decide) ?_
  refine r_iconst 8 dX11_ears_7 rfl ?_
  refine r_istore4 10 dX11_ears_8 rfl rfl (by decide) ?_
  exact m_ears_loop hR hn hpe e3 k pe 0 c (by omega) (efr_rfl c) (fun p hp => by omega)
theorem m_ridBy_loop {z : xZ} {d : Nat} {Q : tQ} {c : tC} {L : tL} {n pe X : Nat} {A : sA} {G : Nat → Bool} (hn : n ≤ 14) (hpe : c 50 0 1 = (pe : Int)) (hpe2 : pe ≤ 12) (hX : X < 2 ^ 31) (hE : ∀ p, p < pe → c 51 64 p = ((mkN (fun s => fHear A p s (A 14 p) && G s) n : Nat) : Int)) (kk : ∀ r : Nat, r = cntN (fRid A G X n) pe → Q (some (.int (iI (r : Int)))) c L) : ∀ (k i : Nat) (e : Int), i + k = pe → e = ((cntN (fRid A G X n) i : Nat) : Int) → En z (d + 1) MX11_ridBy Q 4 [some (.ref (xad z 50 0)), some (.int (iI (X : Int))), some (.int (iI e)), some (.int (iI (i : Int)))] [] c L := by
  intro k
  induction k with
  | zero =>
    intro i e hi he
    refine r_iloadN 5 dX11_ridBy_4 rfl rfl ?_
    refine r_aloadN 6 dX11_ridBy_5 rfl rfl ?_
    refine r_geti 9 dX11_ridBy_6 rfl fX11_171 (by decide) (sh_50 z _) rfl ?_
    refine r_icge 34 12 dX11_ridBy_9 rfl (by decide) (by omega) (by omega) (fun h9 => ?_) (fun h9 => ?_)
    · refine r_iloadN 35 dX11_ridBy_34 rfl rfl ?_
      rw [he]
      refine r_ret dX11_ridBy_35 rfl (kk _ ?_)
      rw [show i = pe by omega]
    · exfalso; omega
  | succ k ih =>
    intro i e hi he
    refine r_iloadN 5 dX11_ridBy_4 rfl rfl ?_
    refine r_aloadN 6 dX11_ridBy_5 rfl rfl ?_
    refine r_geti 9 dX11_ridBy_6 rfl fX11_171 (by decide) (sh_50 z _) rfl ?_
    refine r_icge 34 12 dX11_ridBy_9 rfl (by decide) (by omega) (by omega) (fun h9 => ?_) (fun h9 => ?_)
    · exfalso; omega
    · refine r_aloadN 13 dX11_ridBy_12 rfl rfl ?_
      refine r_getq 16 dX11_ridBy_13 rfl fX11_159 (by decide) (sh_50 z _) rfl ?_
      refine r_iloadN 17 dX11_ridBy_16 rfl rfl ?_
      refine r_iald (n := 12) 18 dX11_ridBy_17 (i) rfl rfl (by decide) (sh_51 z _) (by decide) (by omega) (by omega) ?_
      refine r_iloadN 19 dX11_ridBy_18 rfl rfl ?_
      refine r_iconst 20 dX11_ridBy_19 rfl ?_
      refine r_ixor 21 dX11_ridBy_20 rfl ?_
      refine r_iand 22 dX11_ridBy_21 rfl ?_
      rw [inot_mk hn (hE i (by omega)) hX rfl]
      refine r_ifne 28 25 dX11_ridBy_22 rfl (by decide) (mk_in _ hn) (fun h22 => ?_) (fun h22 => ?_)
      · refine r_iinc3 31 dX11_ridBy_28 rfl rfl (by decide) ?_
        refine r_goto 4 dX11_ridBy_31 (by decide) ?_
        refine ih (i + 1) _ (by omega) ?_
        have hd := mk_any (f := fun s => (fHear A i s (A 14 i) && G s) && !X.testBit s) (n := n)
        rw [cntN]
        first
          | (have q : ((mkN (fun s => (fHear A i s (A 14 i) && G s) && !X.testBit s) n : Nat) : Int) = 0 := h22; rw [decide_eq_true (by omega)] at hd; rw [if_pos (show fRid A G X n i = true from hd.symm)]; omega)
          | (have q : ¬ ((mkN (fun s => (fHear A i s (A 14 i) && G s) && !X.testBit s) n : Nat) : Int) = 0 := h22; rw [decide_eq_false (by omega)] at hd; rw [if_neg (by show ¬ (!fAny (fun s => (fHear A i s (A 14 i) && G s) && !X.testBit s) n) = true; rw [← hd]; decide)]; omega)
      · refine r_iinc2 28 dX11_ridBy_25 rfl rfl (by decide) ?_
        refine r_iinc3 31 dX11_ridBy_28 rfl rfl (by decide) ?_
        refine r_goto 4 dX11_ridBy_31 (by decide) ?_
        refine ih (i + 1) _ (by omega) ?_
        have hd := mk_any (f := fun s => (fHear A i s (A 14 i) && G s) && !X.testBit s) (n := n)
        rw [cntN]
        first
          | (have q : ((mkN (fun s => (fHear A i s (A 14 i) && G s) && !X.testBit s) n : Nat) : Int) = 0 := h22; rw [decide_eq_true (by omega)] at hd; rw [if_pos (show fRid A G X n i = true from hd.symm)]; omega)
          | (have q : ¬ ((mkN (fun s => (fHear A i s (A 14 i) && G s) && !X.testBit s) n : Nat) : Int) = 0 := h22; rw [decide_eq_false (by omega)] at hd; rw [if_neg (by show ¬ (!fAny (fun s => (fHear A i s (A 14 i) && G s) && !X.testBit s) n) = true; rw [← hd]; decide)]; omega)
theorem m_ridBy {z : xZ} {d : Nat} {Q : tQ} {c : tC} {L : tL} {n pe X : Nat} {A : sA} {G : Nat → Bool} (hn : n ≤ 14) (hpe : c 50 0 1 = (pe : Int)) (hpe2 : pe ≤ 12) (hX : X < 2 ^ 31) (hE : ∀ p, p < pe → c 51 64 p = ((mkN (fun s => fHear A p s (A 14 p) && G s) n : Nat) : Int)) (k : ∀ r : Nat, r = cntN (fRid A G X n) pe → Q (some (.int (iI (r : Int)))) c L) : En z (d + 1) MX11_ridBy Q 0 [some (.ref (xad z 50 0)), some (.int (iI (X : Int))), none, none] [] c L := by
  refine r_iconst 1 dX11_ridBy_0 rfl ?_
  refine r_istore2 2 dX11_ridBy_1 rfl rfl (by decide) ?_
  refine r_iconst 3 dX11_ridBy_2 rfl ?_
  refine r_istore3 4 dX11_ridBy_3 rfl rfl (by decide) ?_
  exact m_ridBy_loop hn hpe hpe2 hX hE k pe 0 _ (by omega) rfl
