/-! the model's worth: two rows walked back together -/
def wI (c : tC) (p K : Nat) (i : Int) : Prop := -1 ≤ i ∧ i < c 50 0 3 ∧ (0 ≤ i → c 51 31 i.toNat < (K : Int)) ∧ ∀ x : Nat, i < (x : Int) → (x : Int) < c 50 0 3 → (K : Int) ≤ c 51 31 x ∨ c 51 27 x ≠ (p : Int)
def wJ (c : tC) (p K : Nat) (i : Int) : Prop := -1 ≤ i ∧ i < c 50 0 4 ∧ (0 ≤ i → c 51 34 i.toNat < (K : Int)) ∧ ∀ x : Nat, i < (x : Int) → (x : Int) < c 50 0 4 → (K : Int) ≤ c 51 34 x ∨ c 51 32 x ≠ (p : Int)
theorem wor_skip {c : tC} {p s K0 : Nat} : ∀ K, K0 ≤ K → (∀ q : Nat, K0 ≤ q → q < K → c 17 0 q ≠ (p : Int)) → ∀ l w, fWor c p s K l w = fWor c p s K0 l w := by
  intro K
  induction K with
  | zero => intro h _ l w; rw [show K0 = 0 by omega]
  | succ K ih =>
    intro h hq l w
    by_cases e : K0 = K + 1
    · rw [e]
    · rw [fWor]
      by_cases hl : l = 0
      · rw [if_pos hl, hl, fWor_zero]
      · rw [if_neg hl, if_neg (hq K (by omega) (by omega))]
        exact ih (by omega) (fun q h1 h2 => hq q h1 (by omega)) l w
theorem wI_dn {c : tC} (hR : RX c) {p K k : Nat} (h : wI c p K (k : Int)) (hp : c 51 27 k ≠ (p : Int)) : wI c p K ((k : Int) - 1) := by
  obtain ⟨h1, h2, h3, h4⟩ := h
  refine ⟨by omega, by omega, fun h0 => ?_, fun x hx hxs => ?_⟩
  · have a := R0_pmon hR (k - 1) k (by omega) h2
    have b := h3 (by omega)
    rw [Int.toNat_natCast] at b
    rw [show ((k : Int) - 1).toNat = k - 1 by omega]
    omega
  · by_cases e : x = k
    · right; rw [e]; exact hp
    · exact h4 x (by omega) hxs
theorem wJ_dn {c : tC} (hR : RX c) {p K k : Nat} (h : wJ c p K (k : Int)) (hp : c 51 32 k ≠ (p : Int)) : wJ c p K ((k : Int) - 1) := by
  obtain ⟨h1, h2, h3, h4⟩ := h
  refine ⟨by omega, by omega, fun h0 => ?_, fun x hx hxs => ?_⟩
  · have a := R0_mmon hR (k - 1) k (by omega) h2
    have b := h3 (by omega)
    rw [Int.toNat_natCast] at b
    rw [show ((k : Int) - 1).toNat = k - 1 by omega]
    omega
  · by_cases e : x = k
    · right; rw [e]; exact hp
    · exact h4 x (by omega) hxs
theorem wI_low {c : tC} (hR : RX c) {p K : Nat} {i : Int} (h : wI c p K i) {q : Int} (h0 : 0 ≤ i → c 51 31 i.toNat < q) (hq : q ≤ (K : Int)) {x : Nat} (hxs : (x : Int) < c 50 0 3) (hx : q ≤ c 51 31 x) (hxK : c 51 31 x < (K : Int)) : c 51 27 x ≠ (p : Int) := by
  obtain ⟨h1, h2, h3, h4⟩ := h
  by_cases e : i < (x : Int)
  · rcases h4 x e hxs with a | a
    · omega
    · exact a
  · exfalso
    have a := h0 (by omega)
    by_cases e2 : x = i.toNat
    · rw [e2] at hx; omega
    · have b := R0_pmon hR x i.toNat (by omega) (by omega)
      omega
theorem wJ_low {c : tC} (hR : RX c) {p K : Nat} {i : Int} (h : wJ c p K i) {q : Int} (h0 : 0 ≤ i → c 51 34 i.toNat < q) (hq : q ≤ (K : Int)) {x : Nat} (hxs : (x : Int) < c 50 0 4) (hx : q ≤ c 51 34 x) (hxK : c 51 34 x < (K : Int)) : c 51 32 x ≠ (p : Int) := by
  obtain ⟨h1, h2, h3, h4⟩ := h
  by_cases e : i < (x : Int)
  · rcases h4 x e hxs with a | a
    · omega
    · exact a
  · exfalso
    have a := h0 (by omega)
    by_cases e2 : x = i.toNat
    · rw [e2] at hx; omega
    · have b := R0_mmon hR x i.toNat (by omega) (by omega)
      omega
/-- between K0 and K nobody is p -/
theorem wor_gap {c : tC} (hR : RX c) {p K : Nat} {K0 x y : Int} (hI : wI c p K x) (hJ : wJ c p K y) (hKs : (K : Int) ≤ c 50 0 9) (hx : 0 ≤ x → c 51 31 x.toNat < K0) (hy : 0 ≤ y → c 51 34 y.toNat < K0) (hK : K0 ≤ (K : Int)) : ∀ q : Nat, K0 ≤ (q : Int) → q < K → c 17 0 q ≠ (p : Int) := by
  intro q h1 h2
  rcases R0_came hR q (by omega) (by omega) with ⟨i, hi, e⟩ | ⟨i, hi, e⟩
  · have a := (R0_press hR i hi).1.1
    rw [e, Int.toNat_natCast] at a
    rw [a]
    exact wI_low hR hI hx hK hi (by omega) (by omega)
  · have a := (R0_match hR i hi).1.1
    rw [e, Int.toNat_natCast] at a
    rw [a]
    exact wJ_low hR hJ hy hK hi (by omega) (by omega)
theorem wor_none {c : tC} (hR : RX c) {p s K l : Nat} {x y w : Int} (hI : wI c p K x) (hJ : wJ c p K y) (hKs : (K : Int) ≤ c 50 0 9) (hx : x < 0) (hy : y < 0) : fWor c p s K l w = w := by
  rw [wor_skip (K0 := 0) K (Nat.zero_le _) (fun q h1 h2 => wor_gap hR hI hJ hKs (K0 := 0) (fun h => by omega) (fun h => by omega) (by omega) q (by omega) h2)]
  rfl
theorem wor_press {c : tC} (hR : RX c) {p s K x l : Nat} {y w : Int} (hI : wI c p K (x : Int)) (hJ : wJ c p K y) (hKs : (K : Int) ≤ c 50 0 9) (hw : c 51 27 x = (p : Int)) (hyx : 0 ≤ y → c 51 34 y.toNat < c 51 31 x) :
    wI c p (c 51 31 x).toNat ((x : Int) - 1) ∧ wJ c p (c 51 31 x).toNat y ∧ (((c 51 31 x).toNat : Nat) : Int) ≤ c 50 0 9 ∧ fWor c p s K (l + 1) w = fWor c p s (c 51 31 x).toNat l (w * fFac c p (c 51 31 x).toNat s) ∧ (fAg c p (c 51 31 x).toNat s = ((fHear (c 51) p s (c 51 29 x) && fSnd (c 50 0) (c 51) s (c 51 28 x)) == decide (c 51 30 x = 1))) := by
  have hpr := R0_press hR x hI.2.1
  have hxK := hI.2.2.1 (by omega)
  rw [Int.toNat_natCast] at hxK
  have hq : (((c 51 31 x).toNat : Nat) : Int) = c 51 31 x := by omega
  refine ⟨⟨by omega, by have := hI.2.1; omega, fun h0 => ?_, fun i hi his => ?_⟩, ⟨hJ.1, hJ.2.1, fun h0 => by have := hyx h0; omega, fun i hi his => ?_⟩, by omega, ?_, ?_⟩
  · have a := R0_pmon hR (x - 1) x (by omega) hI.2.1
    rw [show ((x : Int) - 1).toNat = x - 1 by omega]
    omega
  · left
    by_cases e : i = x
    · rw [e]; omega
    · have a := R0_pmon hR x i (by omega) his; omega
  · rcases hJ.2.2.2 i hi his with a | a
    · left; omega
    · right; exact a
  · rw [wor_skip (K0 := (c 51 31 x).toNat + 1) K (by omega) (fun q h1 h2 => wor_gap hR hI hJ hKs (K0 := c 51 31 x + 1) (fun h => by rw [Int.toNat_natCast]; omega) (fun h => by have := hyx h; omega) (by omega) q (by omega) h2)]
    rw [fWor, if_neg (Nat.succ_ne_zero l), if_pos (by rw [hpr.1.1]; exact hw)]
    rfl
  · unfold fAg
    rw [hpr.1.2.1, hpr.1.2.2.1, hpr.1.2.2.2, if_neg (by omega)]
theorem wor_match {c : tC} (hR : RX c) {p s K y l : Nat} {x w : Int} (hI : wI c p K x) (hJ : wJ c p K (y : Int)) (hKs : (K : Int) ≤ c 50 0 9) (hw : c 51 32 y = (p : Int)) (hyx : 0 ≤ x → c 51 31 x.toNat ≤ c 51 34 y) :
    wI c p (c 51 34 y).toNat x ∧ wJ c p (c 51 34 y).toNat ((y : Int) - 1) ∧ (((c 51 34 y).toNat : Nat) : Int) ≤ c 50 0 9 ∧ fWor c p s K (l + 1) w = fWor c p s (c 51 34 y).toNat l (w * fFac c p (c 51 34 y).toNat s) ∧ fAg c p (c 51 34 y).toNat s = fNear (c 51) (c 51 33 y) s := by
  have hpr := R0_match hR y hJ.2.1
  have hxK := hJ.2.2.1 (by omega)
  rw [Int.toNat_natCast] at hxK
  have hq : (((c 51 34 y).toNat : Nat) : Int) = c 51 34 y := by omega
  have hyx2 : 0 ≤ x → c 51 31 x.toNat < c 51 34 y := by
    intro h0
    have a := hyx h0
    by_cases e : c 51 31 x.toNat = c 51 34 y
    · exfalso
      have b := (R0_press hR x.toNat (by have := hI.2.1; omega))
      have b1 := b.1.2.1
      rw [e, hpr.1.2.1] at b1
      omega
    · omega
  refine ⟨⟨hI.1, hI.2.1, fun h0 => by have := hyx2 h0; omega, fun i hi his => ?_⟩, ⟨by omega, by have := hJ.2.1; omega, fun h0 => ?_, fun i hi his => ?_⟩, by omega, ?_, ?_⟩
  · rcases hI.2.2.2 i hi his with a | a
    · left; omega
    · right; exact a
  · have a := R0_mmon hR (y - 1) y (by omega) hJ.2.1
    rw [show ((y : Int) - 1).toNat = y - 1 by omega]
    omega
  · left
    by_cases e : i = y
    · rw [e]; omega
    · have a := R0_mmon hR y i (by omega) his; omega
  · rw [wor_skip (K0 := (c 51 34 y).toNat + 1) K (by omega) (fun q h1 h2 => wor_gap hR hI hJ hKs (K0 := c 51 34 y + 1) (fun h => by have := hyx2 h; omega) (fun h => by rw [Int.toNat_natCast]; omega) (by omega) q (by omega) h2)]
    rw [fWor, if_neg (Nat.succ_ne_zero l), if_pos (by rw [hpr.1.1]; exact hw)]
    rfl
  · unfold fAg
    rw [hpr.1.2.1, hpr.1.2.2, if_pos rfl]
theorem m_ws1 {z : xZ} {d : Nat} {Q : tQ} {c : tC} {L : tL} {n p s K : Nat} {w y rn : Int} {v8 : Option Value} (hR : RX c) (hn : c 50 0 2 = (n : Int)) (hs : s < n) (hp : (p : Int) < c 50 0 1) (kk : ∀ x : Int, wI c p K x → (0 ≤ x → c 51 27 x.toNat = (p : Int)) → En z (d + 6) MX11_worth Q 50 [some (.ref (xad z 50 0)), some (.int (iI (p : Int))), some (.int (iI (s : Int))), some (.long (lI w)), none, some (.int (iI x)), some (.int (iI y)), some (.int (iI rn)), v8] [] c L) : ∀ (k i : Nat) (x : Int), i = k → x = (k : Int) - 1 → wI c p K x → En z (d + 6) MX11_worth Q 28 [some (.ref (xad z 50 0)), some (.int (iI (p : Int))), some (.int (iI (s : Int))), some (.long (lI w)), none, some (.int (iI x)), some (.int (iI y)), some (.int (iI rn)), v8] [] c L := by
  have hg := R0_rng hR
  have hc := R0_scal hR
  intro k
  induction k with
  | zero =>
    intro i x hi hx hI
    refine r_iload 30 dX11_worth_28 rfl rfl ?_
    refine r_iflt 50 33 dX11_worth_30 rfl (by decide) (by have := hI.1; have := hI.2.1; omega) (fun h30 => ?_) (fun h30 => ?_)
    · exact kk _ hI (fun h => by omega)
    · exfalso; omega
  | succ k ih =>
    intro i x hi hx hI
    refine r_iload 30 dX11_worth_28 rfl rfl ?_
    refine r_iflt 50 33 dX11_worth_30 rfl (by decide) (by have := hI.1; have := hI.2.1; omega) (fun h30 => ?_) (fun h30 => ?_)
    · first
        | (exfalso; omega)
        | exact kk _ hI (fun h => h41)
    · obtain rfl : x = (k : Int) := by omega
      have hpr := R0_press hR k (by have := hI.2.1; omega)
      have hI2 := hI.2.1
      refine r_aloadN 34 dX11_worth_33 rfl rfl ?_
      refine r_getq 37 dX11_worth_34 rfl fX11_68 (by decide) (sh_50 z _) rfl ?_
      refine r_iload 39 dX11_worth_37 rfl rfl ?_
      refine r_iald (n := 60) 40 dX11_worth_39 (k) rfl rfl (by decide) (sh_51 z _) (by decide) (by omega) (by omega) ?_
      refine r_iloadN 41 dX11_worth_40 rfl rfl ?_
      refine r_iceq 50 44 dX11_worth_41 rfl (by decide) (by omega) (by omega) (fun h41 => ?_) (fun h41 => ?_)
      · first
          | (exfalso; omega)
          | exact kk _ hI (fun h => h41)
      · refine r_iinc5 47 dX11_worth_44 rfl rfl (by decide) ?_
        refine r_goto 28 dX11_worth_47 (by decide) ?_
        exact ih k _ rfl (by omega) (wI_dn hR hI h41)
theorem m_ws2 {z : xZ} {d : Nat} {Q : tQ} {c : tC} {L : tL} {n p s K : Nat} {w x rn : Int} {v8 : Option Value} (hR : RX c) (hn : c 50 0 2 = (n : Int)) (hs : s < n) (hp : (p : Int) < c 50 0 1) (kk : ∀ y : Int, wJ c p K y → (0 ≤ y → c 51 32 y.toNat = (p : Int)) → En z (d + 6) MX11_worth Q 72 [some (.ref (xad z 50 0)), some (.int (iI (p : Int))), some (.int (iI (s : Int))), some (.long (lI w)), none, some (.int (iI x)), some (.int (iI y)), some (.int (iI rn)), v8] [] c L) : ∀ (k i : Nat) (y : Int), i = k → y = (k : Int) - 1 → wJ c p K y → En z (d + 6) MX11_worth Q 50 [some (.ref (xad z 50 0)), some (.int (iI (p : Int))), some (.int (iI (s : Int))), some (.long (lI w)), none, some (.int (iI x)), some (.int (iI y)), some (.int (iI rn)), v8] [] c L := by
  have hg := R0_rng hR
  have hc := R0_scal hR
  intro k
  induction k with
  | zero =>
    intro i y hi hx hI
    refine r_iload 52 dX11_worth_50 rfl rfl ?_
    refine r_iflt 72 55 dX11_worth_52 rfl (by decide) (by have := hI.1; have := hI.2.1; omega) (fun h52 => ?_) (fun h52 => ?_)
    · exact kk _ hI (fun h => by omega)
    · exfalso; omega
  | succ k ih =>
    intro i y hi hx hI
    refine r_iload 52 dX11_worth_50 rfl rfl ?_
    refine r_iflt 72 55 dX11_worth_52 rfl (by decide) (by have := hI.1; have := hI.2.1; omega) (fun h52 => ?_) (fun h52 => ?_)
    · first
        | (exfalso; omega)
        | exact kk _ hI (fun h => h63)
    · obtain rfl : y = (k : Int) := by omega
      have hpr := R0_match hR k (by have := hI.2.1; omega)
      have hI2 := hI.2.1
      refine r_aloadN 56 dX11_worth_55 rfl rfl ?_
      refine r_getq 59 dX11_worth_56 rfl fX11_83 (by decide) (sh_50 z _) rfl ?_
      refine r_iload 61 dX11_worth_59 rfl rfl ?_
      refine r_iald (n := 20) 62 dX11_worth_61 (k) rfl rfl (by decide) (sh_51 z _) (by decide) (by omega) (by omega) ?_
      refine r_iloadN 63 dX11_worth_62 rfl rfl ?_
      refine r_iceq 72 66 dX11_worth_63 rfl (by decide) (by omega) (by omega) (fun h63 => ?_) (fun h63 => ?_)
      · first
          | (exfalso; omega)
          | exact kk _ hI (fun h => h63)
      · refine r_iinc6 69 dX11_worth_66 rfl rfl (by decide) ?_
        refine r_goto 50 dX11_worth_69 (by decide) ?_
        exact ih k _ rfl (by omega) (wJ_dn hR hI h63)
theorem m_worth_loop {z : xZ} {d : Nat} {Q : tQ} {c : tC} {L : tL} {n p s : Nat} (hR : RX c) (hn : c 50 0 2 = (n : Int)) (hs : s < n) (hp : (p : Int) < c 50 0 1) (kk : ∀ r, r = fWor c p s (c 50 0 9).toNat 16 1 → Q (some (.long (lI r))) c L) : ∀ (k i : Nat) (K : Nat) (w x y : Int) (v8 : Option Value), i + k = 16 → wI c p K x → wJ c p K y → (K : Int) ≤ c 50 0 9 → fWor c p s K k w = fWor c p s (c 50 0 9).toNat 16 1 → En z (d + 6) MX11_worth Q 21 [some (.ref (xad z 50 0)), some (.int (iI (p : Int))), some (.int (iI (s : Int))), some (.long (lI w)), none, some (.int (iI x)), some (.int (iI y)), some (.int (iI (i : Int))), v8] [] c L := by
  have hg := R0_rng hR
  have hc := R0_scal hR
  have hq := R0_src hR s (by omega)
  have hlw := R0_law hR
  intro k
  induction k with
  | zero =>
    intro i K w x y v8 hi hI hJ hK hT
    refine r_iload 23 dX11_worth_21 rfl rfl ?_
    refine r_bipush 25 dX11_worth_23 rfl (by decide) ?_
    refine r_icge 231 28 dX11_worth_25 rfl (by decide) (by omega) (by omega) (fun h25 => ?_) (fun h25 => ?_)
    · refine r_lloadN 232 dX11_worth_231 rfl rfl ?_
      refine r_lret dX11_worth_232 rfl (kk _ ?_)
      rw [← hT, fWor_zero]
    · exfalso; omega
  | succ k ih =>
    intro i K w x y v8 hi hI hJ hK hT
    refine r_iload 23 dX11_worth_21 rfl rfl ?_
    refine r_bipush 25 dX11_worth_23 rfl (by decide) ?_
    refine r_icge 231 28 dX11_worth_25 rfl (by decide) (by omega) (by omega) (fun h25 => ?_) (fun h25 => ?_)
    · exfalso; omega
    · refine m_ws1 hR hn hs hp (K := K) (fun x1 hI1 hx1 => ?_) (x + 1).toNat (x + 1).toNat x rfl (by have := hI.1; omega) hI
      refine m_ws2 hR hn hs hp (K := K) (fun y1 hJ1 hy1 => ?_) (y + 1).toNat (y + 1).toNat y rfl (by have := hJ.1; omega) hJ
      have b1 := hI1.1
      have b2 := hI1.2.1
      have b3 := hJ1.1
      have b4 := hJ1.2.1
      refine r_iload 74 dX11_worth_72 rfl rfl ?_
      refine r_ifge 85 77 dX11_worth_74 rfl (by decide) (by omega) (fun h74 => ?_) (fun h74 => ?_)
      · refine r_iload 87 dX11_worth_85 rfl rfl ?_
        refine r_iflt 112 90 dX11_worth_87 rfl (by decide) (by omega) (fun h87 => ?_) (fun h87 => ?_)
        · obtain ⟨x0, hx0⟩ := Int.eq_ofNat_of_zero_le (show 0 ≤ x1 by omega)
          subst hx0
          have hpr := R0_press hR x0 (by omega)
          obtain ⟨sp, hsp⟩ := Int.eq_ofNat_of_zero_le (show 0 ≤ c 51 29 x0 by omega)
          have hyx : 0 ≤ y1 → c 51 34 y1.toNat < c 51 31 x0 := fun q => by first | (exfalso; omega) | exact h109
          obtain ⟨g1, g2, g3, g4, g5⟩ := wor_press (s := s) (l := k) (w := w) hR hI1 hJ1 hK (by have := hx1 (by omega); rw [Int.toNat_natCast] at this; exact this) hyx
          refine r_aloadN 113 dX11_worth_112 rfl rfl ?_
          refine r_iloadN 114 dX11_worth_113 rfl rfl ?_
          refine r_iloadN 115 dX11_worth_114 rfl rfl ?_
          refine r_aloadN 116 dX11_worth_115 rfl rfl ?_
          refine r_getq 119 dX11_worth_116 rfl fX11_74 (by decide) (sh_50 z _) rfl ?_
          refine r_iload 121 dX11_worth_119 rfl rfl ?_
          refine r_iald (n := 60) 122 dX11_worth_121 (x0) rfl rfl (by decide) (sh_51 z _) (by decide) (by omega) (by omega) ?_
          refine r_aloadN 123 dX11_worth_122 rfl rfl ?_
          refine r_getq 126 dX11_worth_123 rfl fX11_71 (by decide) (sh_50 z _) rfl ?_
          refine r_iload 128 dX11_worth_126 rfl rfl ?_
          refine r_iald (n := 60) 129 dX11_worth_128 (x0) rfl rfl (by decide) (sh_51 z _) (by decide) (by omega) (by omega) ?_
          rw [hsp]
          refine r_cv4 132 dX11_worth_129 rfl gX11_295 rfl (by decide) (sh_50 z _) rfl rfl (Nat.le_of_ble_eq_true rfl) (Nat.le_of_ble_eq_true rfl) rfl ?_
          refine m_isHearing hR hn hs (sp := sp) (by omega) hp (by omega) (fun y129 => ?_) (fun y129 => ?_)
          · refine r_aloadN 133 dX11_worth_132 rfl rfl ?_
            refine r_getq 136 dX11_worth_133 rfl fX11_77 (by decide) (sh_50 z _) rfl ?_
            refine r_iload 138 dX11_worth_136 rfl rfl ?_
            refine r_iald (n := 60) 139 dX11_worth_138 (x0) rfl rfl (by decide) (sh_51 z _) (by decide) (by omega) (by omega) ?_
            refine r_iconst 140 dX11_worth_139 rfl ?_
            refine r_icne 147 143 dX11_worth_140 rfl (by decide) (by omega) (by omega) (fun h140 => ?_) (fun h140 => ?_)
            · refine r_iconst 148 dX11_worth_147 rfl ?_
              refine r_icne 155 151 dX11_worth_148 rfl (by decide) (by omega) (by omega) (fun h148 => ?_) (fun h148 => ?_)
              · refine r_iconst 156 dX11_worth_155 rfl ?_
                refine r_istore8 158 dX11_worth_156 rfl rfl (by decide) ?_
                refine r_iinc5 161 dX11_worth_158 rfl rfl (by decide) ?_
                refine r_goto 200 dX11_worth_161 (by decide) ?_
                refine r_lloadN 201 dX11_worth_200 rfl rfl ?_
                refine r_iload 203 dX11_worth_201 rfl rfl ?_
                refine r_ifeqT 216 0 dX11_worth_203 (by decide) (by decide) (by decide) ?_
                refine r_aloadN 217 dX11_worth_216 rfl rfl ?_
                refine r_getq 220 dX11_worth_217 rfl fX11_20 (by decide) (sh_50 z _) rfl ?_
                refine r_iconst 221 dX11_worth_220 rfl ?_
                refine r_iald (n := 6) 222 dX11_worth_221 (3) rfl rfl (by decide) (sh_51 z _) (by decide) (by omega) (by omega) ?_
                refine r_i2l 223 dX11_worth_222 rfl (by omega) ?_
                refine r_lmul 224 dX11_worth_223 rfl ?_
                refine r_lstore3 225 dX11_worth_224 rfl rfl (by decide) ?_
                refine r_iinc7 228 dX11_worth_225 rfl rfl (by decide) ?_
                refine r_goto 21 dX11_worth_228 (by decide) ?_
                first
                  | (exfalso; omega)
                  | (refine ih (i + 1) _ _ _ _ _ (by omega) g1 g2 g3 ?_
                     rw [← hT, g4]
                     congr 1
                     unfold fFac
                     rw [g5, hsp]
                     first
                       | (rw [y129, decide_eq_true (show c 51 30 x0 = 1 by omega)]; rfl)
                       | (rw [y129, decide_eq_false (show ¬ c 51 30 x0 = 1 by omega)]; rfl))
                  | (refine ih (i + 1) _ _ _ _ _ (by omega) g1 g2 g3 ?_
                     rw [← hT, g4]
                     congr 1
                     unfold fFac
                     rw [g5]
                     unfold fNear
                     first
                       | (rw [if_pos (decide_eq_true (show max (c 51 33 y0 - c 51 21 s) (c 51 21 s - c 51 33 y0) ≤ c 51 11 4 by omega))]; done)
                       | (rw [if_neg (fun q => absurd (of_decide_eq_true q) (show ¬ max (c 51 33 y0 - c 51 21 s) (c 51 21 s - c 51 33 y0) ≤ c 51 11 4 by omega))]; done))
              · refine r_iconst 152 dX11_worth_151 rfl ?_
                refine r_goto 156 dX11_worth_152 (by decide) ?_
                refine r_istore8 158 dX11_worth_156 rfl rfl (by decide) ?_
                refine r_iinc5 161 dX11_worth_158 rfl rfl (by decide) ?_
                refine r_goto 200 dX11_worth_161 (by decide) ?_
                refine r_lloadN 201 dX11_worth_200 rfl rfl ?_
                refine r_iload 203 dX11_worth_201 rfl rfl ?_
                refine r_ifeqF 206 dX11_worth_203 rfl 216 (by decide) (by decide) (by decide) ?_
                refine r_aloadN 207 dX11_worth_206 rfl rfl ?_
                refine r_getq 210 dX11_worth_207 rfl fX11_20 (by decide) (sh_50 z _) rfl ?_
                refine r_iconst 211 dX11_worth_210 rfl ?_
                refine r_iald (n := 6) 212 dX11_worth_211 (2) rfl rfl (by decide) (sh_51 z _) (by decide) (by omega) (by omega) ?_
                refine r_i2l 213 dX11_worth_212 rfl (by omega) ?_
                refine r_goto 223 dX11_worth_213 (by decide) ?_
                refine r_lmul 224 dX11_worth_223 rfl ?_
                refine r_lstore3 225 dX11_worth_224 rfl rfl (by decide) ?_
                refine r_iinc7 228 dX11_worth_225 rfl rfl (by decide) ?_
                refine r_goto 21 dX11_worth_228 (by decide) ?_
                first
                  | (exfalso; omega)
                  | (refine ih (i + 1) _ _ _ _ _ (by omega) g1 g2 g3 ?_
                     rw [← hT, g4]
                     congr 1
                     unfold fFac
                     rw [g5, hsp]
                     first
                       | (rw [y129, decide_eq_true (show c 51 30 x0 = 1 by omega)]; rfl)
                       | (rw [y129, decide_eq_false (show ¬ c 51 30 x0 = 1 by omega)]; rfl))
                  | (refine ih (i + 1) _ _ _ _ _ (by omega) g1 g2 g3 ?_
                     rw [← hT, g4]
                     congr 1
                     unfold fFac
                     rw [g5]
                     unfold fNear
                     first
                       | (rw [if_pos (decide_eq_true (show max (c 51 33 y0 - c 51 21 s) (c 51 21 s - c 51 33 y0) ≤ c 51 11 4 by omega))]; done)
                       | (rw [if_neg (fun q => absurd (of_decide_eq_true q) (show ¬ max (c 51 33 y0 - c 51 21 s) (c 51 21 s - c 51 33 y0) ≤ c 51 11 4 by omega))]; done))
            · refine r_iconst 144 dX11_worth_143 rfl ?_
              refine r_goto 148 dX11_worth_144 (by decide) ?_
              refine r_icne 155 151 dX11_worth_148 rfl (by decide) (by omega) (by omega) (fun h148 => ?_) (fun h148 => ?_)
              · refine r_iconst 156 dX11_worth_155 rfl ?_
                refine r_istore8 158 dX11_worth_156 rfl rfl (by decide) ?_
                refine r_iinc5 161 dX11_worth_158 rfl rfl (by decide) ?_
                refine r_goto 200 dX11_worth_161 (by decide) ?_
                refine r_lloadN 201 dX11_worth_200 rfl rfl ?_
                refine r_iload 203 dX11_worth_201 rfl rfl ?_
                refine r_ifeqT 216 0 dX11_worth_203 (by decide) (by decide) (by decide) ?_
                refine r_aloadN 217 dX11_worth_216 rfl rfl ?_
                refine r_getq 220 dX11_worth_217 rfl fX11_20 (by decide) (sh_50 z _) rfl ?_
                refine r_iconst 221 dX11_worth_220 rfl ?_
                refine r_iald (n := 6) 222 dX11_worth_221 (3) rfl rfl (by decide) (sh_51 z _) (by decide) (by omega) (by omega) ?_
                refine r_i2l 223 dX11_worth_222 rfl (by omega) ?_
                refine r_lmul 224 dX11_worth_223 rfl ?_
                refine r_lstore3 225 dX11_worth_224 rfl rfl (by decide) ?_
                refine r_iinc7 228 dX11_worth_225 rfl rfl (by decide) ?_
                refine r_goto 21 dX11_worth_228 (by decide) ?_
                first
                  | (exfalso; omega)
                  | (refine ih (i + 1) _ _ _ _ _ (by omega) g1 g2 g3 ?_
                     rw [← hT, g4]
                     congr 1
                     unfold fFac
                     rw [g5, hsp]
                     first
                       | (rw [y129, decide_eq_true (show c 51 30 x0 = 1 by omega)]; rfl)
                       | (rw [y129, decide_eq_false (show ¬ c 51 30 x0 = 1 by omega)]; rfl))
                  | (refine ih (i + 1) _ _ _ _ _ (by omega) g1 g2 g3 ?_
                     rw [← hT, g4]
                     congr 1
                     unfold fFac
                     rw [g5]
                     unfold fNear
                     first
                       | (rw [if_pos (decide_eq_true (show max (c 51 33 y0 - c 51 21 s) (c 51 21 s - c 51 33 y0) ≤ c 51 11 4 by omega))]; done)
                       | (rw [if_neg (fun q => absurd (of_decide_eq_true q) (show ¬ max (c 51 33 y0 - c 51 21 s) (c 51 21 s - c 51 33 y0) ≤ c 51 11 4 by omega))]; done))
              · refine r_iconst 152 dX11_worth_151 rfl ?_
                refine r_goto 156 dX11_worth_152 (by decide) ?_
                refine r_istore8 158 dX11_worth_156 rfl rfl (by decide) ?_
                refine r_iinc5 161 dX11_worth_158 rfl rfl (by decide) ?_
                refine r_goto 200 dX11_worth_161 (by decide) ?_
                refine r_lloadN 201 dX11_worth_200 rfl rfl ?_
                refine r_iload 203 dX11_worth_201 rfl rfl ?_
                refine r_ifeqF 206 dX11_worth_203 rfl 216 (by decide) (by decide) (by decide) ?_
                refine r_aloadN 207 dX11_worth_206 rfl rfl ?_
                refine r_getq 210 dX11_worth_207 rfl fX11_20 (by decide) (sh_50 z _) rfl ?_
                refine r_iconst 211 dX11_worth_210 rfl ?_
                refine r_iald (n := 6) 212 dX11_worth_211 (2) rfl rfl (by decide) (sh_51 z _) (by decide) (by omega) (by omega) ?_
                refine r_i2l 213 dX11_worth_212 rfl (by omega) ?_
                refine r_goto 223 dX11_worth_213 (by decide) ?_
                refine r_lmul 224 dX11_worth_223 rfl ?_
                refine r_lstore3 225 dX11_worth_224 rfl rfl (by decide) ?_
                refine r_iinc7 228 dX11_worth_225 rfl rfl (by decide) ?_
                refine r_goto 21 dX11_worth_228 (by decide) ?_
                first
                  | (exfalso; omega)
                  | (refine ih (i + 1) _ _ _ _ _ (by omega) g1 g2 g3 ?_
                     rw [← hT, g4]
                     congr 1
                     unfold fFac
                     rw [g5, hsp]
                     first
                       | (rw [y129, decide_eq_true (show c 51 30 x0 = 1 by omega)]; rfl)
                       | (rw [y129, decide_eq_false (show ¬ c 51 30 x0 = 1 by omega)]; rfl))
                  | (refine ih (i + 1) _ _ _ _ _ (by omega) g1 g2 g3 ?_
                     rw [← hT, g4]
                     congr 1
                     unfold fFac
                     rw [g5]
                     unfold fNear
                     first
                       | (rw [if_pos (decide_eq_true (show max (c 51 33 y0 - c 51 21 s) (c 51 21 s - c 51 33 y0) ≤ c 51 11 4 by omega))]; done)
                       | (rw [if_neg (fun q => absurd (of_decide_eq_true q) (show ¬ max (c 51 33 y0 - c 51 21 s) (c 51 21 s - c 51 33 y0) ≤ c 51 11 4 by omega))]; done))
          · refine r_aloadN 133 dX11_worth_132 rfl rfl ?_
            refine r_getq 136 dX11_worth_133 rfl fX11_77 (by decide) (sh_50 z _) rfl ?_
            refine r_iload 138 dX11_worth_136 rfl rfl ?_
            refine r_iald (n := 60) 139 dX11_worth_138 (x0) rfl rfl (by decide) (sh_51 z _) (by decide) (by omega) (by omega) ?_
            refine r_iconst 140 dX11_worth_139 rfl ?_
            refine r_icne 147 143 dX11_worth_140 rfl (by decide) (by omega) (by omega) (fun h140 => ?_) (fun h140 => ?_)
            · refine r_iconst 148 dX11_worth_147 rfl ?_
              refine r_icne 155 151 dX11_worth_148 rfl (by decide) (by omega) (by omega) (fun h148 => ?_) (fun h148 => ?_)
              · refine r_iconst 156 dX11_worth_155 rfl ?_
                refine r_istore8 158 dX11_worth_156 rfl rfl (by decide) ?_
                refine r_iinc5 161 dX11_worth_158 rfl rfl (by decide) ?_
                refine r_goto 200 dX11_worth_161 (by decide) ?_
                refine r_lloadN 201 dX11_worth_200 rfl rfl ?_
                refine r_iload 203 dX11_worth_201 rfl rfl ?_
                refine r_ifeqT 216 0 dX11_worth_203 (by decide) (by decide) (by decide) ?_
                refine r_aloadN 217 dX11_worth_216 rfl rfl ?_
                refine r_getq 220 dX11_worth_217 rfl fX11_20 (by decide) (sh_50 z _) rfl ?_
                refine r_iconst 221 dX11_worth_220 rfl ?_
                refine r_iald (n := 6) 222 dX11_worth_221 (3) rfl rfl (by decide) (sh_51 z _) (by decide) (by omega) (by omega) ?_
                refine r_i2l 223 dX11_worth_222 rfl (by omega) ?_
                refine r_lmul 224 dX11_worth_223 rfl ?_
                refine r_lstore3 225 dX11_worth_224 rfl rfl (by decide) ?_
                refine r_iinc7 228 dX11_worth_225 rfl rfl (by decide) ?_
                refine r_goto 21 dX11_worth_228 (by decide) ?_
                first
                  | (exfalso; omega)
                  | (refine ih (i + 1) _ _ _ _ _ (by omega) g1 g2 g3 ?_
                     rw [← hT, g4]
                     congr 1
                     unfold fFac
                     rw [g5, hsp]
                     first
                       | (rw [y129, decide_eq_true (show c 51 30 x0 = 1 by omega)]; rfl)
                       | (rw [y129, decide_eq_false (show ¬ c 51 30 x0 = 1 by omega)]; rfl))
                  | (refine ih (i + 1) _ _ _ _ _ (by omega) g1 g2 g3 ?_
                     rw [← hT, g4]
                     congr 1
                     unfold fFac
                     rw [g5]
                     unfold fNear
                     first
                       | (rw [if_pos (decide_eq_true (show max (c 51 33 y0 - c 51 21 s) (c 51 21 s - c 51 33 y0) ≤ c 51 11 4 by omega))]; done)
                       | (rw [if_neg (fun q => absurd (of_decide_eq_true q) (show ¬ max (c 51 33 y0 - c 51 21 s) (c 51 21 s - c 51 33 y0) ≤ c 51 11 4 by omega))]; done))
              · refine r_iconst 152 dX11_worth_151 rfl ?_
                refine r_goto 156 dX11_worth_152 (by decide) ?_
                refine r_istore8 158 dX11_worth_156 rfl rfl (by decide) ?_
                refine r_iinc5 161 dX11_worth_158 rfl rfl (by decide) ?_
                refine r_goto 200 dX11_worth_161 (by decide) ?_
                refine r_lloadN 201 dX11_worth_200 rfl rfl ?_
                refine r_iload 203 dX11_worth_201 rfl rfl ?_
                refine r_ifeqF 206 dX11_worth_203 rfl 216 (by decide) (by decide) (by decide) ?_
                refine r_aloadN 207 dX11_worth_206 rfl rfl ?_
                refine r_getq 210 dX11_worth_207 rfl fX11_20 (by decide) (sh_50 z _) rfl ?_
                refine r_iconst 211 dX11_worth_210 rfl ?_
                refine r_iald (n := 6) 212 dX11_worth_211 (2) rfl rfl (by decide) (sh_51 z _) (by decide) (by omega) (by omega) ?_
                refine r_i2l 213 dX11_worth_212 rfl (by omega) ?_
                refine r_goto 223 dX11_worth_213 (by decide) ?_
                refine r_lmul 224 dX11_worth_223 rfl ?_
                refine r_lstore3 225 dX11_worth_224 rfl rfl (by decide) ?_
                refine r_iinc7 228 dX11_worth_225 rfl rfl (by decide) ?_
                refine r_goto 21 dX11_worth_228 (by decide) ?_
                first
                  | (exfalso; omega)
                  | (refine ih (i + 1) _ _ _ _ _ (by omega) g1 g2 g3 ?_
                     rw [← hT, g4]
                     congr 1
                     unfold fFac
                     rw [g5, hsp]
                     first
                       | (rw [y129, decide_eq_true (show c 51 30 x0 = 1 by omega)]; rfl)
                       | (rw [y129, decide_eq_false (show ¬ c 51 30 x0 = 1 by omega)]; rfl))
                  | (refine ih (i + 1) _ _ _ _ _ (by omega) g1 g2 g3 ?_
                     rw [← hT, g4]
                     congr 1
                     unfold fFac
                     rw [g5]
                     unfold fNear
                     first
                       | (rw [if_pos (decide_eq_true (show max (c 51 33 y0 - c 51 21 s) (c 51 21 s - c 51 33 y0) ≤ c 51 11 4 by omega))]; done)
                       | (rw [if_neg (fun q => absurd (of_decide_eq_true q) (show ¬ max (c 51 33 y0 - c 51 21 s) (c 51 21 s - c 51 33 y0) ≤ c 51 11 4 by omega))]; done))
            · refine r_iconst 144 dX11_worth_143 rfl ?_
              refine r_goto 148 dX11_worth_144 (by decide) ?_
              refine r_icne 155 151 dX11_worth_148 rfl (by decide) (by omega) (by omega) (fun h148 => ?_) (fun h148 => ?_)
              · refine r_iconst 156 dX11_worth_155 rfl ?_
                refine r_istore8 158 dX11_worth_156 rfl rfl (by decide) ?_
                refine r_iinc5 161 dX11_worth_158 rfl rfl (by decide) ?_
                refine r_goto 200 dX11_worth_161 (by decide) ?_
                refine r_lloadN 201 dX11_worth_200 rfl rfl ?_
                refine r_iload 203 dX11_worth_201 rfl rfl ?_
                refine r_ifeqT 216 0 dX11_worth_203 (by decide) (by decide) (by decide) ?_
                refine r_aloadN 217 dX11_worth_216 rfl rfl ?_
                refine r_getq 220 dX11_worth_217 rfl fX11_20 (by decide) (sh_50 z _) rfl ?_
                refine r_iconst 221 dX11_worth_220 rfl ?_
                refine r_iald (n := 6) 222 dX11_worth_221 (3) rfl rfl (by decide) (sh_51 z _) (by decide) (by omega) (by omega) ?_
                refine r_i2l 223 dX11_worth_222 rfl (by omega) ?_
                refine r_lmul 224 dX11_worth_223 rfl ?_
                refine r_lstore3 225 dX11_worth_224 rfl rfl (by decide) ?_
                refine r_iinc7 228 dX11_worth_225 rfl rfl (by decide) ?_
                refine r_goto 21 dX11_worth_228 (by decide) ?_
                first
                  | (exfalso; omega)
                  | (refine ih (i + 1) _ _ _ _ _ (by omega) g1 g2 g3 ?_
                     rw [← hT, g4]
                     congr 1
                     unfold fFac
                     rw [g5, hsp]
                     first
                       | (rw [y129, decide_eq_true (show c 51 30 x0 = 1 by omega)]; rfl)
                       | (rw [y129, decide_eq_false (show ¬ c 51 30 x0 = 1 by omega)]; rfl))
                  | (refine ih (i + 1) _ _ _ _ _ (by omega) g1 g2 g3 ?_
                     rw [← hT, g4]
                     congr 1
                     unfold fFac
                     rw [g5]
                     unfold fNear
                     first
                       | (rw [if_pos (decide_eq_true (show max (c 51 33 y0 - c 51 21 s) (c 51 21 s - c 51 33 y0) ≤ c 51 11 4 by omega))]; done)
                       | (rw [if_neg (fun q => absurd (of_decide_eq_true q) (show ¬ max (c 51 33 y0 - c 51 21 s) (c 51 21 s - c 51 33 y0) ≤ c 51 11 4 by omega))]; done))
              · refine r_iconst 152 dX11_worth_151 rfl ?_
                refine r_goto 156 dX11_worth_152 (by decide) ?_
                refine r_istore8 158 dX11_worth_156 rfl rfl (by decide) ?_
                refine r_iinc5 161 dX11_worth_158 rfl rfl (by decide) ?_
                refine r_goto 200 dX11_worth_161 (by decide) ?_
                refine r_lloadN 201 dX11_worth_200 rfl rfl ?_
                refine r_iload 203 dX11_worth_201 rfl rfl ?_
                refine r_ifeqF 206 dX11_worth_203 rfl 216 (by decide) (by decide) (by decide) ?_
                refine r_aloadN 207 dX11_worth_206 rfl rfl ?_
                refine r_getq 210 dX11_worth_207 rfl fX11_20 (by decide) (sh_50 z _) rfl ?_
                refine r_iconst 211 dX11_worth_210 rfl ?_
                refine r_iald (n := 6) 212 dX11_worth_211 (2) rfl rfl (by decide) (sh_51 z _) (by decide) (by omega) (by omega) ?_
                refine r_i2l 213 dX11_worth_212 rfl (by omega) ?_
                refine r_goto 223 dX11_worth_213 (by decide) ?_
                refine r_lmul 224 dX11_worth_223 rfl ?_
                refine r_lstore3 225 dX11_worth_224 rfl rfl (by decide) ?_
                refine r_iinc7 228 dX11_worth_225 rfl rfl (by decide) ?_
                refine r_goto 21 dX11_worth_228 (by decide) ?_
                first
                  | (exfalso; omega)
                  | (refine ih (i + 1) _ _ _ _ _ (by omega) g1 g2 g3 ?_
                     rw [← hT, g4]
                     congr 1
                     unfold fFac
                     rw [g5, hsp]
                     first
                       | (rw [y129, decide_eq_true (show c 51 30 x0 = 1 by omega)]; rfl)
                       | (rw [y129, decide_eq_false (show ¬ c 51 30 x0 = 1 by omega)]; rfl))
                  | (refine ih (i + 1) _ _ _ _ _ (by omega) g1 g2 g3 ?_
                     rw [← hT, g4]
                     congr 1
                     unfold fFac
                     rw [g5]
                     unfold fNear
                     first
                       | (rw [if_pos (decide_eq_true (show max (c 51 33 y0 - c 51 21 s) (c 51 21 s - c 51 33 y0) ≤ c 51 11 4 by omega))]; done)
                       | (rw [if_neg (fun q => absurd (of_decide_eq_true q) (show ¬ max (c 51 33 y0 - c 51 21 s) (c 51 21 s - c 51 33 y0) ≤ c 51 11 4 by omega))]; done))
        · refine r_iload 92 dX11_worth_90 rfl rfl ?_
          refine r_iflt 164 95 dX11_worth_92 rfl (by decide) (by omega) (fun h92 => ?_) (fun h92 => ?_)
          · obtain ⟨y0, hy0⟩ := Int.eq_ofNat_of_zero_le (show 0 ≤ y1 by omega)
            subst hy0
            have hpr := R0_match hR y0 (by omega)
            have hyx : 0 ≤ x1 → c 51 31 x1.toNat ≤ c 51 34 y0 := fun q => by first | (exfalso; omega) | exact h109
            obtain ⟨g1, g2, g3, g4, g5⟩ := wor_match (s := s) (l := k) (w := w) hR hI1 hJ1 hK (by have := hy1 (by omega); rw [Int.toNat_natCast] at this; exact this) hyx
            refine r_aloadN 165 dX11_worth_164 rfl rfl ?_
            refine r_aloadN 166 dX11_worth_165 rfl rfl ?_
            refine r_getq 169 dX11_worth_166 rfl fX11_86 (by decide) (sh_50 z _) rfl ?_
            refine r_iload 171 dX11_worth_169 rfl rfl ?_
            refine r_iald (n := 20) 172 dX11_worth_171 (y0) rfl rfl (by decide) (sh_51 z _) (by decide) (by omega) (by omega) ?_
            refine r_aloadN 173 dX11_worth_172 rfl rfl ?_
            refine r_getq 176 dX11_worth_173 rfl fX11_50 (by decide) (sh_50 z _) rfl ?_
            refine r_iloadN 177 dX11_worth_176 rfl rfl ?_
            refine r_iald (n := 14) 178 dX11_worth_177 (s) rfl rfl (by decide) (sh_51 z _) (by decide) (by omega) (by omega) ?_
            refine r_cv2 181 dX11_worth_178 rfl gX11_266 rfl (by decide) (sh_50 z _) rfl rfl (Nat.le_of_ble_eq_true rfl) (Nat.le_of_ble_eq_true rfl) rfl ?_
            refine m_apart (by omega) (by omega) (fun r178 e178 => ?_)
            refine r_aloadN 182 dX11_worth_181 rfl rfl ?_
            refine r_getq 185 dX11_worth_182 rfl fX11_20 (by decide) (sh_50 z _) rfl ?_
            refine r_iconst 186 dX11_worth_185 rfl ?_
            refine r_iald (n := 6) 187 dX11_worth_186 (4) rfl rfl (by decide) (sh_51 z _) (by decide) (by omega) (by omega) ?_
            refine r_icgt 194 190 dX11_worth_187 rfl (by decide) (by omega) (by omega) (fun h187 => ?_) (fun h187 => ?_)
            · refine r_iconst 195 dX11_worth_194 rfl ?_
              refine r_istore8 197 dX11_worth_195 rfl rfl (by decide) ?_
              refine r_iinc6 200 dX11_worth_197 rfl rfl (by decide) ?_
              refine r_lloadN 201 dX11_worth_200 rfl rfl ?_
              refine r_iload 203 dX11_worth_201 rfl rfl ?_
              refine r_ifeqT 216 0 dX11_worth_203 (by decide) (by decide) (by decide) ?_
              refine r_aloadN 217 dX11_worth_216 rfl rfl ?_
              refine r_getq 220 dX11_worth_217 rfl fX11_20 (by decide) (sh_50 z _) rfl ?_
              refine r_iconst 221 dX11_worth_220 rfl ?_
              refine r_iald (n := 6) 222 dX11_worth_221 (3) rfl rfl (by decide) (sh_51 z _) (by decide) (by omega) (by omega) ?_
              refine r_i2l 223 dX11_worth_222 rfl (by omega) ?_
              refine r_lmul 224 dX11_worth_223 rfl ?_
              refine r_lstore3 225 dX11_worth_224 rfl rfl (by decide) ?_
              refine r_iinc7 228 dX11_worth_225 rfl rfl (by decide) ?_
              refine r_goto 21 dX11_worth_228 (by decide) ?_
              first
                | (exfalso; omega)
                | (refine ih (i + 1) _ _ _ _ _ (by omega) g1 g2 g3 ?_
                   rw [← hT, g4]
                   congr 1
                   unfold fFac
                   rw [g5, hsp]
                   first
                     | (rw [y129, decide_eq_true (show c 51 30 x0 = 1 by omega)]; rfl)
                     | (rw [y129, decide_eq_false (show ¬ c 51 30 x0 = 1 by omega)]; rfl))
                | (refine ih (i + 1) _ _ _ _ _ (by omega) g1 g2 g3 ?_
                   rw [← hT, g4]
                   congr 1
                   unfold fFac
                   rw [g5]
                   unfold fNear
                   first
                     | (rw [if_pos (decide_eq_true (show max (c 51 33 y0 - c 51 21 s) (c 51 21 s - c 51 33 y0) ≤ c 51 11 4 by omega))]; done)
                     | (rw [if_neg (fun q => absurd (of_decide_eq_true q) (show ¬ max (c 51 33 y0 - c 51 21 s) (c 51 21 s - c 51 33 y0) ≤ c 51 11 4 by omega))]; done))
            · refine r_iconst 191 dX11_worth_190 rfl ?_
              refine r_goto 195 dX11_worth_191 (by decide) ?_
              refine r_istore8 197 dX11_worth_195 rfl rfl (by decide) ?_
              refine r_iinc6 200 dX11_worth_197 rfl rfl (by decide) ?_
              refine r_lloadN 201 dX11_worth_200 rfl rfl ?_
              refine r_iload 203 dX11_worth_201 rfl rfl ?_
              refine r_ifeqF 206 dX11_worth_203 rfl 216 (by decide) (by decide) (by decide) ?_
              refine r_aloadN 207 dX11_worth_206 rfl rfl ?_
              refine r_getq 210 dX11_worth_207 rfl fX11_20 (by decide) (sh_50 z _) rfl ?_
              refine r_iconst 211 dX11_worth_210 rfl ?_
              refine r_iald (n := 6) 212 dX11_worth_211 (2) rfl rfl (by decide) (sh_51 z _) (by decide) (by omega) (by omega) ?_
              refine r_i2l 213 dX11_worth_212 rfl (by omega) ?_
              refine r_goto 223 dX11_worth_213 (by decide) ?_
              refine r_lmul 224 dX11_worth_223 rfl ?_
              refine r_lstore3 225 dX11_worth_224 rfl rfl (by decide) ?_
              refine r_iinc7 228 dX11_worth_225 rfl rfl (by decide) ?_
              refine r_goto 21 dX11_worth_228 (by decide) ?_
              first
                | (exfalso; omega)
                | (refine ih (i + 1) _ _ _ _ _ (by omega) g1 g2 g3 ?_
                   rw [← hT, g4]
                   congr 1
                   unfold fFac
                   rw [g5, hsp]
                   first
                     | (rw [y129, decide_eq_true (show c 51 30 x0 = 1 by omega)]; rfl)
                     | (rw [y129, decide_eq_false (show ¬ c 51 30 x0 = 1 by omega)]; rfl))
                | (refine ih (i + 1) _ _ _ _ _ (by omega) g1 g2 g3 ?_
                   rw [← hT, g4]
                   congr 1
                   unfold fFac
                   rw [g5]
                   unfold fNear
                   first
                     | (rw [if_pos (decide_eq_true (show max (c 51 33 y0 - c 51 21 s) (c 51 21 s - c 51 33 y0) ≤ c 51 11 4 by omega))]; done)
                     | (rw [if_neg (fun q => absurd (of_decide_eq_true q) (show ¬ max (c 51 33 y0 - c 51 21 s) (c 51 21 s - c 51 33 y0) ≤ c 51 11 4 by omega))]; done))
          · refine r_aloadN 96 dX11_worth_95 rfl rfl ?_
            refine r_getq 99 dX11_worth_96 rfl fX11_80 (by decide) (sh_50 z _) rfl ?_
            refine r_iload 101 dX11_worth_99 rfl rfl ?_
            refine r_iald (n := 60) 102 dX11_worth_101 _ rfl rfl (by decide) (sh_51 z _) (by decide) (by omega) (by omega) ?_
            refine r_aloadN 103 dX11_worth_102 rfl rfl ?_
            refine r_getq 106 dX11_worth_103 rfl fX11_89 (by decide) (sh_50 z _) rfl ?_
            refine r_iload 108 dX11_worth_106 rfl rfl ?_
            refine r_iald (n := 20) 109 dX11_worth_108 _ rfl rfl (by decide) (sh_51 z _) (by decide) (by omega) (by omega) ?_
            refine r_icle 164 112 dX11_worth_109 rfl (by decide) (by have := (R0_press hR x1.toNat (by omega)).2.1; omega) (by have := (R0_match hR y1.toNat (by omega)).2.1; omega) (fun h109 => ?_) (fun h109 => ?_)
            · obtain ⟨y0, hy0⟩ := Int.eq_ofNat_of_zero_le (show 0 ≤ y1 by omega)
              subst hy0
              have hpr := R0_match hR y0 (by omega)
              have hyx : 0 ≤ x1 → c 51 31 x1.toNat ≤ c 51 34 y0 := fun q => by first | (exfalso; omega) | exact h109
              obtain ⟨g1, g2, g3, g4, g5⟩ := wor_match (s := s) (l := k) (w := w) hR hI1 hJ1 hK (by have := hy1 (by omega); rw [Int.toNat_natCast] at this; exact this) hyx
              refine r_aloadN 165 dX11_worth_164 rfl rfl ?_
              refine r_aloadN 166 dX11_worth_165 rfl rfl ?_
              refine r_getq 169 dX11_worth_166 rfl fX11_86 (by decide) (sh_50 z _) rfl ?_
              refine r_iload 171 dX11_worth_169 rfl rfl ?_
              refine r_iald (n := 20) 172 dX11_worth_171 (y0) rfl rfl (by decide) (sh_51 z _) (by decide) (by omega) (by omega) ?_
              refine r_aloadN 173 dX11_worth_172 rfl rfl ?_
              refine r_getq 176 dX11_worth_173 rfl fX11_50 (by decide) (sh_50 z _) rfl ?_
              refine r_iloadN 177 dX11_worth_176 rfl rfl ?_
              refine r_iald (n := 14) 178 dX11_worth_177 (s) rfl rfl (by decide) (sh_51 z _) (by decide) (by omega) (by omega) ?_
              refine r_cv2 181 dX11_worth_178 rfl gX11_266 rfl (by decide) (sh_50 z _) rfl rfl (Nat.le_of_ble_eq_true rfl) (Nat.le_of_ble_eq_true rfl) rfl ?_
              refine m_apart (by omega) (by omega) (fun r178 e178 => ?_)
              refine r_aloadN 182 dX11_worth_181 rfl rfl ?_
              refine r_getq 185 dX11_worth_182 rfl fX11_20 (by decide) (sh_50 z _) rfl ?_
              refine r_iconst 186 dX11_worth_185 rfl ?_
              refine r_iald (n := 6) 187 dX11_worth_186 (4) rfl rfl (by decide) (sh_51 z _) (by decide) (by omega) (by omega) ?_
              refine r_icgt 194 190 dX11_worth_187 rfl (by decide) (by omega) (by omega) (fun h187 => ?_) (fun h187 => ?_)
              · refine r_iconst 195 dX11_worth_194 rfl ?_
                refine r_istore8 197 dX11_worth_195 rfl rfl (by decide) ?_
                refine r_iinc6 200 dX11_worth_197 rfl rfl (by decide) ?_
                refine r_lloadN 201 dX11_worth_200 rfl rfl ?_
                refine r_iload 203 dX11_worth_201 rfl rfl ?_
                refine r_ifeqT 216 0 dX11_worth_203 (by decide) (by decide) (by decide) ?_
                refine r_aloadN 217 dX11_worth_216 rfl rfl ?_
                refine r_getq 220 dX11_worth_217 rfl fX11_20 (by decide) (sh_50 z _) rfl ?_
                refine r_iconst 221 dX11_worth_220 rfl ?_
                refine r_iald (n := 6) 222 dX11_worth_221 (3) rfl rfl (by decide) (sh_51 z _) (by decide) (by omega) (by omega) ?_
                refine r_i2l 223 dX11_worth_222 rfl (by omega) ?_
                refine r_lmul 224 dX11_worth_223 rfl ?_
                refine r_lstore3 225 dX11_worth_224 rfl rfl (by decide) ?_
                refine r_iinc7 228 dX11_worth_225 rfl rfl (by decide) ?_
                refine r_goto 21 dX11_worth_228 (by decide) ?_
                first
                  | (exfalso; omega)
                  | (refine ih (i + 1) _ _ _ _ _ (by omega) g1 g2 g3 ?_
                     rw [← hT, g4]
                     congr 1
                     unfold fFac
                     rw [g5, hsp]
                     first
                       | (rw [y129, decide_eq_true (show c 51 30 x0 = 1 by omega)]; rfl)
                       | (rw [y129, decide_eq_false (show ¬ c 51 30 x0 = 1 by omega)]; rfl))
                  | (refine ih (i + 1) _ _ _ _ _ (by omega) g1 g2 g3 ?_
                     rw [← hT, g4]
                     congr 1
                     unfold fFac
                     rw [g5]
                     unfold fNear
                     first
                       | (rw [if_pos (decide_eq_true (show max (c 51 33 y0 - c 51 21 s) (c 51 21 s - c 51 33 y0) ≤ c 51 11 4 by omega))]; done)
                       | (rw [if_neg (fun q => absurd (of_decide_eq_true q) (show ¬ max (c 51 33 y0 - c 51 21 s) (c 51 21 s - c 51 33 y0) ≤ c 51 11 4 by omega))]; done))
              · refine r_iconst 191 dX11_worth_190 rfl ?_
                refine r_goto 195 dX11_worth_191 (by decide) ?_
                refine r_istore8 197 dX11_worth_195 rfl rfl (by decide) ?_
                refine r_iinc6 200 dX11_worth_197 rfl rfl (by decide) ?_
                refine r_lloadN 201 dX11_worth_200 rfl rfl ?_
                refine r_iload 203 dX11_worth_201 rfl rfl ?_
                refine r_ifeqF 206 dX11_worth_203 rfl 216 (by decide) (by decide) (by decide) ?_
                refine r_aloadN 207 dX11_worth_206 rfl rfl ?_
                refine r_getq 210 dX11_worth_207 rfl fX11_20 (by decide) (sh_50 z _) rfl ?_
                refine r_iconst 211 dX11_worth_210 rfl ?_
                refine r_iald (n := 6) 212 dX11_worth_211 (2) rfl rfl (by decide) (sh_51 z _) (by decide) (by omega) (by omega) ?_
                refine r_i2l 213 dX11_worth_212 rfl (by omega) ?_
                refine r_goto 223 dX11_worth_213 (by decide) ?_
                refine r_lmul 224 dX11_worth_223 rfl ?_
                refine r_lstore3 225 dX11_worth_224 rfl rfl (by decide) ?_
                refine r_iinc7 228 dX11_worth_225 rfl rfl (by decide) ?_
                refine r_goto 21 dX11_worth_228 (by decide) ?_
                first
                  | (exfalso; omega)
                  | (refine ih (i + 1) _ _ _ _ _ (by omega) g1 g2 g3 ?_
                     rw [← hT, g4]
                     congr 1
                     unfold fFac
                     rw [g5, hsp]
                     first
                       | (rw [y129, decide_eq_true (show c 51 30 x0 = 1 by omega)]; rfl)
                       | (rw [y129, decide_eq_false (show ¬ c 51 30 x0 = 1 by omega)]; rfl))
                  | (refine ih (i + 1) _ _ _ _ _ (by omega) g1 g2 g3 ?_
                     rw [← hT, g4]
                     congr 1
                     unfold fFac
                     rw [g5]
                     unfold fNear
                     first
                       | (rw [if_pos (decide_eq_true (show max (c 51 33 y0 - c 51 21 s) (c 51 21 s - c 51 33 y0) ≤ c 51 11 4 by omega))]; done)
                       | (rw [if_neg (fun q => absurd (of_decide_eq_true q) (show ¬ max (c 51 33 y0 - c 51 21 s) (c 51 21 s - c 51 33 y0) ≤ c 51 11 4 by omega))]; done))
            · obtain ⟨x0, hx0⟩ := Int.eq_ofNat_of_zero_le (show 0 ≤ x1 by omega)
              subst hx0
              have hpr := R0_press hR x0 (by omega)
              obtain ⟨sp, hsp⟩ := Int.eq_ofNat_of_zero_le (show 0 ≤ c 51 29 x0 by omega)
              have hyx : 0 ≤ y1 → c 51 34 y1.toNat < c 51 31 x0 := fun q => by first | (exfalso; omega) | exact h109
              obtain ⟨g1, g2, g3, g4, g5⟩ := wor_press (s := s) (l := k) (w := w) hR hI1 hJ1 hK (by have := hx1 (by omega); rw [Int.toNat_natCast] at this; exact this) hyx
              refine r_aloadN 113 dX11_worth_112 rfl rfl ?_
              refine r_iloadN 114 dX11_worth_113 rfl rfl ?_
              refine r_iloadN 115 dX11_worth_114 rfl rfl ?_
              refine r_aloadN 116 dX11_worth_115 rfl rfl ?_
              refine r_getq 119 dX11_worth_116 rfl fX11_74 (by decide) (sh_50 z _) rfl ?_
              refine r_iload 121 dX11_worth_119 rfl rfl ?_
              refine r_iald (n := 60) 122 dX11_worth_121 (x0) rfl rfl (by decide) (sh_51 z _) (by decide) (by omega) (by omega) ?_
              refine r_aloadN 123 dX11_worth_122 rfl rfl ?_
              refine r_getq 126 dX11_worth_123 rfl fX11_71 (by decide) (sh_50 z _) rfl ?_
              refine r_iload 128 dX11_worth_126 rfl rfl ?_
              refine r_iald (n := 60) 129 dX11_worth_128 (x0) rfl rfl (by decide) (sh_51 z _) (by decide) (by omega) (by omega) ?_
              rw [hsp]
              refine r_cv4 132 dX11_worth_129 rfl gX11_295 rfl (by decide) (sh_50 z _) rfl rfl (Nat.le_of_ble_eq_true rfl) (Nat.le_of_ble_eq_true rfl) rfl ?_
              refine m_isHearing hR hn hs (sp := sp) (by omega) hp (by omega) (fun y129 => ?_) (fun y129 => ?_)
              · refine r_aloadN 133 dX11_worth_132 rfl rfl ?_
                refine r_getq 136 dX11_worth_133 rfl fX11_77 (by decide) (sh_50 z _) rfl ?_
                refine r_iload 138 dX11_worth_136 rfl rfl ?_
                refine r_iald (n := 60) 139 dX11_worth_138 (x0) rfl rfl (by decide) (sh_51 z _) (by decide) (by omega) (by omega) ?_
                refine r_iconst 140 dX11_worth_139 rfl ?_
                refine r_icne 147 143 dX11_worth_140 rfl (by decide) (by omega) (by omega) (fun h140 => ?_) (fun h140 => ?_)
                · refine r_iconst 148 dX11_worth_147 rfl ?_
                  refine r_icne 155 151 dX11_worth_148 rfl (by decide) (by omega) (by omega) (fun h148 => ?_) (fun h148 => ?_)
                  · refine r_iconst 156 dX11_worth_155 rfl ?_
                    refine r_istore8 158 dX11_worth_156 rfl rfl (by decide) ?_
                    refine r_iinc5 161 dX11_worth_158 rfl rfl (by decide) ?_
                    refine r_goto 200 dX11_worth_161 (by decide) ?_
                    refine r_lloadN 201 dX11_worth_200 rfl rfl ?_
                    refine r_iload 203 dX11_worth_201 rfl rfl ?_
                    refine r_ifeqT 216 0 dX11_worth_203 (by decide) (by decide) (by decide) ?_
                    refine r_aloadN 217 dX11_worth_216 rfl rfl ?_
                    refine r_getq 220 dX11_worth_217 rfl fX11_20 (by decide) (sh_50 z _) rfl ?_
                    refine r_iconst 221 dX11_worth_220 rfl ?_
                    refine r_iald (n := 6) 222 dX11_worth_221 (3) rfl rfl (by decide) (sh_51 z _) (by decide) (by omega) (by omega) ?_
                    refine r_i2l 223 dX11_worth_222 rfl (by omega) ?_
                    refine r_lmul 224 dX11_worth_223 rfl ?_
                    refine r_lstore3 225 dX11_worth_224 rfl rfl (by decide) ?_
                    refine r_iinc7 228 dX11_worth_225 rfl rfl (by decide) ?_
                    refine r_goto 21 dX11_worth_228 (by decide) ?_
                    first
                      | (exfalso; omega)
                      | (refine ih (i + 1) _ _ _ _ _ (by omega) g1 g2 g3 ?_
                         rw [← hT, g4]
                         congr 1
                         unfold fFac
                         rw [g5, hsp]
                         first
                           | (rw [y129, decide_eq_true (show c 51 30 x0 = 1 by omega)]; rfl)
                           | (rw [y129, decide_eq_false (show ¬ c 51 30 x0 = 1 by omega)]; rfl))
                      | (refine ih (i + 1) _ _ _ _ _ (by omega) g1 g2 g3 ?_
                         rw [← hT, g4]
                         congr 1
                         unfold fFac
                         rw [g5]
                         unfold fNear
                         first
                           | (rw [if_pos (decide_eq_true (show max (c 51 33 y0 - c 51 21 s) (c 51 21 s - c 51 33 y0) ≤ c 51 11 4 by omega))]; done)
                           | (rw [if_neg (fun q => absurd (of_decide_eq_true q) (show ¬ max (c 51 33 y0 - c 51 21 s) (c 51 21 s - c 51 33 y0) ≤ c 51 11 4 by omega))]; done))
                  · refine r_iconst 152 dX11_worth_151 rfl ?_
                    refine r_goto 156 dX11_worth_152 (by decide) ?_
                    refine r_istore8 158 dX11_worth_156 rfl rfl (by decide) ?_
                    refine r_iinc5 161 dX11_worth_158 rfl rfl (by decide) ?_
                    refine r_goto 200 dX11_worth_161 (by decide) ?_
                    refine r_lloadN 201 dX11_worth_200 rfl rfl ?_
                    refine r_iload 203 dX11_worth_201 rfl rfl ?_
                    refine r_ifeqF 206 dX11_worth_203 rfl 216 (by decide) (by decide) (by decide) ?_
                    refine r_aloadN 207 dX11_worth_206 rfl rfl ?_
                    refine r_getq 210 dX11_worth_207 rfl fX11_20 (by decide) (sh_50 z _) rfl ?_
                    refine r_iconst 211 dX11_worth_210 rfl ?_
                    refine r_iald (n := 6) 212 dX11_worth_211 (2) rfl rfl (by decide) (sh_51 z _) (by decide) (by omega) (by omega) ?_
                    refine r_i2l 213 dX11_worth_212 rfl (by omega) ?_
                    refine r_goto 223 dX11_worth_213 (by decide) ?_
                    refine r_lmul 224 dX11_worth_223 rfl ?_
                    refine r_lstore3 225 dX11_worth_224 rfl rfl (by decide) ?_
                    refine r_iinc7 228 dX11_worth_225 rfl rfl (by decide) ?_
                    refine r_goto 21 dX11_worth_228 (by decide) ?_
                    first
                      | (exfalso; omega)
                      | (refine ih (i + 1) _ _ _ _ _ (by omega) g1 g2 g3 ?_
                         rw [← hT, g4]
                         congr 1
                         unfold fFac
                         rw [g5, hsp]
                         first
                           | (rw [y129, decide_eq_true (show c 51 30 x0 = 1 by omega)]; rfl)
                           | (rw [y129, decide_eq_false (show ¬ c 51 30 x0 = 1 by omega)]; rfl))
                      | (refine ih (i + 1) _ _ _ _ _ (by omega) g1 g2 g3 ?_
                         rw [← hT, g4]
                         congr 1
                         unfold fFac
                         rw [g5]
                         unfold fNear
                         first
                           | (rw [if_pos (decide_eq_true (show max (c 51 33 y0 - c 51 21 s) (c 51 21 s - c 51 33 y0) ≤ c 51 11 4 by omega))]; done)
                           | (rw [if_neg (fun q => absurd (of_decide_eq_true q) (show ¬ max (c 51 33 y0 - c 51 21 s) (c 51 21 s - c 51 33 y0) ≤ c 51 11 4 by omega))]; done))
                · refine r_iconst 144 dX11_worth_143 rfl ?_
                  refine r_goto 148 dX11_worth_144 (by decide) ?_
                  refine r_icne 155 151 dX11_worth_148 rfl (by decide) (by omega) (by omega) (fun h148 => ?_) (fun h148 => ?_)
                  · refine r_iconst 156 dX11_worth_155 rfl ?_
                    refine r_istore8 158 dX11_worth_156 rfl rfl (by decide) ?_
                    refine r_iinc5 161 dX11_worth_158 rfl rfl (by decide) ?_
                    refine r_goto 200 dX11_worth_161 (by decide) ?_
                    refine r_lloadN 201 dX11_worth_200 rfl rfl ?_
                    refine r_iload 203 dX11_worth_201 rfl rfl ?_
                    refine r_ifeqT 216 0 dX11_worth_203 (by decide) (by decide) (by decide) ?_
                    refine r_aloadN 217 dX11_worth_216 rfl rfl ?_
                    refine r_getq 220 dX11_worth_217 rfl fX11_20 (by decide) (sh_50 z _) rfl ?_
                    refine r_iconst 221 dX11_worth_220 rfl ?_
                    refine r_iald (n := 6) 222 dX11_worth_221 (3) rfl rfl (by decide) (sh_51 z _) (by decide) (by omega) (by omega) ?_
                    refine r_i2l 223 dX11_worth_222 rfl (by omega) ?_
                    refine r_lmul 224 dX11_worth_223 rfl ?_
                    refine r_lstore3 225 dX11_worth_224 rfl rfl (by decide) ?_
                    refine r_iinc7 228 dX11_worth_225 rfl rfl (by decide) ?_
                    refine r_goto 21 dX11_worth_228 (by decide) ?_
                    first
                      | (exfalso; omega)
                      | (refine ih (i + 1) _ _ _ _ _ (by omega) g1 g2 g3 ?_
                         rw [← hT, g4]
                         congr 1
                         unfold fFac
                         rw [g5, hsp]
                         first
                           | (rw [y129, decide_eq_true (show c 51 30 x0 = 1 by omega)]; rfl)
                           | (rw [y129, decide_eq_false (show ¬ c 51 30 x0 = 1 by omega)]; rfl))
                      | (refine ih (i + 1) _ _ _ _ _ (by omega) g1 g2 g3 ?_
                         rw [← hT, g4]
                         congr 1
                         unfold fFac
                         rw [g5]
                         unfold fNear
                         first
                           | (rw [if_pos (decide_eq_true (show max (c 51 33 y0 - c 51 21 s) (c 51 21 s - c 51 33 y0) ≤ c 51 11 4 by omega))]; done)
                           | (rw [if_neg (fun q => absurd (of_decide_eq_true q) (show ¬ max (c 51 33 y0 - c 51 21 s) (c 51 21 s - c 51 33 y0) ≤ c 51 11 4 by omega))]; done))
                  · refine r_iconst 152 dX11_worth_151 rfl ?_
                    refine r_goto 156 dX11_worth_152 (by decide) ?_
                    refine r_istore8 158 dX11_worth_156 rfl rfl (by decide) ?_
                    refine r_iinc5 161 dX11_worth_158 rfl rfl (by decide) ?_
                    refine r_goto 200 dX11_worth_161 (by decide) ?_
                    refine r_lloadN 201 dX11_worth_200 rfl rfl ?_
                    refine r_iload 203 dX11_worth_201 rfl rfl ?_
                    refine r_ifeqF 206 dX11_worth_203 rfl 216 (by decide) (by decide) (by decide) ?_
                    refine r_aloadN 207 dX11_worth_206 rfl rfl ?_
                    refine r_getq 210 dX11_worth_207 rfl fX11_20 (by decide) (sh_50 z _) rfl ?_
                    refine r_iconst 211 dX11_worth_210 rfl ?_
                    refine r_iald (n := 6) 212 dX11_worth_211 (2) rfl rfl (by decide) (sh_51 z _) (by decide) (by omega) (by omega) ?_
                    refine r_i2l 213 dX11_worth_212 rfl (by omega) ?_
                    refine r_goto 223 dX11_worth_213 (by decide) ?_
                    refine r_lmul 224 dX11_worth_223 rfl ?_
                    refine r_lstore3 225 dX11_worth_224 rfl rfl (by decide) ?_
                    refine r_iinc7 228 dX11_worth_225 rfl rfl (by decide) ?_
                    refine r_goto 21 dX11_worth_228 (by decide) ?_
                    first
                      | (exfalso; omega)
                      | (refine ih (i + 1) _ _ _ _ _ (by omega) g1 g2 g3 ?_
                         rw [← hT, g4]
                         congr 1
                         unfold fFac
                         rw [g5, hsp]
                         first
                           | (rw [y129, decide_eq_true (show c 51 30 x0 = 1 by omega)]; rfl)
                           | (rw [y129, decide_eq_false (show ¬ c 51 30 x0 = 1 by omega)]; rfl))
                      | (refine ih (i + 1) _ _ _ _ _ (by omega) g1 g2 g3 ?_
                         rw [← hT, g4]
                         congr 1
                         unfold fFac
                         rw [g5]
                         unfold fNear
                         first
                           | (rw [if_pos (decide_eq_true (show max (c 51 33 y0 - c 51 21 s) (c 51 21 s - c 51 33 y0) ≤ c 51 11 4 by omega))]; done)
                           | (rw [if_neg (fun q => absurd (of_decide_eq_true q) (show ¬ max (c 51 33 y0 - c 51 21 s) (c 51 21 s - c 51 33 y0) ≤ c 51 11 4 by omega))]; done))
              · refine r_aloadN 133 dX11_worth_132 rfl rfl ?_
                refine r_getq 136 dX11_worth_133 rfl fX11_77 (by decide) (sh_50 z _) rfl ?_
                refine r_iload 138 dX11_worth_136 rfl rfl ?_
                refine r_iald (n := 60) 139 dX11_worth_138 (x0) rfl rfl (by decide) (sh_51 z _) (by decide) (by omega) (by omega) ?_
                refine r_iconst 140 dX11_worth_139 rfl ?_
                refine r_icne 147 143 dX11_worth_140 rfl (by decide) (by omega) (by omega) (fun h140 => ?_) (fun h140 => ?_)
                · refine r_iconst 148 dX11_worth_147 rfl ?_
                  refine r_icne 155 151 dX11_worth_148 rfl (by decide) (by omega) (by omega) (fun h148 => ?_) (fun h148 => ?_)
                  · refine r_iconst 156 dX11_worth_155 rfl ?_
                    refine r_istore8 158 dX11_worth_156 rfl rfl (by decide) ?_
                    refine r_iinc5 161 dX11_worth_158 rfl rfl (by decide) ?_
                    refine r_goto 200 dX11_worth_161 (by decide) ?_
                    refine r_lloadN 201 dX11_worth_200 rfl rfl ?_
                    refine r_iload 203 dX11_worth_201 rfl rfl ?_
                    refine r_ifeqT 216 0 dX11_worth_203 (by decide) (by decide) (by decide) ?_
                    refine r_aloadN 217 dX11_worth_216 rfl rfl ?_
                    refine r_getq 220 dX11_worth_217 rfl fX11_20 (by decide) (sh_50 z _) rfl ?_
                    refine r_iconst 221 dX11_worth_220 rfl ?_
                    refine r_iald (n := 6) 222 dX11_worth_221 (3) rfl rfl (by decide) (sh_51 z _) (by decide) (by omega) (by omega) ?_
                    refine r_i2l 223 dX11_worth_222 rfl (by omega) ?_
                    refine r_lmul 224 dX11_worth_223 rfl ?_
                    refine r_lstore3 225 dX11_worth_224 rfl rfl (by decide) ?_
                    refine r_iinc7 228 dX11_worth_225 rfl rfl (by decide) ?_
                    refine r_goto 21 dX11_worth_228 (by decide) ?_
                    first
                      | (exfalso; omega)
                      | (refine ih (i + 1) _ _ _ _ _ (by omega) g1 g2 g3 ?_
                         rw [← hT, g4]
                         congr 1
                         unfold fFac
                         rw [g5, hsp]
                         first
                           | (rw [y129, decide_eq_true (show c 51 30 x0 = 1 by omega)]; rfl)
                           | (rw [y129, decide_eq_false (show ¬ c 51 30 x0 = 1 by omega)]; rfl))
                      | (refine ih (i + 1) _ _ _ _ _ (by omega) g1 g2 g3 ?_
                         rw [← hT, g4]
                         congr 1
                         unfold fFac
                         rw [g5]
                         unfold fNear
                         first
                           | (rw [if_pos (decide_eq_true (show max (c 51 33 y0 - c 51 21 s) (c 51 21 s - c 51 33 y0) ≤ c 51 11 4 by omega))]; done)
                           | (rw [if_neg (fun q => absurd (of_decide_eq_true q) (show ¬ max (c 51 33 y0 - c 51 21 s) (c 51 21 s - c 51 33 y0) ≤ c 51 11 4 by omega))]; done))
                  · refine r_iconst 152 dX11_worth_151 rfl ?_
                    refine r_goto 156 dX11_worth_152 (by decide) ?_
                    refine r_istore8 158 dX11_worth_156 rfl rfl (by decide) ?_
                    refine r_iinc5 161 dX11_worth_158 rfl rfl (by decide) ?_
                    refine r_goto 200 dX11_worth_161 (by decide) ?_
                    refine r_lloadN 201 dX11_worth_200 rfl rfl ?_
                    refine r_iload 203 dX11_worth_201 rfl rfl ?_
                    refine r_ifeqF 206 dX11_worth_203 rfl 216 (by decide) (by decide) (by decide) ?_
                    refine r_aloadN 207 dX11_worth_206 rfl rfl ?_
                    refine r_getq 210 dX11_worth_207 rfl fX11_20 (by decide) (sh_50 z _) rfl ?_
                    refine r_iconst 211 dX11_worth_210 rfl ?_
                    refine r_iald (n := 6) 212 dX11_worth_211 (2) rfl rfl (by decide) (sh_51 z _) (by decide) (by omega) (by omega) ?_
                    refine r_i2l 213 dX11_worth_212 rfl (by omega) ?_
                    refine r_goto 223 dX11_worth_213 (by decide) ?_
                    refine r_lmul 224 dX11_worth_223 rfl ?_
                    refine r_lstore3 225 dX11_worth_224 rfl rfl (by decide) ?_
                    refine r_iinc7 228 dX11_worth_225 rfl rfl (by decide) ?_
                    refine r_goto 21 dX11_worth_228 (by decide) ?_
                    first
                      | (exfalso; omega)
                      | (refine ih (i + 1) _ _ _ _ _ (by omega) g1 g2 g3 ?_
                         rw [← hT, g4]
                         congr 1
                         unfold fFac
                         rw [g5, hsp]
                         first
                           | (rw [y129, decide_eq_true (show c 51 30 x0 = 1 by omega)]; rfl)
                           | (rw [y129, decide_eq_false (show ¬ c 51 30 x0 = 1 by omega)]; rfl))
                      | (refine ih (i + 1) _ _ _ _ _ (by omega) g1 g2 g3 ?_
                         rw [← hT, g4]
                         congr 1
                         unfold fFac
                         rw [g5]
                         unfold fNear
                         first
                           | (rw [if_pos (decide_eq_true (show max (c 51 33 y0 - c 51 21 s) (c 51 21 s - c 51 33 y0) ≤ c 51 11 4 by omega))]; done)
                           | (rw [if_neg (fun q => absurd (of_decide_eq_true q) (show ¬ max (c 51 33 y0 - c 51 21 s) (c 51 21 s - c 51 33 y0) ≤ c 51 11 4 by omega))]; done))
                · refine r_iconst 144 dX11_worth_143 rfl ?_
                  refine r_goto 148 dX11_worth_144 (by decide) ?_
                  refine r_icne 155 151 dX11_worth_148 rfl (by decide) (by omega) (by omega) (fun h148 => ?_) (fun h148 => ?_)
                  · refine r_iconst 156 dX11_worth_155 rfl ?_
                    refine r_istore8 158 dX11_worth_156 rfl rfl (by decide) ?_
                    refine r_iinc5 161 dX11_worth_158 rfl rfl (by decide) ?_
                    refine r_goto 200 dX11_worth_161 (by decide) ?_
                    refine r_lloadN 201 dX11_worth_200 rfl rfl ?_
                    refine r_iload 203 dX11_worth_201 rfl rfl ?_
                    refine r_ifeqT 216 0 dX11_worth_203 (by decide) (by decide) (by decide) ?_
                    refine r_aloadN 217 dX11_worth_216 rfl rfl ?_
                    refine r_getq 220 dX11_worth_217 rfl fX11_20 (by decide) (sh_50 z _) rfl ?_
                    refine r_iconst 221 dX11_worth_220 rfl ?_
                    refine r_iald (n := 6) 222 dX11_worth_221 (3) rfl rfl (by decide) (sh_51 z _) (by decide) (by omega) (by omega) ?_
                    refine r_i2l 223 dX11_worth_222 rfl (by omega) ?_
                    refine r_lmul 224 dX11_worth_223 rfl ?_
                    refine r_lstore3 225 dX11_worth_224 rfl rfl (by decide) ?_
                    refine r_iinc7 228 dX11_worth_225 rfl rfl (by decide) ?_
                    refine r_goto 21 dX11_worth_228 (by decide) ?_
                    first
                      | (exfalso; omega)
                      | (refine ih (i + 1) _ _ _ _ _ (by omega) g1 g2 g3 ?_
                         rw [← hT, g4]
                         congr 1
                         unfold fFac
                         rw [g5, hsp]
                         first
                           | (rw [y129, decide_eq_true (show c 51 30 x0 = 1 by omega)]; rfl)
                           | (rw [y129, decide_eq_false (show ¬ c 51 30 x0 = 1 by omega)]; rfl))
                      | (refine ih (i + 1) _ _ _ _ _ (by omega) g1 g2 g3 ?_
                         rw [← hT, g4]
                         congr 1
                         unfold fFac
                         rw [g5]
                         unfold fNear
                         first
                           | (rw [if_pos (decide_eq_true (show max (c 51 33 y0 - c 51 21 s) (c 51 21 s - c 51 33 y0) ≤ c 51 11 4 by omega))]; done)
                           | (rw [if_neg (fun q => absurd (of_decide_eq_true q) (show ¬ max (c 51 33 y0 - c 51 21 s) (c 51 21 s - c 51 33 y0) ≤ c 51 11 4 by omega))]; done))
                  · refine r_iconst 152 dX11_worth_151 rfl ?_
                    refine r_goto 156 dX11_worth_152 (by decide) ?_
                    refine r_istore8 158 dX11_worth_156 rfl rfl (by decide) ?_
                    refine r_iinc5 161 dX11_worth_158 rfl rfl (by decide) ?_
                    refine r_goto 200 dX11_worth_161 (by decide) ?_
                    refine r_lloadN 201 dX11_worth_200 rfl rfl ?_
                    refine r_iload 203 dX11_worth_201 rfl rfl ?_
                    refine r_ifeqF 206 dX11_worth_203 rfl 216 (by decide) (by decide) (by decide) ?_
                    refine r_aloadN 207 dX11_worth_206 rfl rfl ?_
                    refine r_getq 210 dX11_worth_207 rfl fX11_20 (by decide) (sh_50 z _) rfl ?_
                    refine r_iconst 211 dX11_worth_210 rfl ?_
                    refine r_iald (n := 6) 212 dX11_worth_211 (2) rfl rfl (by decide) (sh_51 z _) (by decide) (by omega) (by omega) ?_
                    refine r_i2l 213 dX11_worth_212 rfl (by omega) ?_
                    refine r_goto 223 dX11_worth_213 (by decide) ?_
                    refine r_lmul 224 dX11_worth_223 rfl ?_
                    refine r_lstore3 225 dX11_worth_224 rfl rfl (by decide) ?_
                    refine r_iinc7 228 dX11_worth_225 rfl rfl (by decide) ?_
                    refine r_goto 21 dX11_worth_228 (by decide) ?_
                    first
                      | (exfalso; omega)
                      | (refine ih (i + 1) _ _ _ _ _ (by omega) g1 g2 g3 ?_
                         rw [← hT, g4]
                         congr 1
                         unfold fFac
                         rw [g5, hsp]
                         first
                           | (rw [y129, decide_eq_true (show c 51 30 x0 = 1 by omega)]; rfl)
                           | (rw [y129, decide_eq_false (show ¬ c 51 30 x0 = 1 by omega)]; rfl))
                      | (refine ih (i + 1) _ _ _ _ _ (by omega) g1 g2 g3 ?_
                         rw [← hT, g4]
                         congr 1
                         unfold fFac
                         rw [g5]
                         unfold fNear
                         first
                           | (rw [if_pos (decide_eq_true (show max (c 51 33 y0 - c 51 21 s) (c 51 21 s - c 51 33 y0) ≤ c 51 11 4 by omega))]; done)
                           | (rw [if_neg (fun q => absurd (of_decide_eq_true q) (show ¬ max (c 51 33 y0 - c 51 21 s) (c 51 21 s - c 51 33 y0) ≤ c 51 11 4 by omega))]; done))
      · refine r_iload 79 dX11_worth_77 rfl rfl ?_
        refine r_ifge 85 82 dX11_worth_79 rfl (by decide) (by omega) (fun h79 => ?_) (fun h79 => ?_)
        · refine r_iload 87 dX11_worth_85 rfl rfl ?_
          refine r_iflt 112 90 dX11_worth_87 rfl (by decide) (by omega) (fun h87 => ?_) (fun h87 => ?_)
          · obtain ⟨x0, hx0⟩ := Int.eq_ofNat_of_zero_le (show 0 ≤ x1 by omega)
            subst hx0
            have hpr := R0_press hR x0 (by omega)
            obtain ⟨sp, hsp⟩ := Int.eq_ofNat_of_zero_le (show 0 ≤ c 51 29 x0 by omega)
            have hyx : 0 ≤ y1 → c 51 34 y1.toNat < c 51 31 x0 := fun q => by first | (exfalso; omega) | exact h109
            obtain ⟨g1, g2, g3, g4, g5⟩ := wor_press (s := s) (l := k) (w := w) hR hI1 hJ1 hK (by have := hx1 (by omega); rw [Int.toNat_natCast] at this; exact this) hyx
            refine r_aloadN 113 dX11_worth_112 rfl rfl ?_
            refine r_iloadN 114 dX11_worth_113 rfl rfl ?_
            refine r_iloadN 115 dX11_worth_114 rfl rfl ?_
            refine r_aloadN 116 dX11_worth_115 rfl rfl ?_
            refine r_getq 119 dX11_worth_116 rfl fX11_74 (by decide) (sh_50 z _) rfl ?_
            refine r_iload 121 dX11_worth_119 rfl rfl ?_
            refine r_iald (n := 60) 122 dX11_worth_121 (x0) rfl rfl (by decide) (sh_51 z _) (by decide) (by omega) (by omega) ?_
            refine r_aloadN 123 dX11_worth_122 rfl rfl ?_
            refine r_getq 126 dX11_worth_123 rfl fX11_71 (by decide) (sh_50 z _) rfl ?_
            refine r_iload 128 dX11_worth_126 rfl rfl ?_
            refine r_iald (n := 60) 129 dX11_worth_128 (x0) rfl rfl (by decide) (sh_51 z _) (by decide) (by omega) (by omega) ?_
            rw [hsp]
            refine r_cv4 132 dX11_worth_129 rfl gX11_295 rfl (by decide) (sh_50 z _) rfl rfl (Nat.le_of_ble_eq_true rfl) (Nat.le_of_ble_eq_true rfl) rfl ?_
            refine m_isHearing hR hn hs (sp := sp) (by omega) hp (by omega) (fun y129 => ?_) (fun y129 => ?_)
            · refine r_aloadN 133 dX11_worth_132 rfl rfl ?_
              refine r_getq 136 dX11_worth_133 rfl fX11_77 (by decide) (sh_50 z _) rfl ?_
              refine r_iload 138 dX11_worth_136 rfl rfl ?_
              refine r_iald (n := 60) 139 dX11_worth_138 (x0) rfl rfl (by decide) (sh_51 z _) (by decide) (by omega) (by omega) ?_
              refine r_iconst 140 dX11_worth_139 rfl ?_
              refine r_icne 147 143 dX11_worth_140 rfl (by decide) (by omega) (by omega) (fun h140 => ?_) (fun h140 => ?_)
              · refine r_iconst 148 dX11_worth_147 rfl ?_
                refine r_icne 155 151 dX11_worth_148 rfl (by decide) (by omega) (by omega) (fun h148 => ?_) (fun h148 => ?_)
                · refine r_iconst 156 dX11_worth_155 rfl ?_
                  refine r_istore8 158 dX11_worth_156 rfl rfl (by decide) ?_
                  refine r_iinc5 161 dX11_worth_158 rfl rfl (by decide) ?_
                  refine r_goto 200 dX11_worth_161 (by decide) ?_
                  refine r_lloadN 201 dX11_worth_200 rfl rfl ?_
                  refine r_iload 203 dX11_worth_201 rfl rfl ?_
                  refine r_ifeqT 216 0 dX11_worth_203 (by decide) (by decide) (by decide) ?_
                  refine r_aloadN 217 dX11_worth_216 rfl rfl ?_
                  refine r_getq 220 dX11_worth_217 rfl fX11_20 (by decide) (sh_50 z _) rfl ?_
                  refine r_iconst 221 dX11_worth_220 rfl ?_
                  refine r_iald (n := 6) 222 dX11_worth_221 (3) rfl rfl (by decide) (sh_51 z _) (by decide) (by omega) (by omega) ?_
                  refine r_i2l 223 dX11_worth_222 rfl (by omega) ?_
                  refine r_lmul 224 dX11_worth_223 rfl ?_
                  refine r_lstore3 225 dX11_worth_224 rfl rfl (by decide) ?_
                  refine r_iinc7 228 dX11_worth_225 rfl rfl (by decide) ?_
                  refine r_goto 21 dX11_worth_228 (by decide) ?_
                  first
                    | (exfalso; omega)
                    | (refine ih (i + 1) _ _ _ _ _ (by omega) g1 g2 g3 ?_
                       rw [← hT, g4]
                       congr 1
                       unfold fFac
                       rw [g5, hsp]
                       first
                         | (rw [y129, decide_eq_true (show c 51 30 x0 = 1 by omega)]; rfl)
                         | (rw [y129, decide_eq_false (show ¬ c 51 30 x0 = 1 by omega)]; rfl))
                    | (refine ih (i + 1) _ _ _ _ _ (by omega) g1 g2 g3 ?_
                       rw [← hT, g4]
                       congr 1
                       unfold fFac
                       rw [g5]
                       unfold fNear
                       first
                         | (rw [if_pos (decide_eq_true (show max (c 51 33 y0 - c 51 21 s) (c 51 21 s - c 51 33 y0) ≤ c 51 11 4 by omega))]; done)
                         | (rw [if_neg (fun q => absurd (of_decide_eq_true q) (show ¬ max (c 51 33 y0 - c 51 21 s) (c 51 21 s - c 51 33 y0) ≤ c 51 11 4 by omega))]; done))
                · refine r_iconst 152 dX11_worth_151 rfl ?_
                  refine r_goto 156 dX11_worth_152 (by decide) ?_
                  refine r_istore8 158 dX11_worth_156 rfl rfl (by decide) ?_
                  refine r_iinc5 161 dX11_worth_158 rfl rfl (by decide) ?_
                  refine r_goto 200 dX11_worth_161 (by decide) ?_
                  refine r_lloadN 201 dX11_worth_200 rfl rfl ?_
                  refine r_iload 203 dX11_worth_201 rfl rfl ?_
                  refine r_ifeqF 206 dX11_worth_203 rfl 216 (by decide) (by decide) (by decide) ?_
                  refine r_aloadN 207 dX11_worth_206 rfl rfl ?_
                  refine r_getq 210 dX11_worth_207 rfl fX11_20 (by decide) (sh_50 z _) rfl ?_
                  refine r_iconst 211 dX11_worth_210 rfl ?_
                  refine r_iald (n := 6) 212 dX11_worth_211 (2) rfl rfl (by decide) (sh_51 z _) (by decide) (by omega) (by omega) ?_
                  refine r_i2l 213 dX11_worth_212 rfl (by omega) ?_
                  refine r_goto 223 dX11_worth_213 (by decide) ?_
                  refine r_lmul 224 dX11_worth_223 rfl ?_
                  refine r_lstore3 225 dX11_worth_224 rfl rfl (by decide) ?_
                  refine r_iinc7 228 dX11_worth_225 rfl rfl (by decide) ?_
                  refine r_goto 21 dX11_worth_228 (by decide) ?_
                  first
                    | (exfalso; omega)
                    | (refine ih (i + 1) _ _ _ _ _ (by omega) g1 g2 g3 ?_
                       rw [← hT, g4]
                       congr 1
                       unfold fFac
                       rw [g5, hsp]
                       first
                         | (rw [y129, decide_eq_true (show c 51 30 x0 = 1 by omega)]; rfl)
                         | (rw [y129, decide_eq_false (show ¬ c 51 30 x0 = 1 by omega)]; rfl))
                    | (refine ih (i + 1) _ _ _ _ _ (by omega) g1 g2 g3 ?_
                       rw [← hT, g4]
                       congr 1
                       unfold fFac
                       rw [g5]
                       unfold fNear
                       first
                         | (rw [if_pos (decide_eq_true (show max (c 51 33 y0 - c 51 21 s) (c 51 21 s - c 51 33 y0) ≤ c 51 11 4 by omega))]; done)
                         | (rw [if_neg (fun q => absurd (of_decide_eq_true q) (show ¬ max (c 51 33 y0 - c 51 21 s) (c 51 21 s - c 51 33 y0) ≤ c 51 11 4 by omega))]; done))
              · refine r_iconst 144 dX11_worth_143 rfl ?_
                refine r_goto 148 dX11_worth_144 (by decide) ?_
                refine r_icne 155 151 dX11_worth_148 rfl (by decide) (by omega) (by omega) (fun h148 => ?_) (fun h148 => ?_)
                · refine r_iconst 156 dX11_worth_155 rfl ?_
                  refine r_istore8 158 dX11_worth_156 rfl rfl (by decide) ?_
                  refine r_iinc5 161 dX11_worth_158 rfl rfl (by decide) ?_
                  refine r_goto 200 dX11_worth_161 (by decide) ?_
                  refine r_lloadN 201 dX11_worth_200 rfl rfl ?_
                  refine r_iload 203 dX11_worth_201 rfl rfl ?_
                  refine r_ifeqT 216 0 dX11_worth_203 (by decide) (by decide) (by decide) ?_
                  refine r_aloadN 217 dX11_worth_216 rfl rfl ?_
                  refine r_getq 220 dX11_worth_217 rfl fX11_20 (by decide) (sh_50 z _) rfl ?_
                  refine r_iconst 221 dX11_worth_220 rfl ?_
                  refine r_iald (n := 6) 222 dX11_worth_221 (3) rfl rfl (by decide) (sh_51 z _) (by decide) (by omega) (by omega) ?_
                  refine r_i2l 223 dX11_worth_222 rfl (by omega) ?_
                  refine r_lmul 224 dX11_worth_223 rfl ?_
                  refine r_lstore3 225 dX11_worth_224 rfl rfl (by decide) ?_
                  refine r_iinc7 228 dX11_worth_225 rfl rfl (by decide) ?_
                  refine r_goto 21 dX11_worth_228 (by decide) ?_
                  first
                    | (exfalso; omega)
                    | (refine ih (i + 1) _ _ _ _ _ (by omega) g1 g2 g3 ?_
                       rw [← hT, g4]
                       congr 1
                       unfold fFac
                       rw [g5, hsp]
                       first
                         | (rw [y129, decide_eq_true (show c 51 30 x0 = 1 by omega)]; rfl)
                         | (rw [y129, decide_eq_false (show ¬ c 51 30 x0 = 1 by omega)]; rfl))
                    | (refine ih (i + 1) _ _ _ _ _ (by omega) g1 g2 g3 ?_
                       rw [← hT, g4]
                       congr 1
                       unfold fFac
                       rw [g5]
                       unfold fNear
                       first
                         | (rw [if_pos (decide_eq_true (show max (c 51 33 y0 - c 51 21 s) (c 51 21 s - c 51 33 y0) ≤ c 51 11 4 by omega))]; done)
                         | (rw [if_neg (fun q => absurd (of_decide_eq_true q) (show ¬ max (c 51 33 y0 - c 51 21 s) (c 51 21 s - c 51 33 y0) ≤ c 51 11 4 by omega))]; done))
                · refine r_iconst 152 dX11_worth_151 rfl ?_
                  refine r_goto 156 dX11_worth_152 (by decide) ?_
                  refine r_istore8 158 dX11_worth_156 rfl rfl (by decide) ?_
                  refine r_iinc5 161 dX11_worth_158 rfl rfl (by decide) ?_
                  refine r_goto 200 dX11_worth_161 (by decide) ?_
                  refine r_lloadN 201 dX11_worth_200 rfl rfl ?_
                  refine r_iload 203 dX11_worth_201 rfl rfl ?_
                  refine r_ifeqF 206 dX11_worth_203 rfl 216 (by decide) (by decide) (by decide) ?_
                  refine r_aloadN 207 dX11_worth_206 rfl rfl ?_
                  refine r_getq 210 dX11_worth_207 rfl fX11_20 (by decide) (sh_50 z _) rfl ?_
                  refine r_iconst 211 dX11_worth_210 rfl ?_
                  refine r_iald (n := 6) 212 dX11_worth_211 (2) rfl rfl (by decide) (sh_51 z _) (by decide) (by omega) (by omega) ?_
                  refine r_i2l 213 dX11_worth_212 rfl (by omega) ?_
                  refine r_goto 223 dX11_worth_213 (by decide) ?_
                  refine r_lmul 224 dX11_worth_223 rfl ?_
                  refine r_lstore3 225 dX11_worth_224 rfl rfl (by decide) ?_
                  refine r_iinc7 228 dX11_worth_225 rfl rfl (by decide) ?_
                  refine r_goto 21 dX11_worth_228 (by decide) ?_
                  first
                    | (exfalso; omega)
                    | (refine ih (i + 1) _ _ _ _ _ (by omega) g1 g2 g3 ?_
                       rw [← hT, g4]
                       congr 1
                       unfold fFac
                       rw [g5, hsp]
                       first
                         | (rw [y129, decide_eq_true (show c 51 30 x0 = 1 by omega)]; rfl)
                         | (rw [y129, decide_eq_false (show ¬ c 51 30 x0 = 1 by omega)]; rfl))
                    | (refine ih (i + 1) _ _ _ _ _ (by omega) g1 g2 g3 ?_
                       rw [← hT, g4]
                       congr 1
                       unfold fFac
                       rw [g5]
                       unfold fNear
                       first
                         | (rw [if_pos (decide_eq_true (show max (c 51 33 y0 - c 51 21 s) (c 51 21 s - c 51 33 y0) ≤ c 51 11 4 by omega))]; done)
                         | (rw [if_neg (fun q => absurd (of_decide_eq_true q) (show ¬ max (c 51 33 y0 - c 51 21 s) (c 51 21 s - c 51 33 y0) ≤ c 51 11 4 by omega))]; done))
            · refine r_aloadN 133 dX11_worth_132 rfl rfl ?_
              refine r_getq 136 dX11_worth_133 rfl fX11_77 (by decide) (sh_50 z _) rfl ?_
              refine r_iload 138 dX11_worth_136 rfl rfl ?_
              refine r_iald (n := 60) 139 dX11_worth_138 (x0) rfl rfl (by decide) (sh_51 z _) (by decide) (by omega) (by omega) ?_
              refine r_iconst 140 dX11_worth_139 rfl ?_
              refine r_icne 147 143 dX11_worth_140 rfl (by decide) (by omega) (by omega) (fun h140 => ?_) (fun h140 => ?_)
              · refine r_iconst 148 dX11_worth_147 rfl ?_
                refine r_icne 155 151 dX11_worth_148 rfl (by decide) (by omega) (by omega) (fun h148 => ?_) (fun h148 => ?_)
                · refine r_iconst 156 dX11_worth_155 rfl ?_
                  refine r_istore8 158 dX11_worth_156 rfl rfl (by decide) ?_
                  refine r_iinc5 161 dX11_worth_158 rfl rfl (by decide) ?_
                  refine r_goto 200 dX11_worth_161 (by decide) ?_
                  refine r_lloadN 201 dX11_worth_200 rfl rfl ?_
                  refine r_iload 203 dX11_worth_201 rfl rfl ?_
                  refine r_ifeqT 216 0 dX11_worth_203 (by decide) (by decide) (by decide) ?_
                  refine r_aloadN 217 dX11_worth_216 rfl rfl ?_
                  refine r_getq 220 dX11_worth_217 rfl fX11_20 (by decide) (sh_50 z _) rfl ?_
                  refine r_iconst 221 dX11_worth_220 rfl ?_
                  refine r_iald (n := 6) 222 dX11_worth_221 (3) rfl rfl (by decide) (sh_51 z _) (by decide) (by omega) (by omega) ?_
                  refine r_i2l 223 dX11_worth_222 rfl (by omega) ?_
                  refine r_lmul 224 dX11_worth_223 rfl ?_
                  refine r_lstore3 225 dX11_worth_224 rfl rfl (by decide) ?_
                  refine r_iinc7 228 dX11_worth_225 rfl rfl (by decide) ?_
                  refine r_goto 21 dX11_worth_228 (by decide) ?_
                  first
                    | (exfalso; omega)
                    | (refine ih (i + 1) _ _ _ _ _ (by omega) g1 g2 g3 ?_
                       rw [← hT, g4]
                       congr 1
                       unfold fFac
                       rw [g5, hsp]
                       first
                         | (rw [y129, decide_eq_true (show c 51 30 x0 = 1 by omega)]; rfl)
                         | (rw [y129, decide_eq_false (show ¬ c 51 30 x0 = 1 by omega)]; rfl))
                    | (refine ih (i + 1) _ _ _ _ _ (by omega) g1 g2 g3 ?_
                       rw [← hT, g4]
                       congr 1
                       unfold fFac
                       rw [g5]
                       unfold fNear
                       first
                         | (rw [if_pos (decide_eq_true (show max (c 51 33 y0 - c 51 21 s) (c 51 21 s - c 51 33 y0) ≤ c 51 11 4 by omega))]; done)
                         | (rw [if_neg (fun q => absurd (of_decide_eq_true q) (show ¬ max (c 51 33 y0 - c 51 21 s) (c 51 21 s - c 51 33 y0) ≤ c 51 11 4 by omega))]; done))
                · refine r_iconst 152 dX11_worth_151 rfl ?_
                  refine r_goto 156 dX11_worth_152 (by decide) ?_
                  refine r_istore8 158 dX11_worth_156 rfl rfl (by decide) ?_
                  refine r_iinc5 161 dX11_worth_158 rfl rfl (by decide) ?_
                  refine r_goto 200 dX11_worth_161 (by decide) ?_
                  refine r_lloadN 201 dX11_worth_200 rfl rfl ?_
                  refine r_iload 203 dX11_worth_201 rfl rfl ?_
                  refine r_ifeqF 206 dX11_worth_203 rfl 216 (by decide) (by decide) (by decide) ?_
                  refine r_aloadN 207 dX11_worth_206 rfl rfl ?_
                  refine r_getq 210 dX11_worth_207 rfl fX11_20 (by decide) (sh_50 z _) rfl ?_
                  refine r_iconst 211 dX11_worth_210 rfl ?_
                  refine r_iald (n := 6) 212 dX11_worth_211 (2) rfl rfl (by decide) (sh_51 z _) (by decide) (by omega) (by omega) ?_
                  refine r_i2l 213 dX11_worth_212 rfl (by omega) ?_
                  refine r_goto 223 dX11_worth_213 (by decide) ?_
                  refine r_lmul 224 dX11_worth_223 rfl ?_
                  refine r_lstore3 225 dX11_worth_224 rfl rfl (by decide) ?_
                  refine r_iinc7 228 dX11_worth_225 rfl rfl (by decide) ?_
                  refine r_goto 21 dX11_worth_228 (by decide) ?_
                  first
                    | (exfalso; omega)
                    | (refine ih (i + 1) _ _ _ _ _ (by omega) g1 g2 g3 ?_
                       rw [← hT, g4]
                       congr 1
                       unfold fFac
                       rw [g5, hsp]
                       first
                         | (rw [y129, decide_eq_true (show c 51 30 x0 = 1 by omega)]; rfl)
                         | (rw [y129, decide_eq_false (show ¬ c 51 30 x0 = 1 by omega)]; rfl))
                    | (refine ih (i + 1) _ _ _ _ _ (by omega) g1 g2 g3 ?_
                       rw [← hT, g4]
                       congr 1
                       unfold fFac
                       rw [g5]
                       unfold fNear
                       first
                         | (rw [if_pos (decide_eq_true (show max (c 51 33 y0 - c 51 21 s) (c 51 21 s - c 51 33 y0) ≤ c 51 11 4 by omega))]; done)
                         | (rw [if_neg (fun q => absurd (of_decide_eq_true q) (show ¬ max (c 51 33 y0 - c 51 21 s) (c 51 21 s - c 51 33 y0) ≤ c 51 11 4 by omega))]; done))
              · refine r_iconst 144 dX11_worth_143 rfl ?_
                refine r_goto 148 dX11_worth_144 (by decide) ?_
                refine r_icne 155 151 dX11_worth_148 rfl (by decide) (by omega) (by omega) (fun h148 => ?_) (fun h148 => ?_)
                · refine r_iconst 156 dX11_worth_155 rfl ?_
                  refine r_istore8 158 dX11_worth_156 rfl rfl (by decide) ?_
                  refine r_iinc5 161 dX11_worth_158 rfl rfl (by decide) ?_
                  refine r_goto 200 dX11_worth_161 (by decide) ?_
                  refine r_lloadN 201 dX11_worth_200 rfl rfl ?_
                  refine r_iload 203 dX11_worth_201 rfl rfl ?_
                  refine r_ifeqT 216 0 dX11_worth_203 (by decide) (by decide) (by decide) ?_
                  refine r_aloadN 217 dX11_worth_216 rfl rfl ?_
                  refine r_getq 220 dX11_worth_217 rfl fX11_20 (by decide) (sh_50 z _) rfl ?_
                  refine r_iconst 221 dX11_worth_220 rfl ?_
                  refine r_iald (n := 6) 222 dX11_worth_221 (3) rfl rfl (by decide) (sh_51 z _) (by decide) (by omega) (by omega) ?_
                  refine r_i2l 223 dX11_worth_222 rfl (by omega) ?_
                  refine r_lmul 224 dX11_worth_223 rfl ?_
                  refine r_lstore3 225 dX11_worth_224 rfl rfl (by decide) ?_
                  refine r_iinc7 228 dX11_worth_225 rfl rfl (by decide) ?_
                  refine r_goto 21 dX11_worth_228 (by decide) ?_
                  first
                    | (exfalso; omega)
                    | (refine ih (i + 1) _ _ _ _ _ (by omega) g1 g2 g3 ?_
                       rw [← hT, g4]
                       congr 1
                       unfold fFac
                       rw [g5, hsp]
                       first
                         | (rw [y129, decide_eq_true (show c 51 30 x0 = 1 by omega)]; rfl)
                         | (rw [y129, decide_eq_false (show ¬ c 51 30 x0 = 1 by omega)]; rfl))
                    | (refine ih (i + 1) _ _ _ _ _ (by omega) g1 g2 g3 ?_
                       rw [← hT, g4]
                       congr 1
                       unfold fFac
                       rw [g5]
                       unfold fNear
                       first
                         | (rw [if_pos (decide_eq_true (show max (c 51 33 y0 - c 51 21 s) (c 51 21 s - c 51 33 y0) ≤ c 51 11 4 by omega))]; done)
                         | (rw [if_neg (fun q => absurd (of_decide_eq_true q) (show ¬ max (c 51 33 y0 - c 51 21 s) (c 51 21 s - c 51 33 y0) ≤ c 51 11 4 by omega))]; done))
                · refine r_iconst 152 dX11_worth_151 rfl ?_
                  refine r_goto 156 dX11_worth_152 (by decide) ?_
                  refine r_istore8 158 dX11_worth_156 rfl rfl (by decide) ?_
                  refine r_iinc5 161 dX11_worth_158 rfl rfl (by decide) ?_
                  refine r_goto 200 dX11_worth_161 (by decide) ?_
                  refine r_lloadN 201 dX11_worth_200 rfl rfl ?_
                  refine r_iload 203 dX11_worth_201 rfl rfl ?_
                  refine r_ifeqF 206 dX11_worth_203 rfl 216 (by decide) (by decide) (by decide) ?_
                  refine r_aloadN 207 dX11_worth_206 rfl rfl ?_
                  refine r_getq 210 dX11_worth_207 rfl fX11_20 (by decide) (sh_50 z _) rfl ?_
                  refine r_iconst 211 dX11_worth_210 rfl ?_
                  refine r_iald (n := 6) 212 dX11_worth_211 (2) rfl rfl (by decide) (sh_51 z _) (by decide) (by omega) (by omega) ?_
                  refine r_i2l 213 dX11_worth_212 rfl (by omega) ?_
                  refine r_goto 223 dX11_worth_213 (by decide) ?_
                  refine r_lmul 224 dX11_worth_223 rfl ?_
                  refine r_lstore3 225 dX11_worth_224 rfl rfl (by decide) ?_
                  refine r_iinc7 228 dX11_worth_225 rfl rfl (by decide) ?_
                  refine r_goto 21 dX11_worth_228 (by decide) ?_
                  first
                    | (exfalso; omega)
                    | (refine ih (i + 1) _ _ _ _ _ (by omega) g1 g2 g3 ?_
                       rw [← hT, g4]
                       congr 1
                       unfold fFac
                       rw [g5, hsp]
                       first
                         | (rw [y129, decide_eq_true (show c 51 30 x0 = 1 by omega)]; rfl)
                         | (rw [y129, decide_eq_false (show ¬ c 51 30 x0 = 1 by omega)]; rfl))
                    | (refine ih (i + 1) _ _ _ _ _ (by omega) g1 g2 g3 ?_
                       rw [← hT, g4]
                       congr 1
                       unfold fFac
                       rw [g5]
                       unfold fNear
                       first
                         | (rw [if_pos (decide_eq_true (show max (c 51 33 y0 - c 51 21 s) (c 51 21 s - c 51 33 y0) ≤ c 51 11 4 by omega))]; done)
                         | (rw [if_neg (fun q => absurd (of_decide_eq_true q) (show ¬ max (c 51 33 y0 - c 51 21 s) (c 51 21 s - c 51 33 y0) ≤ c 51 11 4 by omega))]; done))
          · refine r_iload 92 dX11_worth_90 rfl rfl ?_
            refine r_iflt 164 95 dX11_worth_92 rfl (by decide) (by omega) (fun h92 => ?_) (fun h92 => ?_)
            · obtain ⟨y0, hy0⟩ := Int.eq_ofNat_of_zero_le (show 0 ≤ y1 by omega)
              subst hy0
              have hpr := R0_match hR y0 (by omega)
              have hyx : 0 ≤ x1 → c 51 31 x1.toNat ≤ c 51 34 y0 := fun q => by first | (exfalso; omega) | exact h109
              obtain ⟨g1, g2, g3, g4, g5⟩ := wor_match (s := s) (l := k) (w := w) hR hI1 hJ1 hK (by have := hy1 (by omega); rw [Int.toNat_natCast] at this; exact this) hyx
              refine r_aloadN 165 dX11_worth_164 rfl rfl ?_
              refine r_aloadN 166 dX11_worth_165 rfl rfl ?_
              refine r_getq 169 dX11_worth_166 rfl fX11_86 (by decide) (sh_50 z _) rfl ?_
              refine r_iload 171 dX11_worth_169 rfl rfl ?_
              refine r_iald (n := 20) 172 dX11_worth_171 (y0) rfl rfl (by decide) (sh_51 z _) (by decide) (by omega) (by omega) ?_
              refine r_aloadN 173 dX11_worth_172 rfl rfl ?_
              refine r_getq 176 dX11_worth_173 rfl fX11_50 (by decide) (sh_50 z _) rfl ?_
              refine r_iloadN 177 dX11_worth_176 rfl rfl ?_
              refine r_iald (n := 14) 178 dX11_worth_177 (s) rfl rfl (by decide) (sh_51 z _) (by decide) (by omega) (by omega) ?_
              refine r_cv2 181 dX11_worth_178 rfl gX11_266 rfl (by decide) (sh_50 z _) rfl rfl (Nat.le_of_ble_eq_true rfl) (Nat.le_of_ble_eq_true rfl) rfl ?_
              refine m_apart (by omega) (by omega) (fun r178 e178 => ?_)
              refine r_aloadN 182 dX11_worth_181 rfl rfl ?_
              refine r_getq 185 dX11_worth_182 rfl fX11_20 (by decide) (sh_50 z _) rfl ?_
              refine r_iconst 186 dX11_worth_185 rfl ?_
              refine r_iald (n := 6) 187 dX11_worth_186 (4) rfl rfl (by decide) (sh_51 z _) (by decide) (by omega) (by omega) ?_
              refine r_icgt 194 190 dX11_worth_187 rfl (by decide) (by omega) (by omega) (fun h187 => ?_) (fun h187 => ?_)
              · refine r_iconst 195 dX11_worth_194 rfl ?_
                refine r_istore8 197 dX11_worth_195 rfl rfl (by decide) ?_
                refine r_iinc6 200 dX11_worth_197 rfl rfl (by decide) ?_
                refine r_lloadN 201 dX11_worth_200 rfl rfl ?_
                refine r_iload 203 dX11_worth_201 rfl rfl ?_
                refine r_ifeqT 216 0 dX11_worth_203 (by decide) (by decide) (by decide) ?_
                refine r_aloadN 217 dX11_worth_216 rfl rfl ?_
                refine r_getq 220 dX11_worth_217 rfl fX11_20 (by decide) (sh_50 z _) rfl ?_
                refine r_iconst 221 dX11_worth_220 rfl ?_
                refine r_iald (n := 6) 222 dX11_worth_221 (3) rfl rfl (by decide) (sh_51 z _) (by decide) (by omega) (by omega) ?_
                refine r_i2l 223 dX11_worth_222 rfl (by omega) ?_
                refine r_lmul 224 dX11_worth_223 rfl ?_
                refine r_lstore3 225 dX11_worth_224 rfl rfl (by decide) ?_
                refine r_iinc7 228 dX11_worth_225 rfl rfl (by decide) ?_
                refine r_goto 21 dX11_worth_228 (by decide) ?_
                first
                  | (exfalso; omega)
                  | (refine ih (i + 1) _ _ _ _ _ (by omega) g1 g2 g3 ?_
                     rw [← hT, g4]
                     congr 1
                     unfold fFac
                     rw [g5, hsp]
                     first
                       | (rw [y129, decide_eq_true (show c 51 30 x0 = 1 by omega)]; rfl)
                       | (rw [y129, decide_eq_false (show ¬ c 51 30 x0 = 1 by omega)]; rfl))
                  | (refine ih (i + 1) _ _ _ _ _ (by omega) g1 g2 g3 ?_
                     rw [← hT, g4]
                     congr 1
                     unfold fFac
                     rw [g5]
                     unfold fNear
                     first
                       | (rw [if_pos (decide_eq_true (show max (c 51 33 y0 - c 51 21 s) (c 51 21 s - c 51 33 y0) ≤ c 51 11 4 by omega))]; done)
                       | (rw [if_neg (fun q => absurd (of_decide_eq_true q) (show ¬ max (c 51 33 y0 - c 51 21 s) (c 51 21 s - c 51 33 y0) ≤ c 51 11 4 by omega))]; done))
              · refine r_iconst 191 dX11_worth_190 rfl ?_
                refine r_goto 195 dX11_worth_191 (by decide) ?_
                refine r_istore8 197 dX11_worth_195 rfl rfl (by decide) ?_
                refine r_iinc6 200 dX11_worth_197 rfl rfl (by decide) ?_
                refine r_lloadN 201 dX11_worth_200 rfl rfl ?_
                refine r_iload 203 dX11_worth_201 rfl rfl ?_
                refine r_ifeqF 206 dX11_worth_203 rfl 216 (by decide) (by decide) (by decide) ?_
                refine r_aloadN 207 dX11_worth_206 rfl rfl ?_
                refine r_getq 210 dX11_worth_207 rfl fX11_20 (by decide) (sh_50 z _) rfl ?_
                refine r_iconst 211 dX11_worth_210 rfl ?_
                refine r_iald (n := 6) 212 dX11_worth_211 (2) rfl rfl (by decide) (sh_51 z _) (by decide) (by omega) (by omega) ?_
                refine r_i2l 213 dX11_worth_212 rfl (by omega) ?_
                refine r_goto 223 dX11_worth_213 (by decide) ?_
                refine r_lmul 224 dX11_worth_223 rfl ?_
                refine r_lstore3 225 dX11_worth_224 rfl rfl (by decide) ?_
                refine r_iinc7 228 dX11_worth_225 rfl rfl (by decide) ?_
                refine r_goto 21 dX11_worth_228 (by decide) ?_
                first
                  | (exfalso; omega)
                  | (refine ih (i + 1) _ _ _ _ _ (by omega) g1 g2 g3 ?_
                     rw [← hT, g4]
                     congr 1
                     unfold fFac
                     rw [g5, hsp]
                     first
                       | (rw [y129, decide_eq_true (show c 51 30 x0 = 1 by omega)]; rfl)
                       | (rw [y129, decide_eq_false (show ¬ c 51 30 x0 = 1 by omega)]; rfl))
                  | (refine ih (i + 1) _ _ _ _ _ (by omega) g1 g2 g3 ?_
                     rw [← hT, g4]
                     congr 1
                     unfold fFac
                     rw [g5]
                     unfold fNear
                     first
                       | (rw [if_pos (decide_eq_true (show max (c 51 33 y0 - c 51 21 s) (c 51 21 s - c 51 33 y0) ≤ c 51 11 4 by omega))]; done)
                       | (rw [if_neg (fun q => absurd (of_decide_eq_true q) (show ¬ max (c 51 33 y0 - c 51 21 s) (c 51 21 s - c 51 33 y0) ≤ c 51 11 4 by omega))]; done))
            · refine r_aloadN 96 dX11_worth_95 rfl rfl ?_
              refine r_getq 99 dX11_worth_96 rfl fX11_80 (by decide) (sh_50 z _) rfl ?_
              refine r_iload 101 dX11_worth_99 rfl rfl ?_
              refine r_iald (n := 60) 102 dX11_worth_101 _ rfl rfl (by decide) (sh_51 z _) (by decide) (by omega) (by omega) ?_
              refine r_aloadN 103 dX11_worth_102 rfl rfl ?_
              refine r_getq 106 dX11_worth_103 rfl fX11_89 (by decide) (sh_50 z _) rfl ?_
              refine r_iload 108 dX11_worth_106 rfl rfl ?_
              refine r_iald (n := 20) 109 dX11_worth_108 _ rfl rfl (by decide) (sh_51 z _) (by decide) (by omega) (by omega) ?_
              refine r_icle 164 112 dX11_worth_109 rfl (by decide) (by have := (R0_press hR x1.toNat (by omega)).2.1; omega) (by have := (R0_match hR y1.toNat (by omega)).2.1; omega) (fun h109 => ?_) (fun h109 => ?_)
              · obtain ⟨y0, hy0⟩ := Int.eq_ofNat_of_zero_le (show 0 ≤ y1 by omega)
                subst hy0
                have hpr := R0_match hR y0 (by omega)
                have hyx : 0 ≤ x1 → c 51 31 x1.toNat ≤ c 51 34 y0 := fun q => by first | (exfalso; omega) | exact h109
                obtain ⟨g1, g2, g3, g4, g5⟩ := wor_match (s := s) (l := k) (w := w) hR hI1 hJ1 hK (by have := hy1 (by omega); rw [Int.toNat_natCast] at this; exact this) hyx
                refine r_aloadN 165 dX11_worth_164 rfl rfl ?_
                refine r_aloadN 166 dX11_worth_165 rfl rfl ?_
                refine r_getq 169 dX11_worth_166 rfl fX11_86 (by decide) (sh_50 z _) rfl ?_
                refine r_iload 171 dX11_worth_169 rfl rfl ?_
                refine r_iald (n := 20) 172 dX11_worth_171 (y0) rfl rfl (by decide) (sh_51 z _) (by decide) (by omega) (by omega) ?_
                refine r_aloadN 173 dX11_worth_172 rfl rfl ?_
                refine r_getq 176 dX11_worth_173 rfl fX11_50 (by decide) (sh_50 z _) rfl ?_
                refine r_iloadN 177 dX11_worth_176 rfl rfl ?_
                refine r_iald (n := 14) 178 dX11_worth_177 (s) rfl rfl (by decide) (sh_51 z _) (by decide) (by omega) (by omega) ?_
                refine r_cv2 181 dX11_worth_178 rfl gX11_266 rfl (by decide) (sh_50 z _) rfl rfl (Nat.le_of_ble_eq_true rfl) (Nat.le_of_ble_eq_true rfl) rfl ?_
                refine m_apart (by omega) (by omega) (fun r178 e178 => ?_)
                refine r_aloadN 182 dX11_worth_181 rfl rfl ?_
                refine r_getq 185 dX11_worth_182 rfl fX11_20 (by decide) (sh_50 z _) rfl ?_
                refine r_iconst 186 dX11_worth_185 rfl ?_
                refine r_iald (n := 6) 187 dX11_worth_186 (4) rfl rfl (by decide) (sh_51 z _) (by decide) (by omega) (by omega) ?_
                refine r_icgt 194 190 dX11_worth_187 rfl (by decide) (by omega) (by omega) (fun h187 => ?_) (fun h187 => ?_)
                · refine r_iconst 195 dX11_worth_194 rfl ?_
                  refine r_istore8 197 dX11_worth_195 rfl rfl (by decide) ?_
                  refine r_iinc6 200 dX11_worth_197 rfl rfl (by decide) ?_
                  refine r_lloadN 201 dX11_worth_200 rfl rfl ?_
                  refine r_iload 203 dX11_worth_201 rfl rfl ?_
                  refine r_ifeqT 216 0 dX11_worth_203 (by decide) (by decide) (by decide) ?_
                  refine r_aloadN 217 dX11_worth_216 rfl rfl ?_
                  refine r_getq 220 dX11_worth_217 rfl fX11_20 (by decide) (sh_50 z _) rfl ?_
                  refine r_iconst 221 dX11_worth_220 rfl ?_
                  refine r_iald (n := 6) 222 dX11_worth_221 (3) rfl rfl (by decide) (sh_51 z _) (by decide) (by omega) (by omega) ?_
                  refine r_i2l 223 dX11_worth_222 rfl (by omega) ?_
                  refine r_lmul 224 dX11_worth_223 rfl ?_
                  refine r_lstore3 225 dX11_worth_224 rfl rfl (by decide) ?_
                  refine r_iinc7 228 dX11_worth_225 rfl rfl (by decide) ?_
                  refine r_goto 21 dX11_worth_228 (by decide) ?_
                  first
                    | (exfalso; omega)
                    | (refine ih (i + 1) _ _ _ _ _ (by omega) g1 g2 g3 ?_
                       rw [← hT, g4]
                       congr 1
                       unfold fFac
                       rw [g5, hsp]
                       first
                         | (rw [y129, decide_eq_true (show c 51 30 x0 = 1 by omega)]; rfl)
                         | (rw [y129, decide_eq_false (show ¬ c 51 30 x0 = 1 by omega)]; rfl))
                    | (refine ih (i + 1) _ _ _ _ _ (by omega) g1 g2 g3 ?_
                       rw [← hT, g4]
                       congr 1
                       unfold fFac
                       rw [g5]
                       unfold fNear
                       first
                         | (rw [if_pos (decide_eq_true (show max (c 51 33 y0 - c 51 21 s) (c 51 21 s - c 51 33 y0) ≤ c 51 11 4 by omega))]; done)
                         | (rw [if_neg (fun q => absurd (of_decide_eq_true q) (show ¬ max (c 51 33 y0 - c 51 21 s) (c 51 21 s - c 51 33 y0) ≤ c 51 11 4 by omega))]; done))
                · refine r_iconst 191 dX11_worth_190 rfl ?_
                  refine r_goto 195 dX11_worth_191 (by decide) ?_
                  refine r_istore8 197 dX11_worth_195 rfl rfl (by decide) ?_
                  refine r_iinc6 200 dX11_worth_197 rfl rfl (by decide) ?_
                  refine r_lloadN 201 dX11_worth_200 rfl rfl ?_
                  refine r_iload 203 dX11_worth_201 rfl rfl ?_
                  refine r_ifeqF 206 dX11_worth_203 rfl 216 (by decide) (by decide) (by decide) ?_
                  refine r_aloadN 207 dX11_worth_206 rfl rfl ?_
                  refine r_getq 210 dX11_worth_207 rfl fX11_20 (by decide) (sh_50 z _) rfl ?_
                  refine r_iconst 211 dX11_worth_210 rfl ?_
                  refine r_iald (n := 6) 212 dX11_worth_211 (2) rfl rfl (by decide) (sh_51 z _) (by decide) (by omega) (by omega) ?_
                  refine r_i2l 213 dX11_worth_212 rfl (by omega) ?_
                  refine r_goto 223 dX11_worth_213 (by decide) ?_
                  refine r_lmul 224 dX11_worth_223 rfl ?_
                  refine r_lstore3 225 dX11_worth_224 rfl rfl (by decide) ?_
                  refine r_iinc7 228 dX11_worth_225 rfl rfl (by decide) ?_
                  refine r_goto 21 dX11_worth_228 (by decide) ?_
                  first
                    | (exfalso; omega)
                    | (refine ih (i + 1) _ _ _ _ _ (by omega) g1 g2 g3 ?_
                       rw [← hT, g4]
                       congr 1
                       unfold fFac
                       rw [g5, hsp]
                       first
                         | (rw [y129, decide_eq_true (show c 51 30 x0 = 1 by omega)]; rfl)
                         | (rw [y129, decide_eq_false (show ¬ c 51 30 x0 = 1 by omega)]; rfl))
                    | (refine ih (i + 1) _ _ _ _ _ (by omega) g1 g2 g3 ?_
                       rw [← hT, g4]
                       congr 1
                       unfold fFac
                       rw [g5]
                       unfold fNear
                       first
                         | (rw [if_pos (decide_eq_true (show max (c 51 33 y0 - c 51 21 s) (c 51 21 s - c 51 33 y0) ≤ c 51 11 4 by omega))]; done)
                         | (rw [if_neg (fun q => absurd (of_decide_eq_true q) (show ¬ max (c 51 33 y0 - c 51 21 s) (c 51 21 s - c 51 33 y0) ≤ c 51 11 4 by omega))]; done))
              · obtain ⟨x0, hx0⟩ := Int.eq_ofNat_of_zero_le (show 0 ≤ x1 by omega)
                subst hx0
                have hpr := R0_press hR x0 (by omega)
                obtain ⟨sp, hsp⟩ := Int.eq_ofNat_of_zero_le (show 0 ≤ c 51 29 x0 by omega)
                have hyx : 0 ≤ y1 → c 51 34 y1.toNat < c 51 31 x0 := fun q => by first | (exfalso; omega) | exact h109
                obtain ⟨g1, g2, g3, g4, g5⟩ := wor_press (s := s) (l := k) (w := w) hR hI1 hJ1 hK (by have := hx1 (by omega); rw [Int.toNat_natCast] at this; exact this) hyx
                refine r_aloadN 113 dX11_worth_112 rfl rfl ?_
                refine r_iloadN 114 dX11_worth_113 rfl rfl ?_
                refine r_iloadN 115 dX11_worth_114 rfl rfl ?_
                refine r_aloadN 116 dX11_worth_115 rfl rfl ?_
                refine r_getq 119 dX11_worth_116 rfl fX11_74 (by decide) (sh_50 z _) rfl ?_
                refine r_iload 121 dX11_worth_119 rfl rfl ?_
                refine r_iald (n := 60) 122 dX11_worth_121 (x0) rfl rfl (by decide) (sh_51 z _) (by decide) (by omega) (by omega) ?_
                refine r_aloadN 123 dX11_worth_122 rfl rfl ?_
                refine r_getq 126 dX11_worth_123 rfl fX11_71 (by decide) (sh_50 z _) rfl ?_
                refine r_iload 128 dX11_worth_126 rfl rfl ?_
                refine r_iald (n := 60) 129 dX11_worth_128 (x0) rfl rfl (by decide) (sh_51 z _) (by decide) (by omega) (by omega) ?_
                rw [hsp]
                refine r_cv4 132 dX11_worth_129 rfl gX11_295 rfl (by decide) (sh_50 z _) rfl rfl (Nat.le_of_ble_eq_true rfl) (Nat.le_of_ble_eq_true rfl) rfl ?_
                refine m_isHearing hR hn hs (sp := sp) (by omega) hp (by omega) (fun y129 => ?_) (fun y129 => ?_)
                · refine r_aloadN 133 dX11_worth_132 rfl rfl ?_
                  refine r_getq 136 dX11_worth_133 rfl fX11_77 (by decide) (sh_50 z _) rfl ?_
                  refine r_iload 138 dX11_worth_136 rfl rfl ?_
                  refine r_iald (n := 60) 139 dX11_worth_138 (x0) rfl rfl (by decide) (sh_51 z _) (by decide) (by omega) (by omega) ?_
                  refine r_iconst 140 dX11_worth_139 rfl ?_
                  refine r_icne 147 143 dX11_worth_140 rfl (by decide) (by omega) (by omega) (fun h140 => ?_) (fun h140 => ?_)
                  · refine r_iconst 148 dX11_worth_147 rfl ?_
                    refine r_icne 155 151 dX11_worth_148 rfl (by decide) (by omega) (by omega) (fun h148 => ?_) (fun h148 => ?_)
                    · refine r_iconst 156 dX11_worth_155 rfl ?_
                      refine r_istore8 158 dX11_worth_156 rfl rfl (by decide) ?_
                      refine r_iinc5 161 dX11_worth_158 rfl rfl (by decide) ?_
                      refine r_goto 200 dX11_worth_161 (by decide) ?_
                      refine r_lloadN 201 dX11_worth_200 rfl rfl ?_
                      refine r_iload 203 dX11_worth_201 rfl rfl ?_
                      refine r_ifeqT 216 0 dX11_worth_203 (by decide) (by decide) (by decide) ?_
                      refine r_aloadN 217 dX11_worth_216 rfl rfl ?_
                      refine r_getq 220 dX11_worth_217 rfl fX11_20 (by decide) (sh_50 z _) rfl ?_
                      refine r_iconst 221 dX11_worth_220 rfl ?_
                      refine r_iald (n := 6) 222 dX11_worth_221 (3) rfl rfl (by decide) (sh_51 z _) (by decide) (by omega) (by omega) ?_
                      refine r_i2l 223 dX11_worth_222 rfl (by omega) ?_
                      refine r_lmul 224 dX11_worth_223 rfl ?_
                      refine r_lstore3 225 dX11_worth_224 rfl rfl (by decide) ?_
                      refine r_iinc7 228 dX11_worth_225 rfl rfl (by decide) ?_
                      refine r_goto 21 dX11_worth_228 (by decide) ?_
                      first
                        | (exfalso; omega)
                        | (refine ih (i + 1) _ _ _ _ _ (by omega) g1 g2 g3 ?_
                           rw [← hT, g4]
                           congr 1
                           unfold fFac
                           rw [g5, hsp]
                           first
                             | (rw [y129, decide_eq_true (show c 51 30 x0 = 1 by omega)]; rfl)
                             | (rw [y129, decide_eq_false (show ¬ c 51 30 x0 = 1 by omega)]; rfl))
                        | (refine ih (i + 1) _ _ _ _ _ (by omega) g1 g2 g3 ?_
                           rw [← hT, g4]
                           congr 1
                           unfold fFac
                           rw [g5]
                           unfold fNear
                           first
                             | (rw [if_pos (decide_eq_true (show max (c 51 33 y0 - c 51 21 s) (c 51 21 s - c 51 33 y0) ≤ c 51 11 4 by omega))]; done)
                             | (rw [if_neg (fun q => absurd (of_decide_eq_true q) (show ¬ max (c 51 33 y0 - c 51 21 s) (c 51 21 s - c 51 33 y0) ≤ c 51 11 4 by omega))]; done))
                    · refine r_iconst 152 dX11_worth_151 rfl ?_
                      refine r_goto 156 dX11_worth_152 (by decide) ?_
                      refine r_istore8 158 dX11_worth_156 rfl rfl (by decide) ?_
                      refine r_iinc5 161 dX11_worth_158 rfl rfl (by decide) ?_
                      refine r_goto 200 dX11_worth_161 (by decide) ?_
                      refine r_lloadN 201 dX11_worth_200 rfl rfl ?_
                      refine r_iload 203 dX11_worth_201 rfl rfl ?_
                      refine r_ifeqF 206 dX11_worth_203 rfl 216 (by decide) (by decide) (by decide) ?_
                      refine r_aloadN 207 dX11_worth_206 rfl rfl ?_
                      refine r_getq 210 dX11_worth_207 rfl fX11_20 (by decide) (sh_50 z _) rfl ?_
                      refine r_iconst 211 dX11_worth_210 rfl ?_
                      refine r_iald (n := 6) 212 dX11_worth_211 (2) rfl rfl (by decide) (sh_51 z _) (by decide) (by omega) (by omega) ?_
                      refine r_i2l 213 dX11_worth_212 rfl (by omega) ?_
                      refine r_goto 223 dX11_worth_213 (by decide) ?_
                      refine r_lmul 224 dX11_worth_223 rfl ?_
                      refine r_lstore3 225 dX11_worth_224 rfl rfl (by decide) ?_
                      refine r_iinc7 228 dX11_worth_225 rfl rfl (by decide) ?_
                      refine r_goto 21 dX11_worth_228 (by decide) ?_
                      first
                        | (exfalso; omega)
                        | (refine ih (i + 1) _ _ _ _ _ (by omega) g1 g2 g3 ?_
                           rw [← hT, g4]
                           congr 1
                           unfold fFac
                           rw [g5, hsp]
                           first
                             | (rw [y129, decide_eq_true (show c 51 30 x0 = 1 by omega)]; rfl)
                             | (rw [y129, decide_eq_false (show ¬ c 51 30 x0 = 1 by omega)]; rfl))
                        | (refine ih (i + 1) _ _ _ _ _ (by omega) g1 g2 g3 ?_
                           rw [← hT, g4]
                           congr 1
                           unfold fFac
                           rw [g5]
                           unfold fNear
                           first
                             | (rw [if_pos (decide_eq_true (show max (c 51 33 y0 - c 51 21 s) (c 51 21 s - c 51 33 y0) ≤ c 51 11 4 by omega))]; done)
                             | (rw [if_neg (fun q => absurd (of_decide_eq_true q) (show ¬ max (c 51 33 y0 - c 51 21 s) (c 51 21 s - c 51 33 y0) ≤ c 51 11 4 by omega))]; done))
                  · refine r_iconst 144 dX11_worth_143 rfl ?_
                    refine r_goto 148 dX11_worth_144 (by decide) ?_
                    refine r_icne 155 151 dX11_worth_148 rfl (by decide) (by omega) (by omega) (fun h148 => ?_) (fun h148 => ?_)
                    · refine r_iconst 156 dX11_worth_155 rfl ?_
                      refine r_istore8 158 dX11_worth_156 rfl rfl (by decide) ?_
                      refine r_iinc5 161 dX11_worth_158 rfl rfl (by decide) ?_
                      refine r_goto 200 dX11_worth_161 (by decide) ?_
                      refine r_lloadN 201 dX11_worth_200 rfl rfl ?_
                      refine r_iload 203 dX11_worth_201 rfl rfl ?_
                      refine r_ifeqT 216 0 dX11_worth_203 (by decide) (by decide) (by decide) ?_
                      refine r_aloadN 217 dX11_worth_216 rfl rfl ?_
                      refine r_getq 220 dX11_worth_217 rfl fX11_20 (by decide) (sh_50 z _) rfl ?_
                      refine r_iconst 221 dX11_worth_220 rfl ?_
                      refine r_iald (n := 6) 222 dX11_worth_221 (3) rfl rfl (by decide) (sh_51 z _) (by decide) (by omega) (by omega) ?_
                      refine r_i2l 223 dX11_worth_222 rfl (by omega) ?_
                      refine r_lmul 224 dX11_worth_223 rfl ?_
                      refine r_lstore3 225 dX11_worth_224 rfl rfl (by decide) ?_
                      refine r_iinc7 228 dX11_worth_225 rfl rfl (by decide) ?_
                      refine r_goto 21 dX11_worth_228 (by decide) ?_
                      first
                        | (exfalso; omega)
                        | (refine ih (i + 1) _ _ _ _ _ (by omega) g1 g2 g3 ?_
                           rw [← hT, g4]
                           congr 1
                           unfold fFac
                           rw [g5, hsp]
                           first
                             | (rw [y129, decide_eq_true (show c 51 30 x0 = 1 by omega)]; rfl)
                             | (rw [y129, decide_eq_false (show ¬ c 51 30 x0 = 1 by omega)]; rfl))
                        | (refine ih (i + 1) _ _ _ _ _ (by omega) g1 g2 g3 ?_
                           rw [← hT, g4]
                           congr 1
                           unfold fFac
                           rw [g5]
                           unfold fNear
                           first
                             | (rw [if_pos (decide_eq_true (show max (c 51 33 y0 - c 51 21 s) (c 51 21 s - c 51 33 y0) ≤ c 51 11 4 by omega))]; done)
                             | (rw [if_neg (fun q => absurd (of_decide_eq_true q) (show ¬ max (c 51 33 y0 - c 51 21 s) (c 51 21 s - c 51 33 y0) ≤ c 51 11 4 by omega))]; done))
                    · refine r_iconst 152 dX11_worth_151 rfl ?_
                      refine r_goto 156 dX11_worth_152 (by decide) ?_
                      refine r_istore8 158 dX11_worth_156 rfl rfl (by decide) ?_
                      refine r_iinc5 161 dX11_worth_158 rfl rfl (by decide) ?_
                      refine r_goto 200 dX11_worth_161 (by decide) ?_
                      refine r_lloadN 201 dX11_worth_200 rfl rfl ?_
                      refine r_iload 203 dX11_worth_201 rfl rfl ?_
                      refine r_ifeqF 206 dX11_worth_203 rfl 216 (by decide) (by decide) (by decide) ?_
                      refine r_aloadN 207 dX11_worth_206 rfl rfl ?_
                      refine r_getq 210 dX11_worth_207 rfl fX11_20 (by decide) (sh_50 z _) rfl ?_
                      refine r_iconst 211 dX11_worth_210 rfl ?_
                      refine r_iald (n := 6) 212 dX11_worth_211 (2) rfl rfl (by decide) (sh_51 z _) (by decide) (by omega) (by omega) ?_
                      refine r_i2l 213 dX11_worth_212 rfl (by omega) ?_
                      refine r_goto 223 dX11_worth_213 (by decide) ?_
                      refine r_lmul 224 dX11_worth_223 rfl ?_
                      refine r_lstore3 225 dX11_worth_224 rfl rfl (by decide) ?_
                      refine r_iinc7 228 dX11_worth_225 rfl rfl (by decide) ?_
                      refine r_goto 21 dX11_worth_228 (by decide) ?_
                      first
                        | (exfalso; omega)
                        | (refine ih (i + 1) _ _ _ _ _ (by omega) g1 g2 g3 ?_
                           rw [← hT, g4]
                           congr 1
                           unfold fFac
                           rw [g5, hsp]
                           first
                             | (rw [y129, decide_eq_true (show c 51 30 x0 = 1 by omega)]; rfl)
                             | (rw [y129, decide_eq_false (show ¬ c 51 30 x0 = 1 by omega)]; rfl))
                        | (refine ih (i + 1) _ _ _ _ _ (by omega) g1 g2 g3 ?_
                           rw [← hT, g4]
                           congr 1
                           unfold fFac
                           rw [g5]
                           unfold fNear
                           first
                             | (rw [if_pos (decide_eq_true (show max (c 51 33 y0 - c 51 21 s) (c 51 21 s - c 51 33 y0) ≤ c 51 11 4 by omega))]; done)
                             | (rw [if_neg (fun q => absurd (of_decide_eq_true q) (show ¬ max (c 51 33 y0 - c 51 21 s) (c 51 21 s - c 51 33 y0) ≤ c 51 11 4 by omega))]; done))
                · refine r_aloadN 133 dX11_worth_132 rfl rfl ?_
                  refine r_getq 136 dX11_worth_133 rfl fX11_77 (by decide) (sh_50 z _) rfl ?_
                  refine r_iload 138 dX11_worth_136 rfl rfl ?_
                  refine r_iald (n := 60) 139 dX11_worth_138 (x0) rfl rfl (by decide) (sh_51 z _) (by decide) (by omega) (by omega) ?_
                  refine r_iconst 140 dX11_worth_139 rfl ?_
                  refine r_icne 147 143 dX11_worth_140 rfl (by decide) (by omega) (by omega) (fun h140 => ?_) (fun h140 => ?_)
                  · refine r_iconst 148 dX11_worth_147 rfl ?_
                    refine r_icne 155 151 dX11_worth_148 rfl (by decide) (by omega) (by omega) (fun h148 => ?_) (fun h148 => ?_)
                    · refine r_iconst 156 dX11_worth_155 rfl ?_
                      refine r_istore8 158 dX11_worth_156 rfl rfl (by decide) ?_
                      refine r_iinc5 161 dX11_worth_158 rfl rfl (by decide) ?_
                      refine r_goto 200 dX11_worth_161 (by decide) ?_
                      refine r_lloadN 201 dX11_worth_200 rfl rfl ?_
                      refine r_iload 203 dX11_worth_201 rfl rfl ?_
                      refine r_ifeqT 216 0 dX11_worth_203 (by decide) (by decide) (by decide) ?_
                      refine r_aloadN 217 dX11_worth_216 rfl rfl ?_
                      refine r_getq 220 dX11_worth_217 rfl fX11_20 (by decide) (sh_50 z _) rfl ?_
                      refine r_iconst 221 dX11_worth_220 rfl ?_
                      refine r_iald (n := 6) 222 dX11_worth_221 (3) rfl rfl (by decide) (sh_51 z _) (by decide) (by omega) (by omega) ?_
                      refine r_i2l 223 dX11_worth_222 rfl (by omega) ?_
                      refine r_lmul 224 dX11_worth_223 rfl ?_
                      refine r_lstore3 225 dX11_worth_224 rfl rfl (by decide) ?_
                      refine r_iinc7 228 dX11_worth_225 rfl rfl (by decide) ?_
                      refine r_goto 21 dX11_worth_228 (by decide) ?_
                      first
                        | (exfalso; omega)
                        | (refine ih (i + 1) _ _ _ _ _ (by omega) g1 g2 g3 ?_
                           rw [← hT, g4]
                           congr 1
                           unfold fFac
                           rw [g5, hsp]
                           first
                             | (rw [y129, decide_eq_true (show c 51 30 x0 = 1 by omega)]; rfl)
                             | (rw [y129, decide_eq_false (show ¬ c 51 30 x0 = 1 by omega)]; rfl))
                        | (refine ih (i + 1) _ _ _ _ _ (by omega) g1 g2 g3 ?_
                           rw [← hT, g4]
                           congr 1
                           unfold fFac
                           rw [g5]
                           unfold fNear
                           first
                             | (rw [if_pos (decide_eq_true (show max (c 51 33 y0 - c 51 21 s) (c 51 21 s - c 51 33 y0) ≤ c 51 11 4 by omega))]; done)
                             | (rw [if_neg (fun q => absurd (of_decide_eq_true q) (show ¬ max (c 51 33 y0 - c 51 21 s) (c 51 21 s - c 51 33 y0) ≤ c 51 11 4 by omega))]; done))
                    · refine r_iconst 152 dX11_worth_151 rfl ?_
                      refine r_goto 156 dX11_worth_152 (by decide) ?_
                      refine r_istore8 158 dX11_worth_156 rfl rfl (by decide) ?_
                      refine r_iinc5 161 dX11_worth_158 rfl rfl (by decide) ?_
                      refine r_goto 200 dX11_worth_161 (by decide) ?_
                      refine r_lloadN 201 dX11_worth_200 rfl rfl ?_
                      refine r_iload 203 dX11_worth_201 rfl rfl ?_
                      refine r_ifeqF 206 dX11_worth_203 rfl 216 (by decide) (by decide) (by decide) ?_
                      refine r_aloadN 207 dX11_worth_206 rfl rfl ?_
                      refine r_getq 210 dX11_worth_207 rfl fX11_20 (by decide) (sh_50 z _) rfl ?_
                      refine r_iconst 211 dX11_worth_210 rfl ?_
                      refine r_iald (n := 6) 212 dX11_worth_211 (2) rfl rfl (by decide) (sh_51 z _) (by decide) (by omega) (by omega) ?_
                      refine r_i2l 213 dX11_worth_212 rfl (by omega) ?_
                      refine r_goto 223 dX11_worth_213 (by decide) ?_
                      refine r_lmul 224 dX11_worth_223 rfl ?_
                      refine r_lstore3 225 dX11_worth_224 rfl rfl (by decide) ?_
                      refine r_iinc7 228 dX11_worth_225 rfl rfl (by decide) ?_
                      refine r_goto 21 dX11_worth_228 (by decide) ?_
                      first
                        | (exfalso; omega)
                        | (refine ih (i + 1) _ _ _ _ _ (by omega) g1 g2 g3 ?_
                           rw [← hT, g4]
                           congr 1
                           unfold fFac
                           rw [g5, hsp]
                           first
                             | (rw [y129, decide_eq_true (show c 51 30 x0 = 1 by omega)]; rfl)
                             | (rw [y129, decide_eq_false (show ¬ c 51 30 x0 = 1 by omega)]; rfl))
                        | (refine ih (i + 1) _ _ _ _ _ (by omega) g1 g2 g3 ?_
                           rw [← hT, g4]
                           congr 1
                           unfold fFac
                           rw [g5]
                           unfold fNear
                           first
                             | (rw [if_pos (decide_eq_true (show max (c 51 33 y0 - c 51 21 s) (c 51 21 s - c 51 33 y0) ≤ c 51 11 4 by omega))]; done)
                             | (rw [if_neg (fun q => absurd (of_decide_eq_true q) (show ¬ max (c 51 33 y0 - c 51 21 s) (c 51 21 s - c 51 33 y0) ≤ c 51 11 4 by omega))]; done))
                  · refine r_iconst 144 dX11_worth_143 rfl ?_
                    refine r_goto 148 dX11_worth_144 (by decide) ?_
                    refine r_icne 155 151 dX11_worth_148 rfl (by decide) (by omega) (by omega) (fun h148 => ?_) (fun h148 => ?_)
                    · refine r_iconst 156 dX11_worth_155 rfl ?_
                      refine r_istore8 158 dX11_worth_156 rfl rfl (by decide) ?_
                      refine r_iinc5 161 dX11_worth_158 rfl rfl (by decide) ?_
                      refine r_goto 200 dX11_worth_161 (by decide) ?_
                      refine r_lloadN 201 dX11_worth_200 rfl rfl ?_
                      refine r_iload 203 dX11_worth_201 rfl rfl ?_
                      refine r_ifeqT 216 0 dX11_worth_203 (by decide) (by decide) (by decide) ?_
                      refine r_aloadN 217 dX11_worth_216 rfl rfl ?_
                      refine r_getq 220 dX11_worth_217 rfl fX11_20 (by decide) (sh_50 z _) rfl ?_
                      refine r_iconst 221 dX11_worth_220 rfl ?_
                      refine r_iald (n := 6) 222 dX11_worth_221 (3) rfl rfl (by decide) (sh_51 z _) (by decide) (by omega) (by omega) ?_
                      refine r_i2l 223 dX11_worth_222 rfl (by omega) ?_
                      refine r_lmul 224 dX11_worth_223 rfl ?_
                      refine r_lstore3 225 dX11_worth_224 rfl rfl (by decide) ?_
                      refine r_iinc7 228 dX11_worth_225 rfl rfl (by decide) ?_
                      refine r_goto 21 dX11_worth_228 (by decide) ?_
                      first
                        | (exfalso; omega)
                        | (refine ih (i + 1) _ _ _ _ _ (by omega) g1 g2 g3 ?_
                           rw [← hT, g4]
                           congr 1
                           unfold fFac
                           rw [g5, hsp]
                           first
                             | (rw [y129, decide_eq_true (show c 51 30 x0 = 1 by omega)]; rfl)
                             | (rw [y129, decide_eq_false (show ¬ c 51 30 x0 = 1 by omega)]; rfl))
                        | (refine ih (i + 1) _ _ _ _ _ (by omega) g1 g2 g3 ?_
                           rw [← hT, g4]
                           congr 1
                           unfold fFac
                           rw [g5]
                           unfold fNear
                           first
                             | (rw [if_pos (decide_eq_true (show max (c 51 33 y0 - c 51 21 s) (c 51 21 s - c 51 33 y0) ≤ c 51 11 4 by omega))]; done)
                             | (rw [if_neg (fun q => absurd (of_decide_eq_true q) (show ¬ max (c 51 33 y0 - c 51 21 s) (c 51 21 s - c 51 33 y0) ≤ c 51 11 4 by omega))]; done))
                    · refine r_iconst 152 dX11_worth_151 rfl ?_
                      refine r_goto 156 dX11_worth_152 (by decide) ?_
                      refine r_istore8 158 dX11_worth_156 rfl rfl (by decide) ?_
                      refine r_iinc5 161 dX11_worth_158 rfl rfl (by decide) ?_
                      refine r_goto 200 dX11_worth_161 (by decide) ?_
                      refine r_lloadN 201 dX11_worth_200 rfl rfl ?_
                      refine r_iload 203 dX11_worth_201 rfl rfl ?_
                      refine r_ifeqF 206 dX11_worth_203 rfl 216 (by decide) (by decide) (by decide) ?_
                      refine r_aloadN 207 dX11_worth_206 rfl rfl ?_
                      refine r_getq 210 dX11_worth_207 rfl fX11_20 (by decide) (sh_50 z _) rfl ?_
                      refine r_iconst 211 dX11_worth_210 rfl ?_
                      refine r_iald (n := 6) 212 dX11_worth_211 (2) rfl rfl (by decide) (sh_51 z _) (by decide) (by omega) (by omega) ?_
                      refine r_i2l 213 dX11_worth_212 rfl (by omega) ?_
                      refine r_goto 223 dX11_worth_213 (by decide) ?_
                      refine r_lmul 224 dX11_worth_223 rfl ?_
                      refine r_lstore3 225 dX11_worth_224 rfl rfl (by decide) ?_
                      refine r_iinc7 228 dX11_worth_225 rfl rfl (by decide) ?_
                      refine r_goto 21 dX11_worth_228 (by decide) ?_
                      first
                        | (exfalso; omega)
                        | (refine ih (i + 1) _ _ _ _ _ (by omega) g1 g2 g3 ?_
                           rw [← hT, g4]
                           congr 1
                           unfold fFac
                           rw [g5, hsp]
                           first
                             | (rw [y129, decide_eq_true (show c 51 30 x0 = 1 by omega)]; rfl)
                             | (rw [y129, decide_eq_false (show ¬ c 51 30 x0 = 1 by omega)]; rfl))
                        | (refine ih (i + 1) _ _ _ _ _ (by omega) g1 g2 g3 ?_
                           rw [← hT, g4]
                           congr 1
                           unfold fFac
                           rw [g5]
                           unfold fNear
                           first
                             | (rw [if_pos (decide_eq_true (show max (c 51 33 y0 - c 51 21 s) (c 51 21 s - c 51 33 y0) ≤ c 51 11 4 by omega))]; done)
                             | (rw [if_neg (fun q => absurd (of_decide_eq_true q) (show ¬ max (c 51 33 y0 - c 51 21 s) (c 51 21 s - c 51 33 y0) ≤ c 51 11 4 by omega))]; done))
        · refine r_goto 231 dX11_worth_82 (by decide) ?_
          refine r_lloadN 232 dX11_worth_231 rfl rfl ?_
          refine r_lret dX11_worth_232 rfl (kk _ ?_)
          rw [← hT, wor_none hR hI1 hJ1 hK (by omega) (by omega)]
theorem m_worth {z : xZ} {d : Nat} {Q : tQ} {c : tC} {L : tL} {n p s : Nat} (hR : RX c) (hn : c 50 0 2 = (n : Int)) (hs : s < n) (hp : (p : Int) < c 50 0 1) (k : ∀ r, r = fWor c p s (c 50 0 9).toNat 16 1 → Q (some (.long (lI r))) c L) : En z (d + 6) MX11_worth Q 0 [some (.ref (xad z 50 0)), some (.int (iI (p : Int))), some (.int (iI (s : Int))), none, none, none, none, none, none] [] c L := by
  have hg := R0_rng hR
  have hc := R0_scal hR
  refine r_lconst 1 dX11_worth_0 rfl ?_
  refine r_lstore3 2 dX11_worth_1 rfl rfl (by decide) ?_
  refine r_aloadN 3 dX11_worth_2 rfl rfl ?_
  refine r_geti 6 dX11_worth_3 rfl fX11_303 (by decide) (sh_50 z _) rfl ?_
  refine r_iconst 7 dX11_worth_6 rfl ?_
  refine r_isub 8 dX11_worth_7 rfl ?_
  refine r_istore5 10 dX11_worth_8 rfl rfl (by decide) ?_
  refine r_aloadN 11 dX11_worth_10 rfl rfl ?_
  refine r_geti 14 dX11_worth_11 rfl fX11_316 (by decide) (sh_50 z _) rfl ?_
  refine r_iconst 15 dX11_worth_14 rfl ?_
  refine r_isub 16 dX11_worth_15 rfl ?_
  refine r_istore6 18 dX11_worth_16 rfl rfl (by decide) ?_
  refine r_iconst 19 dX11_worth_18 rfl ?_
  refine r_istore7 21 dX11_worth_19 rfl rfl (by decide) ?_
  exact m_worth_loop hR hn hs hp k 16 0 (c 50 0 9).toNat _ _ _ none rfl ⟨by omega, by omega, fun h => by have := (R0_press hR (c 50 0 3 - 1).toNat (by omega)).2.1; omega, fun x h1 h2 => by omega⟩ ⟨by omega, by omega, fun h => by have := (R0_match hR (c 50 0 4 - 1).toNat (by omega)).2.1; omega, fun x h1 h2 => by omega⟩ (by omega) rfl
