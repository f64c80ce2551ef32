/-! ===== the relation of the law's loop ===== -/
theorem tp_eq {t i : Nat} (ht : t ≤ 1) : tp t i = 12 * t + i := by unfold tp; split <;> omega
theorem ts_eq {t i : Nat} (ht : t ≤ 1) : ts t i = 14 * t + i := by unfold ts; split <;> omega
theorem tl_eq {t i : Nat} (ht : t ≤ 1) : tl t i = 8 * t + i := by unfold tl; split <;> omega
theorem RT_map {c c2 : tC} {t u : Nat} {S S2 : sS} {A A2 : sA} (ht : t ≤ 1) (hu : u ≤ 1) (hT : TL c c2 t u) (hS : ∀ j, j < 8 ∨ j = 9 → S2 j = S j) (hA : ∀ f j, 11 ≤ f → f < 44 → j < tml.getD f 0 → A2 f j = A f j) (h : RT c u S A) : RT c2 t S2 A2 := by
  obtain ⟨a1, a2, a3, a4, a5, a6, a7, a8, a9, a10, a11, a12, a13, a14, a15, a16⟩ := h
  obtain ⟨T1, T2, T3, T4, T5, T6, T7, T8, T9, T10, T11⟩ := hT
  have g := a2
  unfold RT_rng at g
  have s0 := hS 0 (by omega)
  have s1 := hS 1 (by omega)
  have s2 := hS 2 (by omega)
  have s3 := hS 3 (by omega)
  have s4 := hS 4 (by omega)
  have s5 := hS 5 (by omega)
  have s6 := hS 6 (by omega)
  have s7 := hS 7 (by omega)
  have s9 := hS 9 (by omega)
  have r11 : ∀ j, j < 6 → A2 11 j = A 11 j := fun j hj => hA 11 j (by decide) (by decide) hj
  have r12 : ∀ j, j < 64 → A2 12 j = A 12 j := fun j hj => hA 12 j (by decide) (by decide) hj
  have r13 : ∀ j, j < 10 → A2 13 j = A 13 j := fun j hj => hA 13 j (by decide) (by decide) hj
  have r14 : ∀ j, j < 12 → A2 14 j = A 14 j := fun j hj => hA 14 j (by decide) (by decide) hj
  have r15 : ∀ j, j < 12 → A2 15 j = A 15 j := fun j hj => hA 15 j (by decide) (by decide) hj
  have r16 : ∀ j, j < 12 → A2 16 j = A 16 j := fun j hj => hA 16 j (by decide) (by decide) hj
  have r17 : ∀ j, j < 12 → A2 17 j = A 17 j := fun j hj => hA 17 j (by decide) (by decide) hj
  have r18 : ∀ j, j < 12 → A2 18 j = A 18 j := fun j hj => hA 18 j (by decide) (by decide) hj
  have r19 : ∀ j, j < 14 → A2 19 j = A 19 j := fun j hj => hA 19 j (by decide) (by decide) hj
  have r20 : ∀ j, j < 14 → A2 20 j = A 20 j := fun j hj => hA 20 j (by decide) (by decide) hj
  have r21 : ∀ j, j < 14 → A2 21 j = A 21 j := fun j hj => hA 21 j (by decide) (by decide) hj
  have r22 : ∀ j, j < 14 → A2 22 j = A 22 j := fun j hj => hA 22 j (by decide) (by decide) hj
  have r23 : ∀ j, j < 14 → A2 23 j = A 23 j := fun j hj => hA 23 j (by decide) (by decide) hj
  have r24 : ∀ j, j < 14 → A2 24 j = A 24 j := fun j hj => hA 24 j (by decide) (by decide) hj
  have r25 : ∀ j, j < 14 → A2 25 j = A 25 j := fun j hj => hA 25 j (by decide) (by decide) hj
  have r26 : ∀ j, j < 14 → A2 26 j = A 26 j := fun j hj => hA 26 j (by decide) (by decide) hj
  have r27 : ∀ j, j < 60 → A2 27 j = A 27 j := fun j hj => hA 27 j (by decide) (by decide) hj
  have r28 : ∀ j, j < 60 → A2 28 j = A 28 j := fun j hj => hA 28 j (by decide) (by decide) hj
  have r29 : ∀ j, j < 60 → A2 29 j = A 29 j := fun j hj => hA 29 j (by decide) (by decide) hj
  have r30 : ∀ j, j < 60 → A2 30 j = A 30 j := fun j hj => hA 30 j (by decide) (by decide) hj
  have r31 : ∀ j, j < 60 → A2 31 j = A 31 j := fun j hj => hA 31 j (by decide) (by decide) hj
  have r32 : ∀ j, j < 20 → A2 32 j = A 32 j := fun j hj => hA 32 j (by decide) (by decide) hj
  have r33 : ∀ j, j < 20 → A2 33 j = A 33 j := fun j hj => hA 33 j (by decide) (by decide) hj
  have r34 : ∀ j, j < 20 → A2 34 j = A 34 j := fun j hj => hA 34 j (by decide) (by decide) hj
  have r35 : ∀ j, j < 30 → A2 35 j = A 35 j := fun j hj => hA 35 j (by decide) (by decide) hj
  have r36 : ∀ j, j < 30 → A2 36 j = A 36 j := fun j hj => hA 36 j (by decide) (by decide) hj
  have r37 : ∀ j, j < 30 → A2 37 j = A 37 j := fun j hj => hA 37 j (by decide) (by decide) hj
  have r38 : ∀ j, j < 8 → A2 38 j = A 38 j := fun j hj => hA 38 j (by decide) (by decide) hj
  have r39 : ∀ j, j < 64 → A2 39 j = A 39 j := fun j hj => hA 39 j (by decide) (by decide) hj
  have r40 : ∀ j, j < 64 → A2 40 j = A 40 j := fun j hj => hA 40 j (by decide) (by decide) hj
  have r41 : ∀ j, j < 64 → A2 41 j = A 41 j := fun j hj => hA 41 j (by decide) (by decide) hj
  have r42 : ∀ j, j < 64 → A2 42 j = A 42 j := fun j hj => hA 42 j (by decide) (by decide) hj
  have r43 : ∀ j, j < 64 → A2 43 j = A 43 j := fun j hj => hA 43 j (by decide) (by decide) hj
  have hc := a1
  unfold RT_scal at hc
  have n14 : (S 2).toNat ≤ 14 := by omega
  refine ⟨?_, ?_, fun i hi => ?_, fun i hi => ?_, ?_, fun i hi => ?_, ?_, fun i hi => ?_, fun i hi => ?_, fun p hp => ?_, fun i hi => ?_, fun i j hij hj => ?_, fun i hi => ?_, fun i j hij hj => ?_, fun k hk hk2 => ?_, fun i hi => ?_⟩
  · unfold RT_scal
    rw [T1 0 (by omega), T1 1 (by omega), T1 2 (by omega), T1 3 (by omega), T1 4 (by omega), T5 0 (by omega), T5 1 (by omega), T5 2 (by omega), T7, s0, s1, s2, s3, s4, s5, s6, s7, s9]
    exact hc
  · unfold RT_rng
    rw [s0, s1, s2, s3, s4, s5, s6, s7, s9]
    exact g
  · rw [s1] at hi
    have q := a3 i hi
    have z := T2 i (by omega)
    rw [tp_eq hu] at q
    rw [tp_eq ht, z 0 (by omega), z 1 (by omega), z 2 (by omega), z 3 (by omega), z 4 (by omega), r14 i (by omega), r15 i (by omega), r16 i (by omega), r17 i (by omega), r18 i (by omega)]
    exact q
  · rw [s2] at hi
    have q := a4 i hi
    have z := T3 i (by omega)
    rw [ts_eq hu] at q
    rw [ts_eq ht, z 0 (by omega), z 1 (by omega), z 2 (by omega), z 3 (by omega), z 4 (by omega), z 5 (by omega), z 6 (by omega), r19 i (by omega), r20 i (by omega), r21 i (by omega), r22 i (by omega), r23 i (by omega), r24 i (by omega), r25 i (by omega), r26 i (by omega), s1]
    exact q
  · unfold RT_off
    rw [T1 5 (by omega), s2]
    refine Eq.trans a5 (congrArg Nat.cast (mkN_ext fun s hs => ?_))
    unfold fHand
    rw [r26 s (by omega)]
  · rw [s2] at hi
    have q := a6 i hi
    have z := T3 i (by omega)
    rw [ts_eq hu] at q
    rw [ts_eq ht, z 7 (by omega), s2, r21 i (by omega)]
    refine Eq.trans q (congrArg Nat.cast (mkN_ext fun s hs => ?_))
    rw [r21 s (by omega)]
  · unfold RT_law at *
    rw [T11 0 (by omega), T11 1 (by omega), T11 2 (by omega), T11 3 (by omega), T11 4 (by omega), T11 5 (by omega), r11 0 (by omega), r11 1 (by omega), r11 2 (by omega), r11 3 (by omega), r11 4 (by omega), r11 5 (by omega)]
    exact a7
  · rw [T9 i hi, r12 i hi]
    exact a8 i hi
  · rw [T10 i hi, r13 i hi]
    exact a9 i hi
  · rw [s6] at hp
    have q := a10 p hp
    have z := T4 p (by omega)
    rw [tl_eq hu] at q
    rw [tl_eq ht, z.1, r38 p (by omega)]
    refine ⟨q.1, q.2.1, fun k hk => ?_⟩
    have qk := q.2.2 k hk
    rw [z.2 41 k (by omega) (by omega) (by omega), z.2 42 k (by omega) (by omega) (by omega), z.2 43 k (by omega) (by omega) (by omega), z.2 44 k (by omega) (by omega) (by omega), z.2 45 k (by omega) (by omega) (by omega), r39 (8 * p + k) (by omega), r40 (8 * p + k) (by omega), r41 (8 * p + k) (by omega), r42 (8 * p + k) (by omega), r43 (8 * p + k) (by omega), s2]
    exact qk
  · rw [s3] at hi
    have q := a11 i hi
    have hb : (A 31 i).toNat < 80 := by omega
    rw [r27 i (by omega), r28 i (by omega), r29 i (by omega), r30 i (by omega), r31 i (by omega), s9, s1, T6 17 _ (by omega) (by omega) hb, T6 18 _ (by omega) (by omega) hb, T6 19 _ (by omega) (by omega) hb, T6 20 _ (by omega) (by omega) hb]
    exact q
  · rw [s3] at hj
    rw [r31 i (by omega), r31 j (by omega)]
    exact a12 i j hij hj
  · rw [s4] at hi
    have q := a13 i hi
    have hb : (A 34 i).toNat < 80 := by omega
    rw [r32 i (by omega), r33 i (by omega), r34 i (by omega), s9, s1, T6 17 _ (by omega) (by omega) hb, T6 18 _ (by omega) (by omega) hb, T6 20 _ (by omega) (by omega) hb]
    exact q
  · rw [s4] at hj
    rw [r34 i (by omega), r34 j (by omega)]
    exact a14 i j hij hj
  · rw [s9] at hk2
    rw [s3, s4]
    rcases a15 k hk hk2 with ⟨i, h1, h2⟩ | ⟨i, h1, h2⟩
    · exact Or.inl ⟨i, h1, (r31 i (by omega)).trans h2⟩
    · exact Or.inr ⟨i, h1, (r34 i (by omega)).trans h2⟩
  · rw [s5] at hi
    have q := a16 i hi
    rw [T8 22 i (by omega) (by omega) (by omega), T8 23 i (by omega) (by omega) (by omega), T8 24 i (by omega) (by omega) (by omega), r35 i (by omega), r36 i (by omega), r37 i (by omega), s1]
    exact q
theorem TL_self {c c2 : tC} {t : Nat} (hb : c 8 t 1 ≤ 12 ∧ c 8 t 2 ≤ 14 ∧ c 8 t 3 ≤ 8) (h : ∀ g i j, inT t g i → c2 g i j = c g i j) : TL c c2 t t := by
  refine ⟨fun j _ => ?_, fun i hi j _ => ?_, fun i hi j _ => ?_, fun i hi => ⟨?_, fun g j q1 q2 _ => ?_⟩, fun j _ => ?_, fun g j q1 q2 _ => ?_, ?_, fun g j q1 q2 _ => ?_, fun j _ => ?_, fun j _ => ?_, fun j _ => ?_⟩ <;> (apply h; unfold inT PG; omega)
theorem RT_b {c : tC} {t : Nat} {S : sS} {A : sA} (h : RT c t S A) : c 8 t 1 ≤ 12 ∧ c 8 t 2 ≤ 14 ∧ c 8 t 3 ≤ 8 := by
  have a1 := h.1
  have a2 := h.2.1
  unfold RT_scal at a1
  unfold RT_rng at a2
  omega
theorem RT_gen {c c2 : tC} {t : Nat} {S S2 : sS} {A A2 : sA} (ht : t ≤ 1) (hT : ∀ g i j, inT t g i → c2 g i j = c g i j) (hS : ∀ j, j < 8 ∨ j = 9 → S2 j = S j) (hA : ∀ f j, 11 ≤ f → f < 44 → j < tml.getD f 0 → A2 f j = A f j) (h : RT c t S A) : RT c2 t S2 A2 := RT_map ht ht (TL_self (RT_b h) hT) hS hA h
def imS (c : tC) : sS := fun j => if j = 9 then c 50 0 75 else c 50 0 (67 + j)
def imA (c : tC) : sA := fun f j => c 51 76 (koff f + j)
def IM (c : tC) : Prop := (c 0 0 7 = 0 ∧ c 50 0 67 = -1) ∨ (c 0 0 7 = 1 ∧ RT c 1 (imS c) (imA c))
theorem IM_fr {c c2 : tC} (h : IM c) (h1 : ∀ g i j, inT 1 g i → c2 g i j = c g i j) (h2 : c2 0 0 7 = c 0 0 7) (h3 : ∀ j, 67 ≤ j → j ≤ 75 → c2 50 0 j = c 50 0 j) (h4 : ∀ j, c2 51 76 j = c 51 76 j) : IM c2 := by
  rcases h with a | a
  · exact Or.inl ⟨h2.trans a.1, (h3 67 (by omega) (by omega)).trans a.2⟩
  · refine Or.inr ⟨h2.trans a.1, RT_gen (by omega) h1 (fun j hj => ?_) (fun f j _ _ _ => h4 _) a.2⟩
    unfold imS
    split
    · exact h3 75 (by omega) (by omega)
    · exact h3 (67 + j) (by omega) (by omega)
def FLT (c : tC) : Prop := c 30 0 4 = c 50 0 8
def RR (c : tC) (L : tL) : Prop := RX c ∧ IM c ∧ SH c L ∧ RFS c ∧ TRC c ∧ FLT c
/-- what the town's changes may write -/
def wrT (g i j : Nat) : Prop := inT 0 g i ∨ g = 5 ∨ g = 7 ∨ (30 ≤ g ∧ g ≤ 32) ∨ (i = 16 ∧ PG g) ∨ (g = 50 ∧ i = 0 ∧ (j < 10 ∨ (50 ≤ j ∧ j ≤ 56))) ∨ (g = 51 ∧ ((11 ≤ i ∧ i ≤ 43) ∨ (57 ≤ i ∧ i ≤ 64)))
theorem SH_fr {c c2 : tC} {L L2 : tL} (h : SH c L) (h1 : ∀ s j, s < 8 → j < 2 → c2 2 s j = c 2 s j) (h2 : ∀ f s, 44 ≤ f → f ≤ 47 → s < 8 → c2 51 f s = c 51 f s) (h3 : c 50 0 2 ≤ c2 50 0 2) (h4 : ∀ s i, s < 8 → L2 3 s i = L 3 s i) (h5 : ∀ i, L2 52 48 i = L 52 48 i) : SH c2 L2 := fun s hs => by
  have q := h s hs
  rw [h1 s 0 hs (by omega), h1 s 1 hs (by omega), h2 44 s (by omega) (by omega) hs, h2 45 s (by omega) (by omega) hs, h2 46 s (by omega) (by omega) hs, h2 47 s (by omega) (by omega) hs]
  rcases q with a | a | a
  · exact Or.inl a
  · refine Or.inr (Or.inl ⟨a.1, a.2.1, a.2.2.1, a.2.2.2.1, a.2.2.2.2.1, fun i hi => ?_⟩)
    rw [h4 s i hs, h5]
    exact a.2.2.2.2.2 i hi
  · exact Or.inr (Or.inr ⟨a.1, a.2.1, by omega, a.2.2.2⟩)
theorem RR_keep {c c2 : tC} {L L2 : tL} (h : RR c L) (hX : RX c2) (hf : FLT c2) (hF : ∀ g i j, ¬ wrT g i j → c2 g i j = c g i j) (h2 : c 50 0 2 ≤ c2 50 0 2) (h4 : ∀ s i, s < 8 → L2 3 s i = L 3 s i) (h5 : ∀ i, L2 52 48 i = L 52 48 i) : RR c2 L2 := by
  obtain ⟨a1, a2, a3, a4, a5, a6⟩ := h
  refine ⟨hX, IM_fr a2 (fun g i j n => hF g i j ?_) (hF _ _ _ ?_) (fun j n1 n2 => hF _ _ _ ?_) (fun j => hF _ _ _ ?_), SH_fr a3 (fun s j n1 n2 => hF _ _ _ ?_) (fun f s n1 n2 n3 => hF _ _ _ ?_) h2 h4 h5, fun k n1 n2 => ?_, ?_, hf⟩
  · unfold inT at n; unfold wrT inT; unfold PG at *; omega
  · unfold wrT inT PG; omega
  · unfold wrT inT PG; omega
  · unfold wrT inT PG; omega
  · unfold wrT inT PG; omega
  · unfold wrT inT PG; omega
  · rw [hF 35 0 k (by unfold wrT inT PG; omega), hF 51 10 k (by unfold wrT inT PG; omega)]
    exact a4 k n1 n2
  · obtain ⟨t1, t2, t3⟩ := a5
    have e1 := hF 33 0 4 (by unfold wrT inT PG; omega)
    have e2 := hF 50 0 66 (by unfold wrT inT PG; omega)
    refine ⟨by rw [e1, e2]; exact t1, by rw [e2]; exact t2, fun j n1 n2 => ?_⟩
    rw [hF 34 0 j (by unfold wrT inT PG; omega), hF 51 65 j (by unfold wrT inT PG; omega)]
    exact t3 j n1 (by rw [← e2]; exact n2)
theorem xRe_at (c : tC) (w g i j : Nat) : xRe c w g i j = if w ≠ 0 ∧ g = 35 ∧ i = 0 ∧ j = w then c 35 0 w + 1 else c g i j := by
  unfold xRe
  by_cases h : w = 0
  · rw [if_pos h, if_neg (by omega)]
  · rw [if_neg h, cu_ap]
    by_cases q : g = 35 ∧ i = 0 ∧ j = w
    · rw [if_pos q, if_pos ⟨h, q⟩]
    · rw [if_neg q, if_neg (fun y => q y.2)]
theorem mRe_at (c : tC) (w g i j : Nat) : mRe c w g i j = if w ≠ 0 ∧ g = 51 ∧ i = 10 ∧ j = w then c 51 10 w + 1 else c g i j := by
  unfold mRe mRef
  by_cases h : w = 0
  · rw [if_pos h, if_neg (by omega)]
  · rw [if_neg h, cu_ap]
    by_cases q : g = 51 ∧ i = 10 ∧ j = w
    · rw [if_pos q, if_pos ⟨h, q⟩]
    · rw [if_neg q, if_neg (fun y => q y.2)]
theorem xRe_ne {c : tC} {w g i j : Nat} (h : g ≠ 35) : xRe c w g i j = c g i j := by rw [xRe_at, if_neg (by omega)]
theorem mRe_ne {c : tC} {w g i j : Nat} (h : ¬ (g = 51 ∧ i = 10)) : mRe c w g i j = c g i j := by rw [mRe_at, if_neg (by omega)]
theorem xRe_g {c : tC} {w g : Nat} (h : g ≠ 35) : xRe c w g = c g := by
  funext i j
  exact xRe_ne h
theorem RX_xRe {c : tC} (w : Nat) (h : RX c) : RX (xRe c w) := RT_gen (by omega) (fun g i j n => xRe_ne (by unfold inT PG at n; omega)) (fun j _ => xRe_ne (by omega)) (fun f j _ _ _ => xRe_ne (by omega)) h
theorem RX_mRe {c : tC} (w : Nat) (h : RX c) : RX (mRe c w) := RT_gen (by omega) (fun g i j n => mRe_ne (by unfold inT PG at n; omega)) (fun j _ => mRe_ne (by omega)) (fun f j n1 n2 _ => mRe_ne (by omega)) h
/-- both count a refusal -/
theorem RR_ref {c : tC} {L : tL} (w : Nat) (h : RR c L) : RR (mRe (xRe c w) w) L := by
  obtain ⟨a1, a2, a3, a4, a5, a6⟩ := h
  have hF : ∀ g i j, g ≠ 35 → ¬ (g = 51 ∧ i = 10) → mRe (xRe c w) w g i j = c g i j := fun g i j n1 n2 => (mRe_ne n2).trans (xRe_ne n1)
  refine ⟨RX_mRe w (RX_xRe w a1), IM_fr a2 (fun g i j n => hF g i j ?_ ?_) (hF _ _ _ (by omega) (by omega)) (fun j n1 n2 => hF _ _ _ (by omega) (by omega)) (fun j => hF _ _ _ (by omega) (by omega)), SH_fr a3 (fun s j n1 n2 => hF _ _ _ (by omega) (by omega)) (fun f s n1 n2 n3 => hF _ _ _ (by omega) (by omega)) (by rw [hF _ _ _ (by omega) (by omega)]; exact Int.le_refl _) (fun _ _ _ => rfl) (fun _ => rfl), fun k n1 n2 => ?_, ?_, ?_⟩
  · unfold inT PG at n; omega
  · unfold inT PG at n; omega
  · rw [mRe_ne (by omega), mRe_at, xRe_at, xRe_ne (by omega), xRe_ne (by omega)]
    have := a4 k n1 n2
    by_cases q : w = k
    · have hk := a4 w (by omega) (by omega)
      rw [if_pos (by omega), if_pos (by omega), hk]
    · rw [if_neg (by omega), if_neg (by omega), this]
  · obtain ⟨t1, t2, t3⟩ := a5
    refine ⟨by rw [hF _ _ _ (by omega) (by omega), hF _ _ _ (by omega) (by omega)]; exact t1, by rw [hF _ _ _ (by omega) (by omega)]; exact t2, fun j n1 n2 => ?_⟩
    rw [hF _ _ _ (by omega) (by omega)] at n2
    rw [hF _ _ _ (by omega) (by omega), hF _ _ _ (by omega) (by omega)]
    exact t3 j n1 n2
  · unfold FLT
    rw [hF _ _ _ (by omega) (by omega), hF _ _ _ (by omega) (by omega)]
    exact a6
