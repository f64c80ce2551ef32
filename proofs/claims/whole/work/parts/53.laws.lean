/-! the class reads a text of laws -/
def tLaws (T : Nat → Int) (e : Nat) : Nat → Nat → List (Nat × Int) → Nat × List (Nat × Int) × Bool
  | 0, p, l => (p, l, false)
  | k + 1, p, l => if lOk T e p = true then (if lQ T e p < e then (if T (lQ T e p) = 59 then tLaws T e k (lQ T e p + 1) (l ++ [(tW T e p, lV T e p)]) else (lQ T e p, l ++ [(tW T e p, lV T e p)], false)) else (lQ T e p, l ++ [(tW T e p, lV T e p)], true)) else (lF T e p, l, false)
def fFo (f : Nat → Int) (l : List (Nat × Int)) : Nat → Int := l.foldl (fun f x => fun j => if j = x.1 then x.2 else f j) f
theorem fFo_app (f : Nat → Int) (l : List (Nat × Int)) (x : Nat × Int) (j : Nat) : fFo f (l ++ [x]) j = if j = x.1 then x.2 else fFo f l j := by
  unfold fFo
  rw [List.foldl_append]
  rfl
/-- a law that is: what it takes -/
theorem lOk_rng {T : Nat → Int} {e p : Nat} (hp : p ≤ e) (h : lOk T e p = true) : tW T e p < 6 ∧ p + 2 ≤ lQ T e p ∧ lQ T e p ≤ e ∧ lwl (tW T e p) ≤ lV T e p ∧ lV T e p ≤ lwh (tW T e p) := by
  unfold lOk at h
  rw [Bool.and_eq_true] at h
  have hw := of_decide_eq_true h.1
  have h1 := tSN_rng hp h.2
  have h2 := tSQ_rng (T := T) (e := e) (l := nm (tW T e p)) hp
  have h3 := nm_len (tW T e p) (by omega)
  refine ⟨hw, ?_, h2.1.2, h1.2⟩
  have : tSQ T e (nm (tW T e p)) p = lQ T e p := rfl
  omega
theorem lF_rng {T : Nat → Int} {e p : Nat} (hp : p ≤ e) : lF T e p ≤ e := by
  unfold lF
  split
  · exact (tSQ_rng hp).2.1.2
  · exact hp
theorem tLaws_rng {T : Nat → Int} {e : Nat} : ∀ (k p : Nat) (l : List (Nat × Int)), p ≤ e → (∀ x ∈ l, x.1 < 6 ∧ lwl x.1 ≤ x.2 ∧ x.2 ≤ lwh x.1) → l.length * 2 ≤ p → (tLaws T e k p l).1 ≤ e ∧ (∀ x ∈ (tLaws T e k p l).2.1, x.1 < 6 ∧ lwl x.1 ≤ x.2 ∧ x.2 ≤ lwh x.1) ∧ (tLaws T e k p l).2.1.length * 2 ≤ e
  | 0, p, l, h, hl, hn => ⟨h, hl, by show l.length * 2 ≤ e; omega⟩
  | k + 1, p, l, h, hl, hn => by
    rw [tLaws]
    split
    · next q =>
      have hr := lOk_rng h q
      have hl2 : ∀ x ∈ l ++ [(tW T e p, lV T e p)], x.1 < 6 ∧ lwl x.1 ≤ x.2 ∧ x.2 ≤ lwh x.1 := fun x hx => by
        rcases List.mem_append.mp hx with a | a
        · exact hl x a
        · rw [List.mem_singleton.mp a]
          exact ⟨hr.1, hr.2.2.2⟩
      have hln : (l ++ [(tW T e p, lV T e p)]).length = l.length + 1 := by rw [List.length_append]; rfl
      split
      · next q2 =>
        split
        · exact tLaws_rng k _ _ (by omega) hl2 (by omega)
        · exact ⟨by show lQ T e p ≤ e; omega, hl2, by show (l ++ [(tW T e p, lV T e p)]).length * 2 ≤ e; omega⟩
      · exact ⟨by show lQ T e p ≤ e; omega, hl2, by show (l ++ [(tW T e p, lV T e p)]).length * 2 ≤ e; omega⟩
    · exact ⟨lF_rng h, hl, by show l.length * 2 ≤ e; omega⟩
/-- the reader of c with a new text -/
def RG (c c2 : tC) : Prop := ∀ g i j, g ≠ 30 → g ≠ 31 → g ≠ 32 → c2 g i j = c g i j
theorem RLw_RG {a b : tC} (h : RLw a b) : RG a b := fun g i j n1 _ n3 => h g i j (by omega) (by omega)
theorem RG_tr {a b c : tC} (h : RG a b) (h2 : RG b c) : RG a c := fun g i j n n2 n3 => (h2 g i j n n2 n3).trans (h g i j n n2 n3)
theorem x_count {z : xZ} {d : Nat} {Q : tQ} {c : tC} {L : tL} {s : Nat} (hs : s < 8) (k : Q (some (.int (iI (c 2 s 1)))) c L) : En z (d + 1) MX7_count Q 0 [some (.ref (xad z 2 s))] [] c L := by
  refine r_aloadN 1 dX7_count_0 rfl rfl ?_
  refine r_geti 4 dX7_count_1 rfl fX7_15 (ct_2 (by omega)) (sh_2 z _) rfl ?_
  exact r_ret dX7_count_4 rfl k
theorem x_rbegin_loop {z : xZ} {d : Nat} {Q : tQ} {L : tL} {s e : Nat} {T : Nat → Int} {c0 : tC} (h : SR c0 L s e T) (hs : s < 8) (hT : ∀ j, inR (T j)) (kk : ∀ c2, (∀ g i j, ¬ (g = 30 ∧ i = 0 ∧ (j = 1 ∨ j = 2 ∨ j = 4)) → ¬ (g = 31 ∧ i = 0 ∧ j < 60) → c2 g i j = c0 g i j) → RS c2 e T → c2 30 0 2 = 0 → c2 30 0 4 = -1 → Q none c2 L) : ∀ (k i : Nat) (c : tC), i + k = e → (∀ g i j, ¬ (g = 30 ∧ i = 0 ∧ (j = 1 ∨ j = 2 ∨ j = 4)) → ¬ (g = 31 ∧ i = 0 ∧ j < 60) → c g i j = c0 g i j) → c 30 0 1 = (e : Int) → (∀ j, j < i → c 31 0 j = T j) → En z (d + 4) MX5_begin Q 10 [some (.ref (xad z 30 0)), some (.ref (xad z 2 s)), some (.int (iI (i : Int)))] [] c L := by
  have h2 := h.2.1
  intro k
  induction k with
  | zero =>
    intro i c hi hF h1 hX
    refine r_iloadN 11 dX5_begin_10 rfl rfl ?_
    refine r_aloadN 12 dX5_begin_11 rfl rfl ?_
    refine r_geti 15 dX5_begin_12 rfl fX5_15 (by decide) (sh_30 z _) rfl ?_
    rw [h1]
    refine r_icge 35 18 dX5_begin_15 rfl (by decide) (by omega) (by omega) (fun h15 => ?_) (fun h15 => ?_)
    · refine r_aloadN 36 dX5_begin_35 rfl rfl ?_
      refine r_iconst 37 dX5_begin_36 rfl ?_
      refine r_puti 40 dX5_begin_37 rfl pX5_19 (by decide) (sh_30 z _) rfl ?_
      refine r_aloadN 41 dX5_begin_40 rfl rfl ?_
      refine r_iconst 42 dX5_begin_41 rfl ?_
      refine r_puti 45 dX5_begin_42 rfl pX5_25 (by decide) (sh_30 z _) rfl ?_
      refine r_vret dX5_begin_45 rfl (kk _ (fun g a b n1 n2 => ?_) ⟨h1, h2, fun j hj => hX j (by omega), hT⟩ rfl rfl)
      rw [cu_ap, if_neg (by omega), cu_ap, if_neg (by omega)]
      exact hF g a b n1 n2
    · exfalso; omega
  | succ k ih =>
    intro i c hi hF h1 hX
    refine r_iloadN 11 dX5_begin_10 rfl rfl ?_
    refine r_aloadN 12 dX5_begin_11 rfl rfl ?_
    refine r_geti 15 dX5_begin_12 rfl fX5_15 (by decide) (sh_30 z _) rfl ?_
    rw [h1]
    refine r_icge 35 18 dX5_begin_15 rfl (by decide) (by omega) (by omega) (fun h15 => ?_) (fun h15 => ?_)
    · exfalso; omega
    · refine r_aloadN 19 dX5_begin_18 rfl rfl ?_
      refine r_getq 22 dX5_begin_19 rfl fX5_9 (by decide) (sh_30 z _) rfl ?_
      refine r_iloadN 23 dX5_begin_22 rfl rfl ?_
      refine r_aloadN 24 dX5_begin_23 rfl rfl ?_
      refine r_iloadN 25 dX5_begin_24 rfl rfl ?_
      refine r_cv1 28 dX5_begin_25 rfl gX5_71 rfl (ct_2 (by omega)) (sh_2 z _) rfl rfl (Nat.le_of_ble_eq_true rfl) (Nat.le_of_ble_eq_true rfl) rfl ?_
      refine y_intAt (v := i) (SR_fr h (hF 2 s 1 (by omega) (by omega))) hs (by omega) ?_
      refine r_iast 29 dX5_begin_28 (i) rfl rfl (by decide) (sh_31 z _) (by decide) (by omega) (by omega) ?_
      refine r_iinc2 32 dX5_begin_29 rfl rfl (by decide) ?_
      refine r_goto 10 dX5_begin_32 (by decide) ?_
      refine ih (i + 1) _ (by omega) (fun g a b n1 n2 => ?_) ?_ (fun j hj => ?_)
      · rw [cu_ap, if_neg (by omega)]
        exact hF g a b n1 n2
      · rw [cu_ap, if_neg (by omega)]
        exact h1
      · rw [cu_ap]
        by_cases q : j = i
        · rw [if_pos ⟨rfl, rfl, q⟩, q]
        · rw [if_neg (fun y => q y.2.2)]
          exact hX j (by omega)
theorem x_rbegin {z : xZ} {d : Nat} {Q : tQ} {c : tC} {L : tL} {s e : Nat} {T : Nat → Int} (h : SR c L s e T) (hs : s < 8) (hT : ∀ j, inR (T j)) (k : ∀ c2, (∀ g i j, ¬ (g = 30 ∧ i = 0 ∧ (j = 1 ∨ j = 2 ∨ j = 4)) → ¬ (g = 31 ∧ i = 0 ∧ j < 60) → c2 g i j = c g i j) → RS c2 e T → c2 30 0 2 = 0 → c2 30 0 4 = -1 → Q none c2 L) : En z (d + 4) MX5_begin Q 0 [some (.ref (xad z 30 0)), some (.ref (xad z 2 s)), none] [] c L := by
  refine r_aloadN 1 dX5_begin_0 rfl rfl ?_
  refine r_aloadN 2 dX5_begin_1 rfl rfl ?_
  refine r_cv0 5 dX5_begin_2 rfl gX5_66 rfl (ct_2 (by omega)) (sh_2 z _) rfl rfl (Nat.le_of_ble_eq_true rfl) (Nat.le_of_ble_eq_true rfl) rfl ?_
  refine x_count hs ?_
  rw [h.1]
  refine r_puti 8 dX5_begin_5 rfl pX5_15 (by decide) (sh_30 z _) rfl ?_
  refine r_iconst 9 dX5_begin_8 rfl ?_
  refine r_istore2 10 dX5_begin_9 rfl rfl (by decide) ?_
  exact x_rbegin_loop h hs hT k e 0 _ (by omega) (fun g a b n1 n2 => by rw [cu_ap, if_neg (by omega)]) rfl (fun j hj => absurd hj (Nat.not_lt_zero _))
theorem x_laws64 {z : xZ} {d : Nat} {Q : tQ} {c : tC} {L : tL} {v1 v2 v3 v4 : Option Value} (hv : -1 ≤ c 30 0 4 ∧ c 30 0 4 ≤ 100) (k1 : c 30 0 4 = -1 → Q (some (.int (iI 1))) c L) (k0 : c 30 0 4 ≠ -1 → Q (some (.int (iI 0))) c L) : En z (d + 1) MX5_readLaws Q 64 [some (.ref (xad z 30 0)), v1, v2, v3, v4] [] c L := by
  have hv1 := hv.1
  have hv2 := hv.2
  refine r_aloadN 65 dX5_readLaws_64 rfl rfl ?_
  refine r_geti 68 dX5_readLaws_65 rfl fX5_25 (by decide) (sh_30 z _) rfl ?_
  refine r_iconst 69 dX5_readLaws_68 rfl ?_
  refine r_icne 76 72 dX5_readLaws_69 rfl (by decide) (by omega) (by omega) (fun h69 => ?_) (fun h69 => ?_)
  · refine r_iconst 77 dX5_readLaws_76 rfl ?_
    exact r_zret dX5_readLaws_77 rfl (by decide) (k0 (by omega))
  · refine r_iconst 73 dX5_readLaws_72 rfl ?_
    refine r_goto 77 dX5_readLaws_73 (by decide) ?_
    exact r_zret dX5_readLaws_77 rfl (by decide) (k1 (by omega))
theorem x_laws_loop {z : xZ} {d : Nat} {Q : tQ} {L : tL} {s e : Nat} {T : Nat → Int} {c0 : tC} {f0 : Nat → Int} (hz : zF z) (k1 : ∀ c2, (tLaws T e 61 0 []).2.2 = true → RG c0 c2 → c2 30 0 4 = -1 → c2 30 0 5 = (((tLaws T e 61 0 []).2.1.length : Nat) : Int) → (∀ j, j < 6 → c2 32 0 j = fFo f0 (tLaws T e 61 0 []).2.1 j) → Q (some (.int (iI 1))) c2 L) (k0 : ∀ c2, (tLaws T e 61 0 []).2.2 = false → RG c0 c2 → c2 30 0 4 = (((tLaws T e 61 0 []).1 : Nat) : Int) → Q (some (.int (iI 0))) c2 L) : ∀ (k i p : Nat) (l : List (Nat × Int)) (c : tC), e < p + k → 2 * i ≤ p → p ≤ e → RG c0 c → RS c e T → c 30 0 2 = (p : Int) → c 30 0 4 = -1 → c 30 0 5 = ((l.length : Nat) : Int) → (∀ j, j < 6 → c 32 0 j = fFo f0 l j) → l.length * 2 ≤ p → tLaws T e 61 0 [] = tLaws T e k p l → En z (d + 10) MX5_readLaws Q 27 [some (.ref (xad z 30 0)), some (.ref (xad z 2 s)), some (.ref (xad z 27 0)), some (.int (iI 1)), some (.int (iI (i : Int)))] [] c L := by
  intro k
  induction k with
  | zero => intro i p l c h1 h2 h3; exfalso; omega
  | succ k ih =>
    intro i p l c he hi hp hG hs ha h4 h5 h6 hl hq
    have hs2 := hs.2.1
    have hll := fun (x : Nat × Int) => (List.length_append (as := l) (bs := [x]))
    refine r_iload 29 dX5_readLaws_27 rfl rfl ?_
    refine r_bipush 31 dX5_readLaws_29 rfl (by decide) ?_
    refine r_icge 64 34 dX5_readLaws_31 rfl (by decide) (by omega) (by omega) (fun h31 => ?_) (fun h31 => ?_)
    · exfalso; omega
    · refine r_iloadN 35 dX5_readLaws_34 rfl rfl ?_
      refine r_ifeqF 38 dX5_readLaws_35 rfl 64 (by decide) (by decide) (by decide) ?_
      refine r_aloadN 39 dX5_readLaws_38 rfl rfl ?_
      refine r_cv0 42 dX5_readLaws_39 rfl gX5_51 rfl (by decide) (sh_30 z _) rfl rfl (Nat.le_of_ble_eq_true rfl) (Nat.le_of_ble_eq_true rfl) rfl ?_
      refine x_readLaw hz hs ha hp (fun c2 b1 f1 f2 f3 f4 f5 => ?_) (fun c2 b0 f1 f2 => ?_)
      · refine r_ifeqF 45 dX5_readLaws_42 rfl 56 (by decide) (by decide) (by decide) ?_
        have hr := lOk_rng hp b1
        have hs3 := RS_frL hs f1
        have h5b : c2 30 0 5 = ((((l ++ [(tW T e p, lV T e p)])).length : Nat) : Int) := by
          rw [f4, h5, hll]
          show ((l.length : Nat) : Int) + 1 = ((l.length + 1 : Nat) : Int)
          omega
        have h6b : ∀ j, j < 6 → c2 32 0 j = fFo f0 (l ++ [(tW T e p, lV T e p)]) j := fun j hj => by
          rw [f5 j hj, fFo_app]
          by_cases q : j = tW T e p
          · rw [if_pos q, if_pos q]
          · rw [if_neg q, if_neg q]
            exact h6 j hj
        refine r_aloadN 46 dX5_readLaws_45 rfl rfl ?_
        refine r_cv0 49 dX5_readLaws_46 rfl gX5_55 rfl (by decide) (sh_30 z _) rfl rfl (Nat.le_of_ble_eq_true rfl) (Nat.le_of_ble_eq_true rfl) rfl ?_
        refine x_goesOn hs3 f2 hr.2.2.1 (fun y46 => ?_) (fun y46 z46 => ?_) (fun w46 => ?_)
        · refine r_ifeqF 52 dX5_readLaws_49 rfl 56 (by decide) (by decide) (by decide) ?_
          refine r_iconst 53 dX5_readLaws_52 rfl ?_
          refine r_goto 57 dX5_readLaws_53 (by decide) ?_
          refine r_istore3 58 dX5_readLaws_57 rfl rfl (by decide) ?_
          refine r_iinc4 61 dX5_readLaws_58 rfl rfl (by decide) ?_
          refine r_goto 27 dX5_readLaws_61 (by decide) ?_
          refine ih (i + 1) (lQ T e p + 1) (l ++ [(tW T e p, lV T e p)]) _ (by omega) (by omega) (by omega) (RG_tr hG (RG_tr (RLw_RG f1) (fun g i j n1 n2 n3 => by rw [cu_ap, if_neg (by omega)]))) (RS_frL hs3 (RF_RLw (RF_cu (by omega)))) ?_ ?_ ?_ ?_ (by rw [hll]; show (l.length + 1) * 2 ≤ _; omega) (by rw [hq, tLaws, if_pos b1, if_pos y46.1, if_pos y46.2])
          · rw [cu_ap, if_pos ⟨rfl, rfl, rfl⟩]
          · rw [cu_ap, if_neg (by omega)]; exact f3.trans h4
          · rw [cu_ap, if_neg (by omega)]; exact h5b
          · intro j hj
            rw [cu_ap, if_neg (by omega)]
            exact h6b j hj
        · refine r_ifeqT 56 0 dX5_readLaws_49 (by decide) (by decide) (by decide) ?_
          refine r_iconst 57 dX5_readLaws_56 rfl ?_
          refine r_istore3 58 dX5_readLaws_57 rfl rfl (by decide) ?_
          refine r_iinc4 61 dX5_readLaws_58 rfl rfl (by decide) ?_
          refine r_goto 27 dX5_readLaws_61 (by decide) ?_
          refine r_iload 29 dX5_readLaws_27 rfl rfl ?_
          refine r_bipush 31 dX5_readLaws_29 rfl (by decide) ?_
          refine r_icge 64 34 dX5_readLaws_31 rfl (by decide) (by omega) (by omega) (fun h31 => ?_) (fun h31 => ?_)
          · first
              | (have hq3 : tLaws T e 61 0 [] = (lQ T e p, (l ++ [(tW T e p, lV T e p)]), true) := by rw [hq, tLaws, if_pos b1, if_neg w46]
                 have h4b := f3.trans h4
                 exact x_laws64 (by omega) (fun _ => k1 c2 (by rw [hq3]) (RG_tr hG (RLw_RG f1)) h4b (by rw [hq3]; exact h5b) (by rw [hq3]; exact h6b)) (fun h => absurd h4b h))
              | (have hq3 : tLaws T e 61 0 [] = (lQ T e p, (l ++ [(tW T e p, lV T e p)]), false) := by rw [hq, tLaws, if_pos b1, if_pos y46, if_neg z46]
                 have h4b : cu c2 30 0 4 ((lQ T e p : Nat) : Int) 30 0 4 = ((lQ T e p : Nat) : Int) := rfl
                 have hr3 := hr.2.2.1
                 exact x_laws64 (by rw [h4b]; omega) (fun h => by rw [h4b] at h; omega) (fun _ => k0 _ (by rw [hq3]) (RG_tr hG (RG_tr (RLw_RG f1) (fun g i j n1 n2 n3 => by rw [cu_ap, if_neg (by omega)]))) (by rw [hq3]; exact h4b)))
              | (have hq3 : tLaws T e 61 0 [] = (lF T e p, l, false) := by rw [hq, tLaws, if_neg (by rw [b0]; decide)]
                 have hr3 := lF_rng (T := T) hp
                 exact x_laws64 (by rw [f2]; omega) (fun h => by rw [f2] at h; omega) (fun _ => k0 _ (by rw [hq3]) (RG_tr hG (RLw_RG f1)) (by rw [hq3]; exact f2)))
          · refine r_iloadN 35 dX5_readLaws_34 rfl rfl ?_
            refine r_ifeqT 64 0 dX5_readLaws_35 (by decide) (by decide) (by decide) ?_
            first
              | (have hq3 : tLaws T e 61 0 [] = (lQ T e p, (l ++ [(tW T e p, lV T e p)]), true) := by rw [hq, tLaws, if_pos b1, if_neg w46]
                 have h4b := f3.trans h4
                 exact x_laws64 (by omega) (fun _ => k1 c2 (by rw [hq3]) (RG_tr hG (RLw_RG f1)) h4b (by rw [hq3]; exact h5b) (by rw [hq3]; exact h6b)) (fun h => absurd h4b h))
              | (have hq3 : tLaws T e 61 0 [] = (lQ T e p, (l ++ [(tW T e p, lV T e p)]), false) := by rw [hq, tLaws, if_pos b1, if_pos y46, if_neg z46]
                 have h4b : cu c2 30 0 4 ((lQ T e p : Nat) : Int) 30 0 4 = ((lQ T e p : Nat) : Int) := rfl
                 have hr3 := hr.2.2.1
                 exact x_laws64 (by rw [h4b]; omega) (fun h => by rw [h4b] at h; omega) (fun _ => k0 _ (by rw [hq3]) (RG_tr hG (RG_tr (RLw_RG f1) (fun g i j n1 n2 n3 => by rw [cu_ap, if_neg (by omega)]))) (by rw [hq3]; exact h4b)))
              | (have hq3 : tLaws T e 61 0 [] = (lF T e p, l, false) := by rw [hq, tLaws, if_neg (by rw [b0]; decide)]
                 have hr3 := lF_rng (T := T) hp
                 exact x_laws64 (by rw [f2]; omega) (fun h => by rw [f2] at h; omega) (fun _ => k0 _ (by rw [hq3]) (RG_tr hG (RLw_RG f1)) (by rw [hq3]; exact f2)))
        · refine r_ifeqT 56 0 dX5_readLaws_49 (by decide) (by decide) (by decide) ?_
          refine r_iconst 57 dX5_readLaws_56 rfl ?_
          refine r_istore3 58 dX5_readLaws_57 rfl rfl (by decide) ?_
          refine r_iinc4 61 dX5_readLaws_58 rfl rfl (by decide) ?_
          refine r_goto 27 dX5_readLaws_61 (by decide) ?_
          refine r_iload 29 dX5_readLaws_27 rfl rfl ?_
          refine r_bipush 31 dX5_readLaws_29 rfl (by decide) ?_
          refine r_icge 64 34 dX5_readLaws_31 rfl (by decide) (by omega) (by omega) (fun h31 => ?_) (fun h31 => ?_)
          · first
              | (have hq3 : tLaws T e 61 0 [] = (lQ T e p, (l ++ [(tW T e p, lV T e p)]), true) := by rw [hq, tLaws, if_pos b1, if_neg w46]
                 have h4b := f3.trans h4
                 exact x_laws64 (by omega) (fun _ => k1 c2 (by rw [hq3]) (RG_tr hG (RLw_RG f1)) h4b (by rw [hq3]; exact h5b) (by rw [hq3]; exact h6b)) (fun h => absurd h4b h))
              | (have hq3 : tLaws T e 61 0 [] = (lQ T e p, (l ++ [(tW T e p, lV T e p)]), false) := by rw [hq, tLaws, if_pos b1, if_pos y46, if_neg z46]
                 have h4b : cu c2 30 0 4 ((lQ T e p : Nat) : Int) 30 0 4 = ((lQ T e p : Nat) : Int) := rfl
                 have hr3 := hr.2.2.1
                 exact x_laws64 (by rw [h4b]; omega) (fun h => by rw [h4b] at h; omega) (fun _ => k0 _ (by rw [hq3]) (RG_tr hG (RG_tr (RLw_RG f1) (fun g i j n1 n2 n3 => by rw [cu_ap, if_neg (by omega)]))) (by rw [hq3]; exact h4b)))
              | (have hq3 : tLaws T e 61 0 [] = (lF T e p, l, false) := by rw [hq, tLaws, if_neg (by rw [b0]; decide)]
                 have hr3 := lF_rng (T := T) hp
                 exact x_laws64 (by rw [f2]; omega) (fun h => by rw [f2] at h; omega) (fun _ => k0 _ (by rw [hq3]) (RG_tr hG (RLw_RG f1)) (by rw [hq3]; exact f2)))
          · refine r_iloadN 35 dX5_readLaws_34 rfl rfl ?_
            refine r_ifeqT 64 0 dX5_readLaws_35 (by decide) (by decide) (by decide) ?_
            first
              | (have hq3 : tLaws T e 61 0 [] = (lQ T e p, (l ++ [(tW T e p, lV T e p)]), true) := by rw [hq, tLaws, if_pos b1, if_neg w46]
                 have h4b := f3.trans h4
                 exact x_laws64 (by omega) (fun _ => k1 c2 (by rw [hq3]) (RG_tr hG (RLw_RG f1)) h4b (by rw [hq3]; exact h5b) (by rw [hq3]; exact h6b)) (fun h => absurd h4b h))
              | (have hq3 : tLaws T e 61 0 [] = (lQ T e p, (l ++ [(tW T e p, lV T e p)]), false) := by rw [hq, tLaws, if_pos b1, if_pos y46, if_neg z46]
                 have h4b : cu c2 30 0 4 ((lQ T e p : Nat) : Int) 30 0 4 = ((lQ T e p : Nat) : Int) := rfl
                 have hr3 := hr.2.2.1
                 exact x_laws64 (by rw [h4b]; omega) (fun h => by rw [h4b] at h; omega) (fun _ => k0 _ (by rw [hq3]) (RG_tr hG (RG_tr (RLw_RG f1) (fun g i j n1 n2 n3 => by rw [cu_ap, if_neg (by omega)]))) (by rw [hq3]; exact h4b)))
              | (have hq3 : tLaws T e 61 0 [] = (lF T e p, l, false) := by rw [hq, tLaws, if_neg (by rw [b0]; decide)]
                 have hr3 := lF_rng (T := T) hp
                 exact x_laws64 (by rw [f2]; omega) (fun h => by rw [f2] at h; omega) (fun _ => k0 _ (by rw [hq3]) (RG_tr hG (RLw_RG f1)) (by rw [hq3]; exact f2)))
      · refine r_ifeqT 56 0 dX5_readLaws_42 (by decide) (by decide) (by decide) ?_
        refine r_iconst 57 dX5_readLaws_56 rfl ?_
        refine r_istore3 58 dX5_readLaws_57 rfl rfl (by decide) ?_
        refine r_iinc4 61 dX5_readLaws_58 rfl rfl (by decide) ?_
        refine r_goto 27 dX5_readLaws_61 (by decide) ?_
        refine r_iload 29 dX5_readLaws_27 rfl rfl ?_
        refine r_bipush 31 dX5_readLaws_29 rfl (by decide) ?_
        refine r_icge 64 34 dX5_readLaws_31 rfl (by decide) (by omega) (by omega) (fun h31 => ?_) (fun h31 => ?_)
        · first
            | (have hq3 : tLaws T e 61 0 [] = (lQ T e p, (l ++ [(tW T e p, lV T e p)]), true) := by rw [hq, tLaws, if_pos b1, if_neg w46]
               have h4b := f3.trans h4
               exact x_laws64 (by omega) (fun _ => k1 c2 (by rw [hq3]) (RG_tr hG (RLw_RG f1)) h4b (by rw [hq3]; exact h5b) (by rw [hq3]; exact h6b)) (fun h => absurd h4b h))
            | (have hq3 : tLaws T e 61 0 [] = (lQ T e p, (l ++ [(tW T e p, lV T e p)]), false) := by rw [hq, tLaws, if_pos b1, if_pos y46, if_neg z46]
               have h4b : cu c2 30 0 4 ((lQ T e p : Nat) : Int) 30 0 4 = ((lQ T e p : Nat) : Int) := rfl
               have hr3 := hr.2.2.1
               exact x_laws64 (by rw [h4b]; omega) (fun h => by rw [h4b] at h; omega) (fun _ => k0 _ (by rw [hq3]) (RG_tr hG (RG_tr (RLw_RG f1) (fun g i j n1 n2 n3 => by rw [cu_ap, if_neg (by omega)]))) (by rw [hq3]; exact h4b)))
            | (have hq3 : tLaws T e 61 0 [] = (lF T e p, l, false) := by rw [hq, tLaws, if_neg (by rw [b0]; decide)]
               have hr3 := lF_rng (T := T) hp
               exact x_laws64 (by rw [f2]; omega) (fun h => by rw [f2] at h; omega) (fun _ => k0 _ (by rw [hq3]) (RG_tr hG (RLw_RG f1)) (by rw [hq3]; exact f2)))
        · refine r_iloadN 35 dX5_readLaws_34 rfl rfl ?_
          refine r_ifeqT 64 0 dX5_readLaws_35 (by decide) (by decide) (by decide) ?_
          first
            | (have hq3 : tLaws T e 61 0 [] = (lQ T e p, (l ++ [(tW T e p, lV T e p)]), true) := by rw [hq, tLaws, if_pos b1, if_neg w46]
               have h4b := f3.trans h4
               exact x_laws64 (by omega) (fun _ => k1 c2 (by rw [hq3]) (RG_tr hG (RLw_RG f1)) h4b (by rw [hq3]; exact h5b) (by rw [hq3]; exact h6b)) (fun h => absurd h4b h))
            | (have hq3 : tLaws T e 61 0 [] = (lQ T e p, (l ++ [(tW T e p, lV T e p)]), false) := by rw [hq, tLaws, if_pos b1, if_pos y46, if_neg z46]
               have h4b : cu c2 30 0 4 ((lQ T e p : Nat) : Int) 30 0 4 = ((lQ T e p : Nat) : Int) := rfl
               have hr3 := hr.2.2.1
               exact x_laws64 (by rw [h4b]; omega) (fun h => by rw [h4b] at h; omega) (fun _ => k0 _ (by rw [hq3]) (RG_tr hG (RG_tr (RLw_RG f1) (fun g i j n1 n2 n3 => by rw [cu_ap, if_neg (by omega)]))) (by rw [hq3]; exact h4b)))
            | (have hq3 : tLaws T e 61 0 [] = (lF T e p, l, false) := by rw [hq, tLaws, if_neg (by rw [b0]; decide)]
               have hr3 := lF_rng (T := T) hp
               exact x_laws64 (by rw [f2]; omega) (fun h => by rw [f2] at h; omega) (fun _ => k0 _ (by rw [hq3]) (RG_tr hG (RLw_RG f1)) (by rw [hq3]; exact f2)))
theorem x_readLaws {z : xZ} {d : Nat} {Q : tQ} {c : tC} {L : tL} {s e : Nat} {T : Nat → Int} (hz : zF z) (h : SR c L s e T) (hs : s < 8) (hT : ∀ j, inR (T j)) (k1 : ∀ c2, (tLaws T e 61 0 []).2.2 = true → RG c c2 → c2 30 0 4 = -1 → c2 30 0 5 = (((tLaws T e 61 0 []).2.1.length : Nat) : Int) → (∀ j, j < 6 → c2 32 0 j = fFo (c 27 0) (tLaws T e 61 0 []).2.1 j) → Q (some (.int (iI 1))) c2 L) (k0 : ∀ c2, (tLaws T e 61 0 []).2.2 = false → RG c c2 → c2 30 0 4 = (((tLaws T e 61 0 []).1 : Nat) : Int) → Q (some (.int (iI 0))) c2 L) : En z (d + 10) MX5_readLaws Q 0 [some (.ref (xad z 30 0)), some (.ref (xad z 2 s)), some (.ref (xad z 27 0)), none, none] [] c L := by
  refine r_aloadN 1 dX5_readLaws_0 rfl rfl ?_
  refine r_aloadN 2 dX5_readLaws_1 rfl rfl ?_
  refine r_cv1 5 dX5_readLaws_2 rfl gX5_41 rfl (by decide) (sh_30 z _) rfl rfl (Nat.le_of_ble_eq_true rfl) (Nat.le_of_ble_eq_true rfl) rfl ?_
  refine x_rbegin h hs hT (fun c2 g1 g2 g3 g4 => ?_)
  refine r_aloadN 6 dX5_readLaws_5 rfl rfl ?_
  refine r_iconst 7 dX5_readLaws_6 rfl ?_
  refine r_aloadN 8 dX5_readLaws_7 rfl rfl ?_
  refine r_getq 11 dX5_readLaws_8 rfl fX5_31 (by decide) (sh_30 z _) rfl ?_
  refine r_iconst 12 dX5_readLaws_11 rfl ?_
  refine r_bipush 14 dX5_readLaws_12 rfl (by decide) ?_
  refine r_cpyi 17 dX5_readLaws_14 rfl gX5_45 (by decide) (sh_27 z _) (by decide) (sh_32 z _) (by decide) (by omega) (by omega) (by omega) (by omega) (by omega) ?_
  refine r_aloadN 18 dX5_readLaws_17 rfl rfl ?_
  refine r_iconst 19 dX5_readLaws_18 rfl ?_
  refine r_puti 22 dX5_readLaws_19 rfl pX5_28 (by decide) (sh_30 z _) rfl ?_
  refine r_iconst 23 dX5_readLaws_22 rfl ?_
  refine r_istore3 24 dX5_readLaws_23 rfl rfl (by decide) ?_
  refine r_iconst 25 dX5_readLaws_24 rfl ?_
  refine r_istore4 27 dX5_readLaws_25 rfl rfl (by decide) ?_
  have hX : ∀ j, j < 6 → va_cpy (c2 27 0) (c2 32 0) 0 0 6 j = c 27 0 j := fun j hj => by
    rw [pk_cpy_in (Nat.zero_le _) (by omega), Nat.zero_add, Nat.sub_zero]
    exact g1 27 0 j (by omega) (by omega)
  refine x_laws_loop (f0 := c 27 0) (c0 := c) (s := s) hz k1 k0 61 0 0 [] _ (by have := g2.2.1; omega) (by omega) (Nat.zero_le _) (fun g i j n1 n2 n3 => ?_) ?_ ?_ ?_ ?_ ?_ (Nat.le_refl _) rfl
  · rw [cu_ap, if_neg (by omega), cset, if_neg (by omega)]
    exact g1 g i j (by omega) (by omega)
  · exact ⟨g2.1, g2.2.1, g2.2.2.1, g2.2.2.2⟩
  · exact g3
  · exact g4
  · rfl
  · intro j hj
    rw [cu_ap, if_neg (by omega)]
    exact hX j hj
