/-! pressed: a row of ints as both have it -/
def eT (L : tL) (s j : Nat) : Int := (L 52 48 (60 * s + j)).toInt32.toInt
theorem eT_in (L : tL) (s j : Nat) : inR (eT L s j) := ⟨Int32.le_toInt _, Int32.toInt_lt _⟩
/-- the class's shelf s holds e elements, as ints T -/
def SR (c : tC) (L : tL) (s e : Nat) (T : Nat → Int) : Prop := c 2 s 1 = (e : Int) ∧ e ≤ 60 ∧ ∀ j, j < e → (L 3 s j).toInt32.toInt = T j
theorem SR_of {c : tC} {L : tL} {s : Nat} (hS : SH c L) (hs : s < 8) (h1 : c 51 44 s = 1) : SR c L s (c 51 46 s).toNat (eT L s) := by
  rcases hS s hs with a | a | a
  · omega
  · obtain ⟨_, _, _, a1, a2, a3⟩ := a
    refine ⟨by omega, by omega, fun j hj => ?_⟩
    rw [a3 j (by omega)]
    rfl
  · omega
theorem SR_fr {c c2 : tC} {L : tL} {s e : Nat} {T : Nat → Int} (h : SR c L s e T) (h2 : c2 2 s 1 = c 2 s 1) : SR c2 L s e T := ⟨h2.trans h.1, h.2⟩
theorem y_hasElement {z : xZ} {d : Nat} {Q : tQ} {c : tC} {L : tL} {s e : Nat} {T : Nat → Int} {v : Int} (h : SR c L s e T) (hs : s < 8) (hv : inR v) (k1 : (0 ≤ v ∧ v < (e : Int)) → Q (some (.int (iI 1))) c L) (k0 : ¬ (0 ≤ v ∧ v < (e : Int)) → Q (some (.int (iI 0))) c L) : En z (d + 1) MX7_hasElement Q 0 [some (.ref (xad z 2 s)), some (.int (iI v))] [] c L := by
  have hv1 := hv.1
  have hv2 := hv.2
  have h1 := h.1
  have h2 := h.2.1
  refine r_iloadN 1 dX7_hasElement_0 rfl rfl ?_
  refine r_iflt 16 4 dX7_hasElement_1 rfl (by decide) (by omega) (fun h1 => ?_) (fun h1 => ?_)
  · refine r_iconst 17 dX7_hasElement_16 rfl ?_
    exact r_zret dX7_hasElement_17 rfl (by decide) (k0 (by omega))
  · refine r_iloadN 5 dX7_hasElement_4 rfl rfl ?_
    refine r_aloadN 6 dX7_hasElement_5 rfl rfl ?_
    refine r_geti 9 dX7_hasElement_6 rfl fX7_15 (ct_2 (by omega)) (sh_2 z _) rfl ?_
    refine r_icge 16 12 dX7_hasElement_9 rfl (by decide) (by omega) (by omega) (fun h9 => ?_) (fun h9 => ?_)
    · refine r_iconst 17 dX7_hasElement_16 rfl ?_
      exact r_zret dX7_hasElement_17 rfl (by decide) (k0 (by omega))
    · refine r_iconst 13 dX7_hasElement_12 rfl ?_
      refine r_goto 17 dX7_hasElement_13 (by decide) ?_
      exact r_zret dX7_hasElement_17 rfl (by decide) (k1 (by omega))
theorem y_elementAt {z : xZ} {d : Nat} {Q : tQ} {c : tC} {L : tL} {s e v : Nat} {T : Nat → Int} (h : SR c L s e T) (hs : s < 8) (hv : v < e) (k : Q (some (.long (L 3 s v))) c L) : En z (d + 2) MX7_elementAt Q 0 [some (.ref (xad z 2 s)), some (.int (iI (v : Int)))] [] c L := by
  have h2 := h.2.1
  refine r_aloadN 1 dX7_elementAt_0 rfl rfl ?_
  refine r_iloadN 2 dX7_elementAt_1 rfl rfl ?_
  refine r_cv1 5 dX7_elementAt_2 rfl gX7_29 rfl (ct_2 (by omega)) (sh_2 z _) rfl rfl (Nat.le_of_ble_eq_true rfl) (Nat.le_of_ble_eq_true rfl) rfl ?_
  refine y_hasElement h hs (by constructor <;> omega) (fun y2 => ?_) (fun y2 => ?_)
  · refine r_ifeqF 8 dX7_elementAt_5 rfl 17 (by decide) (by decide) (by decide) ?_
    refine r_aloadN 9 dX7_elementAt_8 rfl rfl ?_
    refine r_getq 12 dX7_elementAt_9 rfl fX7_18 (ct_2 (by omega)) (sh_2 z _) rfl ?_
    refine r_iloadN 13 dX7_elementAt_12 rfl rfl ?_
    refine r_lald 14 dX7_elementAt_13 (v) rfl rfl (ct_3 (by omega)) (sh_3 z _) (by decide) (by omega) (by omega) ?_
    refine r_goto 18 dX7_elementAt_14 (by decide) ?_
    first
      | exact r_lret dX7_elementAt_18 rfl k
      | (exfalso; omega)
  · refine r_ifeqT 17 0 dX7_elementAt_5 (by decide) (by decide) (by decide) ?_
    refine r_lconst 18 dX7_elementAt_17 rfl ?_
    first
      | exact r_lret dX7_elementAt_18 rfl k
      | (exfalso; omega)
theorem y_intAt {z : xZ} {d : Nat} {Q : tQ} {c : tC} {L : tL} {s e v : Nat} {T : Nat → Int} (h : SR c L s e T) (hs : s < 8) (hv : v < e) (k : Q (some (.int (iI (T v)))) c L) : En z (d + 3) MX7_intAt Q 0 [some (.ref (xad z 2 s)), some (.int (iI (v : Int)))] [] c L := by
  refine r_aloadN 1 dX7_intAt_0 rfl rfl ?_
  refine r_iloadN 2 dX7_intAt_1 rfl rfl ?_
  refine r_cv1 5 dX7_intAt_2 rfl gX7_33 rfl (ct_2 (by omega)) (sh_2 z _) rfl rfl (Nat.le_of_ble_eq_true rfl) (Nat.le_of_ble_eq_true rfl) rfl ?_
  refine y_elementAt h hs hv ?_
  refine r_l2iR 6 dX7_intAt_5 rfl ?_
  rw [h.2.2 v hv]
  exact r_ret dX7_intAt_6 rfl k
theorem y_isPress {z : xZ} {d : Nat} {Q : tQ} {c : tC} {L : tL} {s e v : Nat} {T : Nat → Int} (h : SR c L s e T) (hs : s < 8) (hv : v < e) (hT : inR (T v)) (k1 : (T v = 0 ∨ T v = 1) → Q (some (.int (iI 1))) c L) (k0 : ¬ (T v = 0 ∨ T v = 1) → Q (some (.int (iI 0))) c L) : En z (d + 4) MX7_isPress Q 0 [some (.ref (xad z 2 s)), some (.int (iI (v : Int))), none] [] c L := by
  have h2 := h.2.1
  have hT1 := hT.1
  have hT2 := hT.2
  refine r_aloadN 1 dX7_isPress_0 rfl rfl ?_
  refine r_iloadN 2 dX7_isPress_1 rfl rfl ?_
  refine r_cv1 5 dX7_isPress_2 rfl gX7_51 rfl (ct_2 (by omega)) (sh_2 z _) rfl rfl (Nat.le_of_ble_eq_true rfl) (Nat.le_of_ble_eq_true rfl) rfl ?_
  refine y_intAt h hs hv ?_
  refine r_istore2 6 dX7_isPress_5 rfl rfl (by decide) ?_
  refine r_aloadN 7 dX7_isPress_6 rfl rfl ?_
  refine r_iloadN 8 dX7_isPress_7 rfl rfl ?_
  refine r_cv1 11 dX7_isPress_8 rfl gX7_29 rfl (ct_2 (by omega)) (sh_2 z _) rfl rfl (Nat.le_of_ble_eq_true rfl) (Nat.le_of_ble_eq_true rfl) rfl ?_
  refine y_hasElement h hs (by constructor <;> omega) (fun y8 => ?_) (fun y8 => ?_)
  · refine r_ifeqF 14 dX7_isPress_11 rfl 27 (by decide) (by decide) (by decide) ?_
    refine r_iloadN 15 dX7_isPress_14 rfl rfl ?_
    refine r_ifeq 23 18 dX7_isPress_15 rfl (by decide) (by omega) (fun h15 => ?_) (fun h15 => ?_)
    · refine r_iconst 24 dX7_isPress_23 rfl ?_
      refine r_goto 28 dX7_isPress_24 (by decide) ?_
      exact r_zret dX7_isPress_28 rfl (by decide) (k1 (by omega))
    · refine r_iloadN 19 dX7_isPress_18 rfl rfl ?_
      refine r_iconst 20 dX7_isPress_19 rfl ?_
      refine r_icne 27 23 dX7_isPress_20 rfl (by decide) (by omega) (by omega) (fun h20 => ?_) (fun h20 => ?_)
      · refine r_iconst 28 dX7_isPress_27 rfl ?_
        exact r_zret dX7_isPress_28 rfl (by decide) (k0 (by omega))
      · refine r_iconst 24 dX7_isPress_23 rfl ?_
        refine r_goto 28 dX7_isPress_24 (by decide) ?_
        exact r_zret dX7_isPress_28 rfl (by decide) (k1 (by omega))
  · refine r_ifeqT 27 0 dX7_isPress_11 (by decide) (by decide) (by decide) ?_
    refine r_iconst 28 dX7_isPress_27 rfl ?_
    exact r_zret dX7_isPress_28 rfl (by decide) (k0 (by omega))
/-- the presses that ints T tell: hour, heard -/
def fPl (T : Nat → Int) (h : Int) : Nat → List (Int × Int)
  | 0 => []
  | k + 1 => if T k = 0 ∨ T k = 1 then fPl T h k ++ [(h + k, T k)] else fPl T h k
theorem fPl_len (T : Nat → Int) (h : Int) : ∀ n, (fPl T h n).length ≤ n
  | 0 => Nat.le_refl _
  | n + 1 => by
    have := fPl_len T h n
    rw [fPl]
    split
    · rw [List.length_append]; simp only [List.length_cons, List.length_nil]; omega
    · omega
theorem fPl_mono (T : Nat → Int) (h : Int) : ∀ n k, (fPl T h n).length ≤ (fPl T h (n + k)).length
  | _, 0 => Nat.le_refl _
  | n, k + 1 => by
    have := fPl_mono T h n k
    rw [show n + (k + 1) = n + k + 1 by omega, fPl]
    split
    · rw [List.length_append]; omega
    · omega
theorem fPl_mem {T : Nat → Int} {h : Int} : ∀ {n : Nat} {x : Int × Int}, x ∈ fPl T h n → (h ≤ x.1 ∧ x.1 < h + n) ∧ (x.2 = 0 ∨ x.2 = 1)
  | 0, _, hx => absurd hx List.not_mem_nil
  | n + 1, x, hx => by
    rw [fPl] at hx
    split at hx
    · next q =>
      rcases List.mem_append.mp hx with a | a
      · have := fPl_mem a
        exact ⟨⟨this.1.1, by omega⟩, this.2⟩
      · have e : x = (h + n, T n) := List.mem_singleton.mp a
        rw [e]
        exact ⟨⟨by show h ≤ h + (n : Int); omega, by show h + (n : Int) < h + ((n + 1 : Nat) : Int); omega⟩, q⟩
    · have := fPl_mem hx
      exact ⟨⟨this.1.1, by omega⟩, this.2⟩
/-- the diary of c0 with presses l behind -/
def DI (c0 c : tC) (n : Nat) (q p a : Int) (l : List (Int × Int)) : Prop := (∀ g i j, ¬ ((17 ≤ g ∧ g ≤ 20) ∧ i = 0 ∧ n ≤ j) → ¬ (g = 16 ∧ i = 0 ∧ j ≤ 1) → c g i j = c0 g i j) ∧ c 16 0 0 = ((n + l.length : Nat) : Int) ∧ c 16 0 1 = q + (l.length : Nat) ∧ ∀ j, j < l.length → c 17 0 (n + j) = p ∧ c 18 0 (n + j) = (l.getD j (0, 0)).1 ∧ c 19 0 (n + j) = a ∧ c 20 0 (n + j) = (l.getD j (0, 0)).2
theorem getD_app {l : List (Int × Int)} {x : Int × Int} {j : Nat} : (l ++ [x]).getD j (0, 0) = if j = l.length then x else l.getD j (0, 0) := by
  rw [List.getD_eq_getElem?_getD, List.getD_eq_getElem?_getD]
  by_cases e : j = l.length
  · rw [if_pos e, e, List.getElem?_concat_length]; rfl
  · rw [if_neg e]
    by_cases h : j < l.length
    · rw [List.getElem?_append_left h]
    · rw [List.getElem?_eq_none (by rw [List.length_append]; simp only [List.length_cons, List.length_nil]; omega), List.getElem?_eq_none (by omega)]
theorem DI_nil {c : tC} {n : Nat} {q p a : Int} (h0 : c 16 0 0 = (n : Int)) (h1 : c 16 0 1 = q) : DI c c n q p a [] := ⟨fun _ _ _ _ _ => rfl, h0, by rw [h1]; simp, fun j hj => absurd hj (Nat.not_lt_zero _)⟩
theorem DI_app {c0 c : tC} {n : Nat} {q p a h v : Int} {l : List (Int × Int)} (hD : DI c0 c n q p a l) : DI c0 (uDia (cu c 16 0 1 (q + (l.length : Nat) + 1)) (n + l.length) p h a v) n q p a (l ++ [(h, v)]) := by
  obtain ⟨h1, h2, h3, h4⟩ := hD
  have hl : (l ++ [(h, v)]).length = l.length + 1 := by rw [List.length_append]; rfl
  refine ⟨fun g i j n1 n2 => ?_, ?_, ?_, fun j hj => ?_⟩
  · simp only [uDia, cu_ap]
    rw [if_neg (by omega), if_neg (by omega), if_neg (by omega), if_neg (by omega), if_neg (by omega), if_neg (by omega)]
    exact h1 g i j n1 n2
  · rw [hl]
    show ((n + l.length : Nat) : Int) + 1 = _
    omega
  · rw [hl]
    show q + (l.length : Nat) + 1 = _
    omega
  · rw [hl] at hj
    simp only [uDia, cu_ap, getD_app]
    by_cases e : j = l.length
    · rw [e]; simp
    · have := h4 j (by omega)
      simp [e]
      exact this
/-- the model's presses of c0 with l behind -/
def DM (c0 c : tC) (n : Nat) (m p a : Int) (l : List (Int × Int)) : Prop := (∀ g i j, ¬ (g = 51 ∧ (27 ≤ i ∧ i ≤ 31) ∧ n ≤ j) → ¬ (g = 50 ∧ i = 0 ∧ (j = 3 ∨ j = 9)) → c g i j = c0 g i j) ∧ c 50 0 3 = ((n + l.length : Nat) : Int) ∧ c 50 0 9 = m + (l.length : Nat) ∧ ∀ j, j < l.length → c 51 27 (n + j) = p ∧ c 51 28 (n + j) = (l.getD j (0, 0)).1 ∧ c 51 29 (n + j) = a ∧ c 51 30 (n + j) = (l.getD j (0, 0)).2 ∧ c 51 31 (n + j) = m + (j : Int)
theorem DM_nil {c : tC} {n : Nat} {m p a : Int} (h0 : c 50 0 3 = (n : Int)) (h1 : c 50 0 9 = m) : DM c c n m p a [] := ⟨fun _ _ _ _ _ => rfl, h0, by rw [h1]; simp, fun j hj => absurd hj (Nat.not_lt_zero _)⟩
theorem DM_app {c0 c : tC} {n : Nat} {m p a h v : Int} {l : List (Int × Int)} (hD : DM c0 c n m p a l) : DM c0 (uPrM c (n + l.length) (m + (l.length : Nat)) p h a v) n m p a (l ++ [(h, v)]) := by
  obtain ⟨h1, h2, h3, h4⟩ := hD
  have hl : (l ++ [(h, v)]).length = l.length + 1 := by rw [List.length_append]; rfl
  refine ⟨fun g i j n1 n2 => ?_, ?_, ?_, fun j hj => ?_⟩
  · simp only [uPrM, cu_ap]
    rw [if_neg (by omega), if_neg (by omega), if_neg (by omega), if_neg (by omega), if_neg (by omega), if_neg (by omega), if_neg (by omega)]
    exact h1 g i j n1 n2
  · rw [hl]
    show ((n + l.length : Nat) : Int) + 1 = _
    omega
  · rw [hl]
    show m + (l.length : Nat) + 1 = _
    omega
  · rw [hl] at hj
    simp only [uPrM, cu_ap, getD_app]
    by_cases e : j = l.length
    · rw [e]; simp
    · have := h4 j (by omega)
      simp [e]
      exact this
theorem y_countPresses_loop {z : xZ} {d : Nat} {Q : tQ} {c : tC} {L : tL} {s e i0 n : Nat} {T : Nat → Int} {h0 : Int} (h : SR c L s e T) (hs : s < 8) (hT : ∀ j, inR (T j)) (hn : i0 + n ≤ e) (kk : ∀ r, r = (((fPl (fun k => T (i0 + k)) h0 n).length : Nat) : Int) → Q (some (.int (iI r))) c L) : ∀ (k i : Nat) (m : Int), i + k = n → m = (((fPl (fun k => T (i0 + k)) h0 i).length : Nat) : Int) → En z (d + 5) MX7_countPresses Q 5 [some (.ref (xad z 2 s)), some (.int (iI (i0 : Int))), some (.int (iI (n : Int))), some (.int (iI m)), some (.int (iI (i : Int)))] [] c L := by
  have h2 := h.2.1
  intro k
  induction k with
  | zero =>
    intro i m hi hm
    refine r_iload 7 dX7_countPresses_5 rfl rfl ?_
    refine r_iloadN 8 dX7_countPresses_7 rfl rfl ?_
    refine r_icge 31 11 dX7_countPresses_8 rfl (by decide) (by omega) (by omega) (fun h8 => ?_) (fun h8 => ?_)
    · refine r_iloadN 32 dX7_countPresses_31 rfl rfl ?_
      refine r_ret dX7_countPresses_32 rfl (kk _ ?_)
      rw [hm, show i = n by omega]
    · exfalso; omega
  | succ k ih =>
    intro i m hi hm
    have hfl := fPl_len (fun k => T (i0 + k)) h0 i
    refine r_iload 7 dX7_countPresses_5 rfl rfl ?_
    refine r_iloadN 8 dX7_countPresses_7 rfl rfl ?_
    refine r_icge 31 11 dX7_countPresses_8 rfl (by decide) (by omega) (by omega) (fun h8 => ?_) (fun h8 => ?_)
    · exfalso; omega
    · refine r_aloadN 12 dX7_countPresses_11 rfl rfl ?_
      refine r_iloadN 13 dX7_countPresses_12 rfl rfl ?_
      refine r_iload 15 dX7_countPresses_13 rfl rfl ?_
      refine r_iadd 16 dX7_countPresses_15 rfl ?_
      rw [show ((i0 : Int) + (i : Int)) = ((i0 + i : Nat) : Int) by omega]
      refine r_cv1 19 dX7_countPresses_16 rfl gX7_55 rfl (ct_2 (by omega)) (sh_2 z _) rfl rfl (Nat.le_of_ble_eq_true rfl) (Nat.le_of_ble_eq_true rfl) rfl ?_
      refine y_isPress (v := i0 + i) h hs (by omega) (hT _) (fun y16 => ?_) (fun y16 => ?_)
      · refine r_ifeqF 22 dX7_countPresses_19 rfl 25 (by decide) (by decide) (by decide) ?_
        refine r_iinc3 25 dX7_countPresses_22 rfl rfl (by decide) ?_
        refine r_iinc4 28 dX7_countPresses_25 rfl rfl (by decide) ?_
        refine r_goto 5 dX7_countPresses_28 (by decide) ?_
        refine ih (i + 1) _ (by omega) ?_
        rw [fPl]
        first
          | (rw [if_pos y16, List.length_append]; simp only [List.length_cons, List.length_nil]; omega)
          | (rw [if_neg y16]; exact hm)
      · refine r_ifeqT 25 0 dX7_countPresses_19 (by decide) (by decide) (by decide) ?_
        refine r_iinc4 28 dX7_countPresses_25 rfl rfl (by decide) ?_
        refine r_goto 5 dX7_countPresses_28 (by decide) ?_
        refine ih (i + 1) _ (by omega) ?_
        rw [fPl]
        first
          | (rw [if_pos y16, List.length_append]; simp only [List.length_cons, List.length_nil]; omega)
          | (rw [if_neg y16]; exact hm)
theorem y_countPresses {z : xZ} {d : Nat} {Q : tQ} {c : tC} {L : tL} {s e i0 n : Nat} {T : Nat → Int} (h : SR c L s e T) (hs : s < 8) (hT : ∀ j, inR (T j)) (hn : i0 + n ≤ e) (h0 : Int) (k : ∀ r, r = (((fPl (fun k => T (i0 + k)) h0 n).length : Nat) : Int) → Q (some (.int (iI r))) c L) : En z (d + 5) MX7_countPresses Q 0 [some (.ref (xad z 2 s)), some (.int (iI (i0 : Int))), some (.int (iI (n : Int))), none, none] [] c L := by
  refine r_iconst 1 dX7_countPresses_0 rfl ?_
  refine r_istore3 2 dX7_countPresses_1 rfl rfl (by decide) ?_
  refine r_iconst 3 dX7_countPresses_2 rfl ?_
  refine r_istore4 5 dX7_countPresses_3 rfl rfl (by decide) ?_
  exact y_countPresses_loop h hs hT hn k n 0 0 (by omega) rfl
theorem y_addPresses_loop {z : xZ} {d : Nat} {Q : tQ} {L : tL} {s e i0 n n9 p : Nat} {q3 a : Int} {T : Nat → Int} {c0 : tC} (h : SR c0 L s e T) (hs : s < 8) (hT : ∀ j, inR (T j)) (hn : i0 + n ≤ e) (hp : p < 12) (ha : c0 12 p 0 = a) (hq : 0 ≤ q3 ∧ q3 + ((fPl (fun k => T (i0 + k)) (c0 8 0 0 - (n : Int)) n).length : Nat) ≤ 60) (h9 : n9 + (fPl (fun k => T (i0 + k)) (c0 8 0 0 - (n : Int)) n).length ≤ 80) (kk : ∀ c, DI c0 c n9 q3 p a (fPl (fun k => T (i0 + k)) (c0 8 0 0 - (n : Int)) n) → Q none c L) : ∀ (k i : Nat) (c : tC), i + k = n → DI c0 c n9 q3 p a (fPl (fun k => T (i0 + k)) (c0 8 0 0 - (n : Int)) i) → En z (d + 6) MX9_addPresses Q 3 [some (.ref (xad z 8 0)), some (.int (iI (p : Int))), some (.ref (xad z 2 s)), some (.int (iI (i0 : Int))), some (.int (iI (n : Int))), some (.int (iI (i : Int)))] [] c L := by
  have h2 := h.2.1
  intro k
  induction k with
  | zero =>
    intro i c hi hD
    refine r_iload 5 dX9_addPresses_3 rfl rfl ?_
    refine r_iload 7 dX9_addPresses_5 rfl rfl ?_
    refine r_icge 71 10 dX9_addPresses_7 rfl (by decide) (by omega) (by omega) (fun h7 => ?_) (fun h7 => ?_)
    · have e9 : i = n := by omega
      subst e9
      exact r_vret dX9_addPresses_71 rfl (kk _ hD)
    · exfalso; omega
  | succ k ih =>
    intro i c hi hD
    have hfl := fPl_len (fun k => T (i0 + k)) (c0 8 0 0 - (n : Int)) i
    have hmo := fPl_mono (fun k => T (i0 + k)) (c0 8 0 0 - (n : Int)) (i + 1) (n - (i + 1))
    rw [show i + 1 + (n - (i + 1)) = n by omega] at hmo
    have hT1 := (hT (i0 + i)).1
    have hT2 := (hT (i0 + i)).2
    have h3 : SR c L s e T := SR_fr h (hD.1 2 s 1 (by omega) (by omega))
    have hst : T (i0 + i) = 0 ∨ T (i0 + i) = 1 → (fPl (fun k => T (i0 + k)) (c0 8 0 0 - (n : Int)) (i + 1)).length = (fPl (fun k => T (i0 + k)) (c0 8 0 0 - (n : Int)) i).length + 1 := fun y => by
      rw [fPl, if_pos y, List.length_append]
      rfl
    refine r_iload 5 dX9_addPresses_3 rfl rfl ?_
    refine r_iload 7 dX9_addPresses_5 rfl rfl ?_
    refine r_icge 71 10 dX9_addPresses_7 rfl (by decide) (by omega) (by omega) (fun h7 => ?_) (fun h7 => ?_)
    · exfalso; omega
    · refine r_aloadN 11 dX9_addPresses_10 rfl rfl ?_
      refine r_iloadN 12 dX9_addPresses_11 rfl rfl ?_
      refine r_iload 14 dX9_addPresses_12 rfl rfl ?_
      refine r_iadd 15 dX9_addPresses_14 rfl ?_
      rw [show ((i0 : Int) + (i : Int)) = ((i0 + i : Nat) : Int) by omega]
      refine r_cv1 18 dX9_addPresses_15 rfl gX9_121 rfl (ct_2 (by omega)) (sh_2 z _) rfl rfl (Nat.le_of_ble_eq_true rfl) (Nat.le_of_ble_eq_true rfl) rfl ?_
      refine y_isPress (v := i0 + i) h3 hs (by omega) (hT _) (fun y15 => ?_) (fun y15 => ?_)
      · refine r_ifeqF 21 dX9_addPresses_18 rfl 65 (by decide) (by decide) (by decide) ?_
        refine r_aloadN 22 dX9_addPresses_21 rfl rfl ?_
        refine r_getq 25 dX9_addPresses_22 rfl fX9_51 (by decide) (sh_8 z _) rfl ?_
        refine r_iloadN 26 dX9_addPresses_25 rfl rfl ?_
        refine r_aloadN 27 dX9_addPresses_26 rfl rfl ?_
        refine r_geti 30 dX9_addPresses_27 rfl fX9_9 (by decide) (sh_8 z _) rfl ?_
        rw [hD.1 8 0 0 (by omega) (by omega)]
        refine r_iload 32 dX9_addPresses_30 rfl rfl ?_
        refine r_isub 33 dX9_addPresses_32 rfl ?_
        refine r_iload 35 dX9_addPresses_33 rfl rfl ?_
        refine r_iadd 36 dX9_addPresses_35 rfl ?_
        refine r_aloadN 37 dX9_addPresses_36 rfl rfl ?_
        refine r_getq 40 dX9_addPresses_37 rfl fX9_32 (by decide) (sh_8 z _) rfl ?_
        refine r_iloadN 41 dX9_addPresses_40 rfl rfl ?_
        refine r_aald 42 dX9_addPresses_41 (p) rfl rfl (by decide) (sh_9a z) rfl (by decide) (by omega) (by omega) ?_
        refine r_geti 45 dX9_addPresses_42 rfl fX9_127 (ct_12 (by omega)) (sh_12 z _) rfl ?_
        rw [hD.1 12 p 0 (by omega) (by omega), ha]
        refine r_aloadN 46 dX9_addPresses_45 rfl rfl ?_
        refine r_iloadN 47 dX9_addPresses_46 rfl rfl ?_
        refine r_iload 49 dX9_addPresses_47 rfl rfl ?_
        refine r_iadd 50 dX9_addPresses_49 rfl ?_
        rw [show ((i0 : Int) + (i : Int)) = ((i0 + i : Nat) : Int) by omega]
        refine r_cv1 53 dX9_addPresses_50 rfl gX9_130 rfl (ct_2 (by omega)) (sh_2 z _) rfl rfl (Nat.le_of_ble_eq_true rfl) (Nat.le_of_ble_eq_true rfl) rfl ?_
        refine y_intAt (v := i0 + i) h3 hs (by omega) ?_
        refine r_iconst 54 dX9_addPresses_53 rfl ?_
        refine r_icne 61 57 dX9_addPresses_54 rfl (by decide) (by omega) (by omega) (fun h54 => ?_) (fun h54 => ?_)
        · refine r_iconst 62 dX9_addPresses_61 rfl ?_
          refine r_cv4 65 dX9_addPresses_62 rfl gX9_133 rfl (by decide) (sh_16 z _) rfl rfl (Nat.le_of_ble_eq_true rfl) (Nat.le_of_ble_eq_true rfl) rfl ?_
          refine x_addPress (n := n9 + (fPl (fun k => T (i0 + k)) (c0 8 0 0 - (n : Int)) i).length) (q := q3 + ((fPl (fun k => T (i0 + k)) (c0 8 0 0 - (n : Int)) i).length : Nat)) hD.2.1 (by have := hst y15; omega) hD.2.2.1 (by have := hst y15; omega) (by decide) ?_
          refine r_iinc5 68 dX9_addPresses_65 rfl rfl (by decide) ?_
          refine r_goto 3 dX9_addPresses_68 (by decide) ?_
          refine ih (i + 1) _ (by omega) ?_
          rw [fPl]
          first
            | (rw [if_neg y15]; exact hD)
            | (rw [if_pos y15]
               have e1 : T (i0 + i) = 1 := by omega
               show DI c0 _ n9 q3 p a (_ ++ [(_, T (i0 + i))])
               rw [e1]
               exact DI_app hD)
            | (rw [if_pos y15]
               have e1 : T (i0 + i) = 0 := by omega
               show DI c0 _ n9 q3 p a (_ ++ [(_, T (i0 + i))])
               rw [e1]
               exact DI_app hD)
        · refine r_iconst 58 dX9_addPresses_57 rfl ?_
          refine r_goto 62 dX9_addPresses_58 (by decide) ?_
          refine r_cv4 65 dX9_addPresses_62 rfl gX9_133 rfl (by decide) (sh_16 z _) rfl rfl (Nat.le_of_ble_eq_true rfl) (Nat.le_of_ble_eq_true rfl) rfl ?_
          refine x_addPress (n := n9 + (fPl (fun k => T (i0 + k)) (c0 8 0 0 - (n : Int)) i).length) (q := q3 + ((fPl (fun k => T (i0 + k)) (c0 8 0 0 - (n : Int)) i).length : Nat)) hD.2.1 (by have := hst y15; omega) hD.2.2.1 (by have := hst y15; omega) (by decide) ?_
          refine r_iinc5 68 dX9_addPresses_65 rfl rfl (by decide) ?_
          refine r_goto 3 dX9_addPresses_68 (by decide) ?_
          refine ih (i + 1) _ (by omega) ?_
          rw [fPl]
          first
            | (rw [if_neg y15]; exact hD)
            | (rw [if_pos y15]
               have e1 : T (i0 + i) = 1 := by omega
               show DI c0 _ n9 q3 p a (_ ++ [(_, T (i0 + i))])
               rw [e1]
               exact DI_app hD)
            | (rw [if_pos y15]
               have e1 : T (i0 + i) = 0 := by omega
               show DI c0 _ n9 q3 p a (_ ++ [(_, T (i0 + i))])
               rw [e1]
               exact DI_app hD)
      · refine r_ifeqT 65 0 dX9_addPresses_18 (by decide) (by decide) (by decide) ?_
        refine r_iinc5 68 dX9_addPresses_65 rfl rfl (by decide) ?_
        refine r_goto 3 dX9_addPresses_68 (by decide) ?_
        refine ih (i + 1) _ (by omega) ?_
        rw [fPl]
        first
          | (rw [if_neg y15]; exact hD)
          | (rw [if_pos y15]
             have e1 : T (i0 + i) = 1 := by omega
             show DI c0 _ n9 q3 p a (_ ++ [(_, T (i0 + i))])
             rw [e1]
             exact DI_app hD)
          | (rw [if_pos y15]
             have e1 : T (i0 + i) = 0 := by omega
             show DI c0 _ n9 q3 p a (_ ++ [(_, T (i0 + i))])
             rw [e1]
             exact DI_app hD)
theorem y_addPresses {z : xZ} {d : Nat} {Q : tQ} {c : tC} {L : tL} {s e i0 n n9 p : Nat} {q3 a : Int} {T : Nat → Int} (h : SR c L s e T) (hs : s < 8) (hT : ∀ j, inR (T j)) (hn : i0 + n ≤ e) (hp : p < 12) (ha : c 12 p 0 = a) (hq : 0 ≤ q3 ∧ q3 + ((fPl (fun k => T (i0 + k)) (c 8 0 0 - (n : Int)) n).length : Nat) ≤ 60) (h9 : n9 + (fPl (fun k => T (i0 + k)) (c 8 0 0 - (n : Int)) n).length ≤ 80) (h0 : c 16 0 0 = (n9 : Int)) (h1 : c 16 0 1 = q3) (k : ∀ c2, DI c c2 n9 q3 p a (fPl (fun k => T (i0 + k)) (c 8 0 0 - (n : Int)) n) → Q none c2 L) : En z (d + 6) MX9_addPresses Q 0 [some (.ref (xad z 8 0)), some (.int (iI (p : Int))), some (.ref (xad z 2 s)), some (.int (iI (i0 : Int))), some (.int (iI (n : Int))), none] [] c L := by
  refine r_iconst 1 dX9_addPresses_0 rfl ?_
  refine r_istore5 3 dX9_addPresses_1 rfl rfl (by decide) ?_
  exact y_addPresses_loop h hs hT hn hp ha hq h9 k n 0 c (by omega) (DI_nil h0 h1)
