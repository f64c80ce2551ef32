/-! plans: an item is off (1, 0), source, from, to, each -/
abbrev tI : Type := Int × Int × Int × Int × Int
def iOn (T : Nat → Int) (e p : Nat) : Bool := decide (p + 1 < e ∧ T (p + 1) = 110)
def iW (T : Nat → Int) (e p : Nat) : List Int := if iOn T e p = true then nm 7 else nm 6
def q1 (T : Nat → Int) (e p : Nat) : Nat := tSQ T e (iW T e p) (p + 1)
def q2 (T : Nat → Int) (e p : Nat) : Nat := tSQ T e (nm 8) (q1 T e p)
def q3 (T : Nat → Int) (e p : Nat) : Nat := tSQ T e (nm 9) (q2 T e p)
def q4 (T : Nat → Int) (e p : Nat) : Nat := tSQ T e (nm 10) (q3 T e p)
def u1 (T : Nat → Int) (e p : Nat) : Int := tSV T e (iW T e p) (p + 1)
def u2 (T : Nat → Int) (e p : Nat) : Int := tSV T e (nm 8) (q1 T e p)
def u3 (T : Nat → Int) (e p : Nat) : Int := tSV T e (nm 9) (q2 T e p)
def u4 (T : Nat → Int) (e p : Nat) : Int := tSV T e (nm 10) (q3 T e p)
abbrev iO (T : Nat → Int) (e p : Nat) : Bool := decide (p < e ∧ T p = 111)
abbrev i1 (T : Nat → Int) (e : Nat) (n : Int) (p : Nat) : Bool := tSN T e (iW T e p) 0 (n - 1) (p + 1)
abbrev i2 (T : Nat → Int) (e p : Nat) : Bool := tSN T e (nm 8) 0 239 (q1 T e p)
abbrev i3 (T : Nat → Int) (e p : Nat) : Bool := tSN T e (nm 9) (u2 T e p) 239 (q2 T e p)
abbrev iA (T : Nat → Int) (e p : Nat) : Bool := decide (q3 T e p < e ∧ T (q3 T e p) = 32)
abbrev i4 (T : Nat → Int) (e p : Nat) : Bool := tSN T e (nm 10) 1 99 (q3 T e p)
def iOk (T : Nat → Int) (e : Nat) (n : Int) (p : Nat) : Bool := if iO T e p = true then if i1 T e n p = true then if i2 T e p = true then if i3 T e p = true then if iA T e p = true then i4 T e p else true else false else false else false else false
def iF (T : Nat → Int) (e : Nat) (n : Int) (p : Nat) : Nat := if iO T e p = true then if i1 T e n p = true then if i2 T e p = true then if i3 T e p = true then tSF T e (nm 10) (q3 T e p) else tSF T e (nm 9) (q2 T e p) else tSF T e (nm 8) (q1 T e p) else tSF T e (iW T e p) (p + 1) else p
def iQ (T : Nat → Int) (e p : Nat) : Nat := if iA T e p = true then q4 T e p else q3 T e p
def iX (T : Nat → Int) (e p : Nat) : tI := (if iOn T e p = true then 0 else 1, u1 T e p, u2 T e p, u3 T e p, if iA T e p = true then u4 T e p else 0)
def tItems (T : Nat → Int) (e : Nat) (n : Int) : Nat → Nat → List tI → Nat × List tI × Bool
  | 0, p, l => (p, l, false)
  | k + 1, p, l => if iOk T e n p = true then (if iQ T e p < e then (if k = 0 then (iQ T e p, l ++ [iX T e p], false) else if T (iQ T e p) = 59 then tItems T e n k (iQ T e p + 1) (l ++ [iX T e p]) else (iQ T e p, l ++ [iX T e p], false)) else (iQ T e p, l ++ [iX T e p], true)) else (iF T e n p, l, false)
def xOk (n : Int) (x : tI) : Prop := (x.1 = 0 ∨ x.1 = 1) ∧ (0 ≤ x.2.1 ∧ x.2.1 < n) ∧ (0 ≤ x.2.2.1 ∧ x.2.2.1 ≤ x.2.2.2.1 ∧ x.2.2.2.1 ≤ 239) ∧ 0 ≤ x.2.2.2.2 ∧ x.2.2.2.2 ≤ 99
theorem iOk_rng {T : Nat → Int} {e p : Nat} {n : Int} (hp : p ≤ e) (h : iOk T e n p = true) : (iO T e p = true ∧ i1 T e n p = true ∧ i2 T e p = true ∧ i3 T e p = true ∧ (iA T e p = true → i4 T e p = true)) ∧ p + 1 ≤ iQ T e p ∧ iQ T e p ≤ e ∧ xOk n (iX T e p) := by
  unfold iOk at h
  split at h
  · next a0 =>
    split at h
    · next a1 =>
      split at h
      · next a2 =>
        split at h
        · next a3 =>
          have a4 : iA T e p = true → i4 T e p = true := fun q => by rw [if_pos q] at h; exact h
          refine ⟨⟨a0, a1, a2, a3, a4⟩, ?_⟩
          have b0 := of_decide_eq_true a0
          have f1 : q1 T e p = tSQ T e (iW T e p) (p + 1) := rfl
          have f2 : q2 T e p = tSQ T e (nm 8) (q1 T e p) := rfl
          have f3 : q3 T e p = tSQ T e (nm 9) (q2 T e p) := rfl
          have f4 : q4 T e p = tSQ T e (nm 10) (q3 T e p) := rfl
          have e1 : u1 T e p = tSV T e (iW T e p) (p + 1) := rfl
          have e2 : u2 T e p = tSV T e (nm 8) (q1 T e p) := rfl
          have e3 : u3 T e p = tSV T e (nm 9) (q2 T e p) := rfl
          have e4 : u4 T e p = tSV T e (nm 10) (q3 T e p) := rfl
          have r1 := tSQ_rng (T := T) (e := e) (l := iW T e p) (p := p + 1) (by omega)
          have r2 := tSQ_rng (T := T) (e := e) (l := nm 8) (p := q1 T e p) (by omega)
          have r3 := tSQ_rng (T := T) (e := e) (l := nm 9) (p := q2 T e p) (by omega)
          have r4 := tSQ_rng (T := T) (e := e) (l := nm 10) (p := q3 T e p) (by omega)
          have s1 := tSN_rng (p := p + 1) (by omega) a1
          have s2 := tSN_rng (p := q1 T e p) (by omega) a2
          have s3 := tSN_rng (p := q2 T e p) (by omega) a3
          by_cases qa : iA T e p = true
          · have s4 := tSN_rng (p := q3 T e p) (by omega) (a4 qa)
            refine ⟨?_, ?_, ?_, ?_, ?_, ?_⟩
            · unfold iQ; rw [if_pos qa]; omega
            · unfold iQ; rw [if_pos qa]; omega
            · unfold iX
              show (if iOn T e p = true then (0 : Int) else 1) = 0 ∨ (if iOn T e p = true then (0 : Int) else 1) = 1
              split
              · exact Or.inl rfl
              · exact Or.inr rfl
            · show 0 ≤ u1 T e p ∧ u1 T e p < n; omega
            · show 0 ≤ u2 T e p ∧ u2 T e p ≤ u3 T e p ∧ u3 T e p ≤ 239; omega
            · show 0 ≤ (if iA T e p = true then u4 T e p else 0) ∧ (if iA T e p = true then u4 T e p else 0) ≤ 99
              rw [if_pos qa]
              omega
          · refine ⟨?_, ?_, ?_, ?_, ?_, ?_⟩
            · unfold iQ; rw [if_neg qa]; omega
            · unfold iQ; rw [if_neg qa]; omega
            · unfold iX
              show (if iOn T e p = true then (0 : Int) else 1) = 0 ∨ (if iOn T e p = true then (0 : Int) else 1) = 1
              split
              · exact Or.inl rfl
              · exact Or.inr rfl
            · show 0 ≤ u1 T e p ∧ u1 T e p < n; omega
            · show 0 ≤ u2 T e p ∧ u2 T e p ≤ u3 T e p ∧ u3 T e p ≤ 239; omega
            · show 0 ≤ (if iA T e p = true then u4 T e p else 0) ∧ (if iA T e p = true then u4 T e p else 0) ≤ 99
              rw [if_neg qa]
              omega
        · exact absurd h (by decide)
      · exact absurd h (by decide)
    · exact absurd h (by decide)
  · exact absurd h (by decide)
theorem iF_rng {T : Nat → Int} {e p : Nat} {n : Int} (hp : p ≤ e) : iF T e n p ≤ e := by
  unfold iF
  split
  · next a0 =>
    have b0 := of_decide_eq_true a0
    have f1 : q1 T e p = tSQ T e (iW T e p) (p + 1) := rfl
    have f2 : q2 T e p = tSQ T e (nm 8) (q1 T e p) := rfl
    have f3 : q3 T e p = tSQ T e (nm 9) (q2 T e p) := rfl
    have r1 := tSQ_rng (T := T) (e := e) (l := iW T e p) (p := p + 1) (by omega)
    have r2 := tSQ_rng (T := T) (e := e) (l := nm 8) (p := q1 T e p) (by omega)
    have r3 := tSQ_rng (T := T) (e := e) (l := nm 9) (p := q2 T e p) (by omega)
    have r4 := tSQ_rng (T := T) (e := e) (l := nm 10) (p := q3 T e p) (by omega)
    split
    · split
      · split
        · exact r4.2.1.2
        · exact r3.2.1.2
      · exact r2.2.1.2
    · exact r1.2.1.2
  · exact hp
theorem tItems_rng {T : Nat → Int} {e : Nat} {n : Int} : ∀ (k p : Nat) (l : List tI), p ≤ e → (∀ x ∈ l, xOk n x) → (tItems T e n k p l).1 ≤ e ∧ (∀ x ∈ (tItems T e n k p l).2.1, xOk n x) ∧ (tItems T e n k p l).2.1.length ≤ l.length + k
  | 0, p, l, h, hl => ⟨h, hl, Nat.le_refl _⟩
  | k + 1, p, l, h, hl => by
    rw [tItems]
    split
    · next q =>
      have hr := iOk_rng h q
      have hl2 : ∀ x ∈ l ++ [iX T e p], xOk n x := fun x hx => by
        rcases List.mem_append.mp hx with a | a
        · exact hl x a
        · rw [List.mem_singleton.mp a]
          exact hr.2.2.2
      have hln : (l ++ [iX T e p]).length = l.length + 1 := by rw [List.length_append]; rfl
      split
      · next z2 =>
        split
        · exact ⟨hr.2.2.1, hl2, by show (l ++ [iX T e p]).length ≤ _; omega⟩
        · split
          · have ih := tItems_rng (T := T) (e := e) (n := n) k (iQ T e p + 1) (l ++ [iX T e p]) (by omega) hl2
            exact ⟨ih.1, ih.2.1, by omega⟩
          · exact ⟨hr.2.2.1, hl2, by show (l ++ [iX T e p]).length ≤ _; omega⟩
      · exact ⟨hr.2.2.1, hl2, by show (l ++ [iX T e p]).length ≤ _; omega⟩
    · exact ⟨iF_rng h, hl, by show l.length ≤ _; omega⟩
/-- items l written to a plan -/
def PK (c : tC) (i : Nat) (l : List tI) : Prop := c 14 i 0 = ((l.length : Nat) : Int) ∧ ∀ j, j < l.length → c 45 i j = (l.getD j (0, 0, 0, 0, 0)).1 ∧ c 41 i j = (l.getD j (0, 0, 0, 0, 0)).2.1 ∧ c 42 i j = (l.getD j (0, 0, 0, 0, 0)).2.2.1 ∧ c 43 i j = (l.getD j (0, 0, 0, 0, 0)).2.2.2.1 ∧ c 44 i j = (l.getD j (0, 0, 0, 0, 0)).2.2.2.2
abbrev PI (c : tC) (l : List tI) : Prop := PK c 16 l
theorem getD_app2 {l : List tI} {x : tI} {j : Nat} : (l ++ [x]).getD j (0, 0, 0, 0, 0) = if j = l.length then x else l.getD j (0, 0, 0, 0, 0) := by
  rw [List.getD_eq_getElem?_getD, List.getD_eq_getElem?_getD]
  by_cases e : j = l.length
  · rw [if_pos e, e, List.getElem?_concat_length]; rfl
  · rw [if_neg e]
    by_cases h : j < l.length
    · rw [List.getElem?_append_left h]
    · rw [List.getElem?_eq_none (by rw [List.length_append]; simp only [List.length_cons, List.length_nil]; omega), List.getElem?_eq_none (by omega)]
abbrev uIt (c : tC) (m : Nat) (o s f t h : Int) : tC := cu (cu (cu (cu (cu (cu c 41 16 m s) 42 16 m f) 43 16 m t) 44 16 m h) 45 16 m o) 14 16 0 ((m : Int) + 1)
theorem PI_app {c : tC} {l : List tI} {o s f t h : Int} (hP : PI c l) : PI (uIt c l.length o s f t h) (l ++ [(o, s, f, t, h)]) := by
  have hl : (l ++ [(o, s, f, t, h)]).length = l.length + 1 := by rw [List.length_append]; rfl
  refine ⟨?_, fun j hj => ?_⟩
  · rw [hl]
    show ((l.length : Nat) : Int) + 1 = _
    omega
  · rw [hl] at hj
    simp only [uIt, cu_ap, getD_app2]
    by_cases e : j = l.length
    · rw [e]; simp
    · have := hP.2 j (by omega)
      simp [e]
      exact this
theorem PI_fr {c c2 : tC} {l : List tI} (h : PI c l) (h2 : RF c c2) : PI c2 l := by
  refine ⟨(h2 14 16 0 (by omega)).trans h.1, fun j hj => ?_⟩
  rw [h2 45 16 j (by omega), h2 41 16 j (by omega), h2 42 16 j (by omega), h2 43 16 j (by omega), h2 44 16 j (by omega)]
  exact h.2 j hj
/-- the reader of c with a new plan -/
def RQ (c c2 : tC) : Prop := ∀ g i j, ¬ (g = 30 ∧ i = 0 ∧ 2 ≤ j ∧ j ≤ 4) → ¬ (i = 16 ∧ (g = 14 ∨ (41 ≤ g ∧ g ≤ 45))) → c2 g i j = c g i j
theorem RF_RQ {a b : tC} (h : RF a b) : RQ a b := fun g i j n _ => h g i j n
theorem RQ_tr {a b c : tC} (h : RQ a b) (h2 : RQ b c) : RQ a c := fun g i j n n2 => (h2 g i j n n2).trans (h g i j n n2)
theorem RS_frQ {c c2 : tC} {e : Nat} {T : Nat → Int} (h : RS c e T) (h2 : RQ c c2) : RS c2 e T := ⟨(h2 30 0 1 (by omega) (by omega)).trans h.1, h.2.1, fun j hj => (h2 31 0 j (by omega) (by omega)).trans (h.2.2.1 j hj), h.2.2.2⟩
theorem uIt_RQ {c : tC} {m : Nat} {o s f t h : Int} : RQ c (uIt c m o s f t h) := fun g i j n1 n2 => by
  simp only [uIt, cu_ap]
  rw [if_neg (by omega), if_neg (by omega), if_neg (by omega), if_neg (by omega), if_neg (by omega), if_neg (by omega)]
theorem x_padd {z : xZ} {d : Nat} {Q : tQ} {c : tC} {L : tL} {m : Nat} {o s f t h : Int} (h0 : c 14 16 0 = (m : Int)) (hm : m < 8) (ho : o = 0 ∨ o = 1) (k : Q none (uIt c m o s f t h) L) : En z (d + 1) MX4_add Q 0 [some (.ref (xad z 14 16)), some (.int (iI o)), some (.int (iI s)), some (.int (iI f)), some (.int (iI t)), some (.int (iI h))] [] c L := by
  refine r_aloadN 1 dX4_add_0 rfl rfl ?_
  refine r_geti 4 dX4_add_1 rfl fX4_9 (ct_14 (by omega)) (sh_14 z _) rfl ?_
  rw [h0]
  refine r_bipush 6 dX4_add_4 rfl (by decide) ?_
  refine r_icge 79 9 dX4_add_6 rfl (by decide) (by omega) (by omega) (fun h6 => ?_) (fun h6 => ?_)
  · first
      | (exfalso; omega)
      | exact r_vret dX4_add_79 rfl k
  · refine r_aloadN 10 dX4_add_9 rfl rfl ?_
    refine r_getq 13 dX4_add_10 rfl fX4_15 (ct_14 (by omega)) (sh_14 z _) rfl ?_
    refine r_aloadN 14 dX4_add_13 rfl rfl ?_
    refine r_geti 17 dX4_add_14 rfl fX4_9 (ct_14 (by omega)) (sh_14 z _) rfl ?_
    rw [h0]
    refine r_iloadN 18 dX4_add_17 rfl rfl ?_
    refine r_iast 19 dX4_add_18 (m) rfl rfl (ct_41 (by omega)) (sh_41 z _) (by decide) (by omega) (by omega) ?_
    refine r_aloadN 20 dX4_add_19 rfl rfl ?_
    refine r_getq 23 dX4_add_20 rfl fX4_19 (ct_14 (by omega)) (sh_14 z _) rfl ?_
    refine r_aloadN 24 dX4_add_23 rfl rfl ?_
    refine r_geti 27 dX4_add_24 rfl fX4_9 (ct_14 (by omega)) (sh_14 z _) rfl ?_
    (try simp only [cu_ap, Nat.reduceEqDiff, false_and, and_false, if_false, reduceIte])
    rw [h0]
    refine r_iloadN 28 dX4_add_27 rfl rfl ?_
    refine r_iast 29 dX4_add_28 (m) rfl rfl (ct_42 (by omega)) (sh_42 z _) (by decide) (by omega) (by omega) ?_
    refine r_aloadN 30 dX4_add_29 rfl rfl ?_
    refine r_getq 33 dX4_add_30 rfl fX4_22 (ct_14 (by omega)) (sh_14 z _) rfl ?_
    refine r_aloadN 34 dX4_add_33 rfl rfl ?_
    refine r_geti 37 dX4_add_34 rfl fX4_9 (ct_14 (by omega)) (sh_14 z _) rfl ?_
    (try simp only [cu_ap, Nat.reduceEqDiff, false_and, and_false, if_false, reduceIte])
    rw [h0]
    refine r_iload 39 dX4_add_37 rfl rfl ?_
    refine r_iast 40 dX4_add_39 (m) rfl rfl (ct_43 (by omega)) (sh_43 z _) (by decide) (by omega) (by omega) ?_
    refine r_aloadN 41 dX4_add_40 rfl rfl ?_
    refine r_getq 44 dX4_add_41 rfl fX4_25 (ct_14 (by omega)) (sh_14 z _) rfl ?_
    refine r_aloadN 45 dX4_add_44 rfl rfl ?_
    refine r_geti 48 dX4_add_45 rfl fX4_9 (ct_14 (by omega)) (sh_14 z _) rfl ?_
    (try simp only [cu_ap, Nat.reduceEqDiff, false_and, and_false, if_false, reduceIte])
    rw [h0]
    refine r_iload 50 dX4_add_48 rfl rfl ?_
    refine r_iast 51 dX4_add_50 (m) rfl rfl (ct_44 (by omega)) (sh_44 z _) (by decide) (by omega) (by omega) ?_
    refine r_aloadN 52 dX4_add_51 rfl rfl ?_
    refine r_getq 55 dX4_add_52 rfl fX4_28 (ct_14 (by omega)) (sh_14 z _) rfl ?_
    refine r_aloadN 56 dX4_add_55 rfl rfl ?_
    refine r_geti 59 dX4_add_56 rfl fX4_9 (ct_14 (by omega)) (sh_14 z _) rfl ?_
    (try simp only [cu_ap, Nat.reduceEqDiff, false_and, and_false, if_false, reduceIte])
    rw [h0]
    refine r_iloadN 60 dX4_add_59 rfl rfl ?_
    refine r_ifeq 67 63 dX4_add_60 rfl (by decide) (by omega) (fun h60 => ?_) (fun h60 => ?_)
    · obtain rfl : o = 0 := by omega
      refine r_iconst 68 dX4_add_67 rfl ?_
      refine r_iast 69 dX4_add_68 (m) rfl rfl (ct_45 (by omega)) (sh_45 z _) (by decide) (by omega) (by omega) ?_
      refine r_aloadN 70 dX4_add_69 rfl rfl ?_
      refine r_dupr 71 dX4_add_70 rfl ?_
      refine r_geti 74 dX4_add_71 rfl fX4_9 (ct_14 (by omega)) (sh_14 z _) rfl ?_
      (try simp only [cu_ap, Nat.reduceEqDiff, false_and, and_false, if_false, reduceIte])
      rw [h0]
      refine r_iconst 75 dX4_add_74 rfl ?_
      refine r_iadd 76 dX4_add_75 rfl ?_
      refine r_puti 79 dX4_add_76 rfl pX4_9 (ct_14 (by omega)) (sh_14 z _) rfl ?_
      first
        | (exfalso; omega)
        | exact r_vret dX4_add_79 rfl k
    · obtain rfl : o = 1 := by omega
      refine r_iconst 64 dX4_add_63 rfl ?_
      refine r_goto 68 dX4_add_64 (by decide) ?_
      refine r_iast 69 dX4_add_68 (m) rfl rfl (ct_45 (by omega)) (sh_45 z _) (by decide) (by omega) (by omega) ?_
      refine r_aloadN 70 dX4_add_69 rfl rfl ?_
      refine r_dupr 71 dX4_add_70 rfl ?_
      refine r_geti 74 dX4_add_71 rfl fX4_9 (ct_14 (by omega)) (sh_14 z _) rfl ?_
      (try simp only [cu_ap, Nat.reduceEqDiff, false_and, and_false, if_false, reduceIte])
      rw [h0]
      refine r_iconst 75 dX4_add_74 rfl ?_
      refine r_iadd 76 dX4_add_75 rfl ?_
      refine r_puti 79 dX4_add_76 rfl pX4_9 (ct_14 (by omega)) (sh_14 z _) rfl ?_
      first
        | (exfalso; omega)
        | exact r_vret dX4_add_79 rfl k
theorem bne {b : Bool} (h : b = false) : ¬ b = true := by rw [h]; decide
theorem x_item38 {z : xZ} {d : Nat} {Q : tQ} {c c0 : tC} {L : tL} {e p w : Nat} {T : Nat → Int} {n ov : Int} {l : List tI} {v3 v4 v5 v6 : Option Value} (hz : zF z) (hw : w = 6 ∨ w = 7) (hn : nm w = iW T e p) (hov : ov = if iOn T e p = true then 0 else 1) (hnn : 0 ≤ n ∧ n ≤ 14) (a0 : iO T e p = true) (S0 : RS c0 e T) (R0 : RF c c0) (Z0 : c0 30 0 2 = ((p + 1 : Nat) : Int)) (H0 : c0 30 0 4 = c 30 0 4) (hp : p + 1 ≤ e) (hP : PI c l) (hl : l.length < 8) (k1 : ∀ c2, iOk T e n p = true → RQ c c2 → c2 30 0 2 = ((iQ T e p : Nat) : Int) → c2 30 0 4 = c 30 0 4 → PI c2 (l ++ [iX T e p]) → Q (some (.int (iI 1))) c2 L) (k0 : ∀ c2, iOk T e n p = false → RQ c c2 → c2 30 0 4 = ((iF T e n p : Nat) : Int) → Q (some (.int (iI 0))) c2 L) : En z (d + 6) MX5_readItem Q 38 [some (.ref (xad z 30 0)), some (.int (iI n)), some (.int (iI ov)), v3, v4, v5, v6] [.ref (sad z w), .ref (xad z 30 0)] c0 L := by
  have hov1 : ov = 0 ∨ ov = 1 := by rw [hov]; split; exact Or.inl rfl; exact Or.inr rfl
  refine r_cv1 41 dX5_readItem_38 rfl gX5_105 rfl (by decide) (sh_30 z _) rfl rfl (Nat.le_of_ble_eq_true rfl) (Nat.le_of_ble_eq_true rfl) rfl ?_
  refine x_takeAll (w := w) (p := p + 1) hz (by omega) S0 Z0 hp (fun c1 b1 P1 => ?_) (fun c1 b1 B1 => ?_)
  · rw [hn] at b1 P1
    refine r_ifeqF 44 dX5_readItem_41 rfl 55 (by decide) (by decide) (by decide) ?_
    refine r_aloadN 45 dX5_readItem_44 rfl rfl ?_
    refine r_iconst 46 dX5_readItem_45 rfl ?_
    refine r_iloadN 47 dX5_readItem_46 rfl rfl ?_
    refine r_iconst 48 dX5_readItem_47 rfl ?_
    refine r_isub 49 dX5_readItem_48 rfl ?_
    refine r_cv2 52 dX5_readItem_49 rfl gX5_115 rfl (by decide) (sh_30 z _) rfl rfl (Nat.le_of_ble_eq_true rfl) (Nat.le_of_ble_eq_true rfl) rfl ?_
    refine x_readNumber (RS_fr S0 P1.1) P1.2.1 (tSq_rng _ _ (by omega)).2.1 (by constructor <;> omega) (by constructor <;> omega) (fun m1 d1 E1 V1 => ?_) (fun m1 d1 D1 => ?_)
    · have a1 : i1 T e n p = true := (show tSN T e (iW T e p) 0 (n - 1) (p + 1) = true by unfold tSN; rw [b1, d1]; rfl)
      have F1 := RP_tr P1 E1
      have R1 := RF_tr R0 F1.1
      have H1 := F1.2.2.trans H0
      have S1 := RS_fr S0 F1.1
      have W1 := tSQ_rng (T := T) (e := e) (l := iW T e p) (p := p + 1) (by omega)
      have t1 : q1 T e p = tSQ T e (iW T e p) (p + 1) := rfl
      have x1 : u1 T e p = tSV T e (iW T e p) (p + 1) := rfl
      have N1 := tSN_rng (T := T) (p := p + 1) (by omega) a1
      refine r_ifneT 57 0 dX5_readItem_52 (by decide) (by decide) (by decide) ?_
      refine r_aloadN 58 dX5_readItem_57 rfl rfl ?_
      refine r_geti 61 dX5_readItem_58 rfl fX5_22 (by decide) (sh_30 z _) rfl ?_
      rw [show m1 30 0 3 = u1 T e p from V1]
      refine r_istore3 62 dX5_readItem_61 rfl rfl (by decide) ?_
      refine r_aloadN 63 dX5_readItem_62 rfl rfl ?_
      refine r_ldcs 65 dX5_readItem_63 rfl (kX5_135 z) ?_
      refine r_cv1 68 dX5_readItem_65 rfl gX5_105 rfl (by decide) (sh_30 z _) rfl rfl (Nat.le_of_ble_eq_true rfl) (Nat.le_of_ble_eq_true rfl) rfl ?_
      refine x_takeAll (w := 8) (p := q1 T e p) hz (by omega) S1 E1.2.1 (by omega) (fun c2 b2 P2 => ?_) (fun c2 b2 B2 => ?_)
      · refine r_ifeqF 71 dX5_readItem_68 rfl 82 (by decide) (by decide) (by decide) ?_
        refine r_aloadN 72 dX5_readItem_71 rfl rfl ?_
        refine r_iconst 73 dX5_readItem_72 rfl ?_
        refine r_sipush 76 dX5_readItem_73 rfl (by decide) ?_
        refine r_cv2 79 dX5_readItem_76 rfl gX5_115 rfl (by decide) (sh_30 z _) rfl rfl (Nat.le_of_ble_eq_true rfl) (Nat.le_of_ble_eq_true rfl) rfl ?_
        refine x_readNumber (RS_fr S1 P2.1) P2.2.1 (tSq_rng _ _ (by omega)).2.1 (by constructor <;> omega) (by constructor <;> omega) (fun m2 d2 E2 V2 => ?_) (fun m2 d2 D2 => ?_)
        · have a2 : i2 T e p = true := (show tSN T e (nm 8) 0 239 (q1 T e p) = true by unfold tSN; rw [b2, d2]; rfl)
          have F2 := RP_tr P2 E2
          have R2 := RF_tr R1 F2.1
          have H2 := F2.2.2.trans H1
          have S2 := RS_fr S1 F2.1
          have W2 := tSQ_rng (T := T) (e := e) (l := nm 8) (p := q1 T e p) (by omega)
          have t2 : q2 T e p = tSQ T e (nm 8) (q1 T e p) := rfl
          have x2 : u2 T e p = tSV T e (nm 8) (q1 T e p) := rfl
          have N2 := tSN_rng (T := T) (p := q1 T e p) (by omega) a2
          refine r_ifneT 84 0 dX5_readItem_79 (by decide) (by decide) (by decide) ?_
          refine r_aloadN 85 dX5_readItem_84 rfl rfl ?_
          refine r_geti 88 dX5_readItem_85 rfl fX5_22 (by decide) (sh_30 z _) rfl ?_
          rw [show m2 30 0 3 = u2 T e p from V2]
          refine r_istore4 90 dX5_readItem_88 rfl rfl (by decide) ?_
          refine r_aloadN 91 dX5_readItem_90 rfl rfl ?_
          refine r_ldcs 93 dX5_readItem_91 rfl (kX5_137 z) ?_
          refine r_cv1 96 dX5_readItem_93 rfl gX5_105 rfl (by decide) (sh_30 z _) rfl rfl (Nat.le_of_ble_eq_true rfl) (Nat.le_of_ble_eq_true rfl) rfl ?_
          refine x_takeAll (w := 9) (p := q2 T e p) hz (by omega) S2 E2.2.1 (by omega) (fun c3 b3 P3 => ?_) (fun c3 b3 B3 => ?_)
          · refine r_ifeqF 99 dX5_readItem_96 rfl 111 (by decide) (by decide) (by decide) ?_
            refine r_aloadN 100 dX5_readItem_99 rfl rfl ?_
            refine r_iload 102 dX5_readItem_100 rfl rfl ?_
            refine r_sipush 105 dX5_readItem_102 rfl (by decide) ?_
            refine r_cv2 108 dX5_readItem_105 rfl gX5_115 rfl (by decide) (sh_30 z _) rfl rfl (Nat.le_of_ble_eq_true rfl) (Nat.le_of_ble_eq_true rfl) rfl ?_
            refine x_readNumber (RS_fr S2 P3.1) P3.2.1 (tSq_rng _ _ (by omega)).2.1 (by constructor <;> omega) (by constructor <;> omega) (fun m3 d3 E3 V3 => ?_) (fun m3 d3 D3 => ?_)
            · have a3 : i3 T e p = true := (show tSN T e (nm 9) (u2 T e p) 239 (q2 T e p) = true by unfold tSN; rw [b3, d3]; rfl)
              have F3 := RP_tr P3 E3
              have R3 := RF_tr R2 F3.1
              have H3 := F3.2.2.trans H2
              have S3 := RS_fr S2 F3.1
              have W3 := tSQ_rng (T := T) (e := e) (l := nm 9) (p := q2 T e p) (by omega)
              have t3 : q3 T e p = tSQ T e (nm 9) (q2 T e p) := rfl
              have x3 : u3 T e p = tSV T e (nm 9) (q2 T e p) := rfl
              have N3 := tSN_rng (T := T) (p := q2 T e p) (by omega) a3
              refine r_ifneT 113 0 dX5_readItem_108 (by decide) (by decide) (by decide) ?_
              refine r_aloadN 114 dX5_readItem_113 rfl rfl ?_
              refine r_geti 117 dX5_readItem_114 rfl fX5_22 (by decide) (sh_30 z _) rfl ?_
              rw [show m3 30 0 3 = u3 T e p from V3]
              refine r_istore5 119 dX5_readItem_117 rfl rfl (by decide) ?_
              refine r_aloadN 120 dX5_readItem_119 rfl rfl ?_
              refine r_bipush 122 dX5_readItem_120 rfl (by decide) ?_
              refine r_cv1 125 dX5_readItem_122 rfl gX5_75 rfl (by decide) (sh_30 z _) rfl rfl (Nat.le_of_ble_eq_true rfl) (Nat.le_of_ble_eq_true rfl) rfl ?_
              refine x_isNext (p := q3 T e p) S3 E3.2.1 (by omega) (by decide) (fun y122 => ?_) (fun y122 => ?_)
              · refine r_istore6 127 dX5_readItem_125 rfl rfl (by decide) ?_
                have aA : iA T e p = true := decide_eq_true y122
                refine r_iload 129 dX5_readItem_127 rfl rfl ?_
                refine r_ifeqF 132 dX5_readItem_129 rfl 153 (by decide) (by decide) (by decide) ?_
                refine r_aloadN 133 dX5_readItem_132 rfl rfl ?_
                refine r_ldcs 135 dX5_readItem_133 rfl (kX5_139 z) ?_
                refine r_cv1 138 dX5_readItem_135 rfl gX5_105 rfl (by decide) (sh_30 z _) rfl rfl (Nat.le_of_ble_eq_true rfl) (Nat.le_of_ble_eq_true rfl) rfl ?_
                refine x_takeAll (w := 10) (p := q3 T e p) hz (by omega) S3 E3.2.1 (by omega) (fun c4 b4 P4 => ?_) (fun c4 b4 B4 => ?_)
                · refine r_ifeqF 141 dX5_readItem_138 rfl 151 (by decide) (by decide) (by decide) ?_
                  refine r_aloadN 142 dX5_readItem_141 rfl rfl ?_
                  refine r_iconst 143 dX5_readItem_142 rfl ?_
                  refine r_bipush 145 dX5_readItem_143 rfl (by decide) ?_
                  refine r_cv2 148 dX5_readItem_145 rfl gX5_115 rfl (by decide) (sh_30 z _) rfl rfl (Nat.le_of_ble_eq_true rfl) (Nat.le_of_ble_eq_true rfl) rfl ?_
                  refine x_readNumber (RS_fr S3 P4.1) P4.2.1 (tSq_rng _ _ (by omega)).2.1 (by constructor <;> omega) (by constructor <;> omega) (fun m4 d4 E4 V4 => ?_) (fun m4 d4 D4 => ?_)
                  · have a4 : i4 T e p = true := (show tSN T e (nm 10) 1 99 (q3 T e p) = true by unfold tSN; rw [b4, d4]; rfl)
                    have F4 := RP_tr P4 E4
                    have R4 := RF_tr R3 F4.1
                    have H4 := F4.2.2.trans H3
                    have S4 := RS_fr S3 F4.1
                    have W4 := tSQ_rng (T := T) (e := e) (l := nm 10) (p := q3 T e p) (by omega)
                    have t4 : q4 T e p = tSQ T e (nm 10) (q3 T e p) := rfl
                    have x4 : u4 T e p = tSV T e (nm 10) (q3 T e p) := rfl
                    have N4 := tSN_rng (T := T) (p := q3 T e p) (by omega) a4
                    refine r_ifneT 153 0 dX5_readItem_148 (by decide) (by decide) (by decide) ?_
                    refine r_aloadN 154 dX5_readItem_153 rfl rfl ?_
                    refine r_getq 157 dX5_readItem_154 rfl fX5_37 (by decide) (sh_30 z _) rfl ?_
                    refine r_iloadN 158 dX5_readItem_157 rfl rfl ?_
                    refine r_iloadN 159 dX5_readItem_158 rfl rfl ?_
                    refine r_iload 161 dX5_readItem_159 rfl rfl ?_
                    refine r_iload 163 dX5_readItem_161 rfl rfl ?_
                    refine r_iload 165 dX5_readItem_163 rfl rfl ?_
                    refine r_ifeqF 168 dX5_readItem_165 rfl 175 (by decide) (by decide) (by decide) ?_
                    refine r_aloadN 169 dX5_readItem_168 rfl rfl ?_
                    refine r_geti 172 dX5_readItem_169 rfl fX5_22 (by decide) (sh_30 z _) rfl ?_
                    rw [show m4 30 0 3 = u4 T e p from V4]
                    refine r_goto 176 dX5_readItem_172 (by decide) ?_
                    refine r_cv5 179 dX5_readItem_176 rfl gX5_141 rfl (ct_14 (by omega)) (sh_14 z _) rfl rfl (Nat.le_of_ble_eq_true rfl) (Nat.le_of_ble_eq_true rfl) rfl ?_
                    refine x_padd (m := l.length) (PI_fr hP R4).1 hl hov1 ?_
                    refine r_iconst 180 dX5_readItem_179 rfl ?_
                    first
                      | (refine r_zret dX5_readItem_180 rfl (by decide) (k1 _ (by unfold iOk; rw [if_pos a0, if_pos a1, if_pos a2, if_pos a3, if_pos aA]; exact a4) (RQ_tr (RF_RQ R4) uIt_RQ) ?_ ?_ ?_)
                         · unfold iQ; rw [if_pos aA]; exact E4.2.1
                         · exact H4
                         · have hx : iX T e p = (ov, u1 T e p, u2 T e p, u3 T e p, u4 T e p) := by unfold iX; rw [if_pos aA, hov]
                           rw [hx]
                           exact PI_app (PI_fr hP R4))
                      | (refine r_zret dX5_readItem_180 rfl (by decide) (k1 _ (by unfold iOk; rw [if_pos a0, if_pos a1, if_pos a2, if_pos a3, if_neg (bne aA)]) (RQ_tr (RF_RQ R3) uIt_RQ) ?_ ?_ ?_)
                         · unfold iQ; rw [if_neg (bne aA)]; exact E3.2.1
                         · exact H3
                         · have hx : iX T e p = (ov, u1 T e p, u2 T e p, u3 T e p, 0) := by unfold iX; rw [if_neg (bne aA), hov]
                           rw [hx]
                           exact PI_app (PI_fr hP R3))
                  · refine r_ifneF 151 dX5_readItem_148 rfl 153 (by decide) (by decide) (by decide) ?_
                    refine r_iconst 152 dX5_readItem_151 rfl ?_
                    first
                      | (have A : tSN T e (nm 10) 1 99 (q3 T e p) = false := by unfold tSN; rw [b4]; rfl
                         exact r_zret dX5_readItem_152 rfl (by decide) (k0 _ (by unfold iOk; rw [if_pos a0, if_pos a1, if_pos a2, if_pos a3, if_pos aA]; exact A) (RF_RQ (RF_tr R3 B4.1)) (by unfold iF; rw [if_pos a0, if_pos a1, if_pos a2, if_pos a3]; exact B4.2)))
                      | (have A : tSN T e (nm 10) 1 99 (q3 T e p) = false := by unfold tSN; rw [b4, d4]; rfl
                         exact r_zret dX5_readItem_152 rfl (by decide) (k0 _ (by unfold iOk; rw [if_pos a0, if_pos a1, if_pos a2, if_pos a3, if_pos aA]; exact A) (RF_RQ (RF_tr R3 (RF_tr P4.1 D4.1))) (by unfold iF; rw [if_pos a0, if_pos a1, if_pos a2, if_pos a3]; exact D4.2)))
                · refine r_ifeqT 151 0 dX5_readItem_138 (by decide) (by decide) (by decide) ?_
                  refine r_iconst 152 dX5_readItem_151 rfl ?_
                  first
                    | (have A : tSN T e (nm 10) 1 99 (q3 T e p) = false := by unfold tSN; rw [b4]; rfl
                       exact r_zret dX5_readItem_152 rfl (by decide) (k0 _ (by unfold iOk; rw [if_pos a0, if_pos a1, if_pos a2, if_pos a3, if_pos aA]; exact A) (RF_RQ (RF_tr R3 B4.1)) (by unfold iF; rw [if_pos a0, if_pos a1, if_pos a2, if_pos a3]; exact B4.2)))
                    | (have A : tSN T e (nm 10) 1 99 (q3 T e p) = false := by unfold tSN; rw [b4, d4]; rfl
                       exact r_zret dX5_readItem_152 rfl (by decide) (k0 _ (by unfold iOk; rw [if_pos a0, if_pos a1, if_pos a2, if_pos a3, if_pos aA]; exact A) (RF_RQ (RF_tr R3 (RF_tr P4.1 D4.1))) (by unfold iF; rw [if_pos a0, if_pos a1, if_pos a2, if_pos a3]; exact D4.2)))
              · refine r_istore6 127 dX5_readItem_125 rfl rfl (by decide) ?_
                have aA : iA T e p = false := decide_eq_false y122
                refine r_iload 129 dX5_readItem_127 rfl rfl ?_
                refine r_ifeqT 153 0 dX5_readItem_129 (by decide) (by decide) (by decide) ?_
                refine r_aloadN 154 dX5_readItem_153 rfl rfl ?_
                refine r_getq 157 dX5_readItem_154 rfl fX5_37 (by decide) (sh_30 z _) rfl ?_
                refine r_iloadN 158 dX5_readItem_157 rfl rfl ?_
                refine r_iloadN 159 dX5_readItem_158 rfl rfl ?_
                refine r_iload 161 dX5_readItem_159 rfl rfl ?_
                refine r_iload 163 dX5_readItem_161 rfl rfl ?_
                refine r_iload 165 dX5_readItem_163 rfl rfl ?_
                refine r_ifeqT 175 0 dX5_readItem_165 (by decide) (by decide) (by decide) ?_
                refine r_iconst 176 dX5_readItem_175 rfl ?_
                refine r_cv5 179 dX5_readItem_176 rfl gX5_141 rfl (ct_14 (by omega)) (sh_14 z _) rfl rfl (Nat.le_of_ble_eq_true rfl) (Nat.le_of_ble_eq_true rfl) rfl ?_
                refine x_padd (m := l.length) (PI_fr hP R3).1 hl hov1 ?_
                refine r_iconst 180 dX5_readItem_179 rfl ?_
                first
                  | (refine r_zret dX5_readItem_180 rfl (by decide) (k1 _ (by unfold iOk; rw [if_pos a0, if_pos a1, if_pos a2, if_pos a3, if_pos aA]; exact a4) (RQ_tr (RF_RQ R4) uIt_RQ) ?_ ?_ ?_)
                     · unfold iQ; rw [if_pos aA]; exact E4.2.1
                     · exact H4
                     · have hx : iX T e p = (ov, u1 T e p, u2 T e p, u3 T e p, u4 T e p) := by unfold iX; rw [if_pos aA, hov]
                       rw [hx]
                       exact PI_app (PI_fr hP R4))
                  | (refine r_zret dX5_readItem_180 rfl (by decide) (k1 _ (by unfold iOk; rw [if_pos a0, if_pos a1, if_pos a2, if_pos a3, if_neg (bne aA)]) (RQ_tr (RF_RQ R3) uIt_RQ) ?_ ?_ ?_)
                     · unfold iQ; rw [if_neg (bne aA)]; exact E3.2.1
                     · exact H3
                     · have hx : iX T e p = (ov, u1 T e p, u2 T e p, u3 T e p, 0) := by unfold iX; rw [if_neg (bne aA), hov]
                       rw [hx]
                       exact PI_app (PI_fr hP R3))
            · refine r_ifneF 111 dX5_readItem_108 rfl 113 (by decide) (by decide) (by decide) ?_
              refine r_iconst 112 dX5_readItem_111 rfl ?_
              first
                | (have A : tSN T e (nm 9) (u2 T e p) 239 (q2 T e p) = false := by unfold tSN; rw [b3]; rfl
                   exact r_zret dX5_readItem_112 rfl (by decide) (k0 _ (by unfold iOk; rw [if_pos a0, if_pos a1, if_pos a2, if_neg (bne A)]) (RF_RQ (RF_tr R2 B3.1)) (by unfold iF; rw [if_pos a0, if_pos a1, if_pos a2, if_neg (bne A)]; exact B3.2)))
                | (have A : tSN T e (nm 9) (u2 T e p) 239 (q2 T e p) = false := by unfold tSN; rw [b3, d3]; rfl
                   exact r_zret dX5_readItem_112 rfl (by decide) (k0 _ (by unfold iOk; rw [if_pos a0, if_pos a1, if_pos a2, if_neg (bne A)]) (RF_RQ (RF_tr R2 (RF_tr P3.1 D3.1))) (by unfold iF; rw [if_pos a0, if_pos a1, if_pos a2, if_neg (bne A)]; exact D3.2)))
          · refine r_ifeqT 111 0 dX5_readItem_96 (by decide) (by decide) (by decide) ?_
            refine r_iconst 112 dX5_readItem_111 rfl ?_
            first
              | (have A : tSN T e (nm 9) (u2 T e p) 239 (q2 T e p) = false := by unfold tSN; rw [b3]; rfl
                 exact r_zret dX5_readItem_112 rfl (by decide) (k0 _ (by unfold iOk; rw [if_pos a0, if_pos a1, if_pos a2, if_neg (bne A)]) (RF_RQ (RF_tr R2 B3.1)) (by unfold iF; rw [if_pos a0, if_pos a1, if_pos a2, if_neg (bne A)]; exact B3.2)))
              | (have A : tSN T e (nm 9) (u2 T e p) 239 (q2 T e p) = false := by unfold tSN; rw [b3, d3]; rfl
                 exact r_zret dX5_readItem_112 rfl (by decide) (k0 _ (by unfold iOk; rw [if_pos a0, if_pos a1, if_pos a2, if_neg (bne A)]) (RF_RQ (RF_tr R2 (RF_tr P3.1 D3.1))) (by unfold iF; rw [if_pos a0, if_pos a1, if_pos a2, if_neg (bne A)]; exact D3.2)))
        · refine r_ifneF 82 dX5_readItem_79 rfl 84 (by decide) (by decide) (by decide) ?_
          refine r_iconst 83 dX5_readItem_82 rfl ?_
          first
            | (have A : tSN T e (nm 8) 0 239 (q1 T e p) = false := by unfold tSN; rw [b2]; rfl
               exact r_zret dX5_readItem_83 rfl (by decide) (k0 _ (by unfold iOk; rw [if_pos a0, if_pos a1, if_neg (bne A)]) (RF_RQ (RF_tr R1 B2.1)) (by unfold iF; rw [if_pos a0, if_pos a1, if_neg (bne A)]; exact B2.2)))
            | (have A : tSN T e (nm 8) 0 239 (q1 T e p) = false := by unfold tSN; rw [b2, d2]; rfl
               exact r_zret dX5_readItem_83 rfl (by decide) (k0 _ (by unfold iOk; rw [if_pos a0, if_pos a1, if_neg (bne A)]) (RF_RQ (RF_tr R1 (RF_tr P2.1 D2.1))) (by unfold iF; rw [if_pos a0, if_pos a1, if_neg (bne A)]; exact D2.2)))
      · refine r_ifeqT 82 0 dX5_readItem_68 (by decide) (by decide) (by decide) ?_
        refine r_iconst 83 dX5_readItem_82 rfl ?_
        first
          | (have A : tSN T e (nm 8) 0 239 (q1 T e p) = false := by unfold tSN; rw [b2]; rfl
             exact r_zret dX5_readItem_83 rfl (by decide) (k0 _ (by unfold iOk; rw [if_pos a0, if_pos a1, if_neg (bne A)]) (RF_RQ (RF_tr R1 B2.1)) (by unfold iF; rw [if_pos a0, if_pos a1, if_neg (bne A)]; exact B2.2)))
          | (have A : tSN T e (nm 8) 0 239 (q1 T e p) = false := by unfold tSN; rw [b2, d2]; rfl
             exact r_zret dX5_readItem_83 rfl (by decide) (k0 _ (by unfold iOk; rw [if_pos a0, if_pos a1, if_neg (bne A)]) (RF_RQ (RF_tr R1 (RF_tr P2.1 D2.1))) (by unfold iF; rw [if_pos a0, if_pos a1, if_neg (bne A)]; exact D2.2)))
    · refine r_ifneF 55 dX5_readItem_52 rfl 57 (by decide) (by decide) (by decide) ?_
      refine r_iconst 56 dX5_readItem_55 rfl ?_
      first
        | (have A : tSN T e (iW T e p) 0 (n - 1) (p + 1) = false := by unfold tSN; rw [b1]; rfl
           exact r_zret dX5_readItem_56 rfl (by decide) (k0 _ (by unfold iOk; rw [if_pos a0, if_neg (bne A)]) (RF_RQ (RF_tr R0 B1.1)) (by unfold iF; rw [if_pos a0, if_neg (bne A)]; exact B1.2)))
        | (have A : tSN T e (iW T e p) 0 (n - 1) (p + 1) = false := by unfold tSN; rw [b1, d1]; rfl
           exact r_zret dX5_readItem_56 rfl (by decide) (k0 _ (by unfold iOk; rw [if_pos a0, if_neg (bne A)]) (RF_RQ (RF_tr R0 (RF_tr P1.1 D1.1))) (by unfold iF; rw [if_pos a0, if_neg (bne A)]; exact D1.2)))
  · rw [hn] at b1 B1
    refine r_ifeqT 55 0 dX5_readItem_41 (by decide) (by decide) (by decide) ?_
    refine r_iconst 56 dX5_readItem_55 rfl ?_
    first
      | (have A : tSN T e (iW T e p) 0 (n - 1) (p + 1) = false := by unfold tSN; rw [b1]; rfl
         exact r_zret dX5_readItem_56 rfl (by decide) (k0 _ (by unfold iOk; rw [if_pos a0, if_neg (bne A)]) (RF_RQ (RF_tr R0 B1.1)) (by unfold iF; rw [if_pos a0, if_neg (bne A)]; exact B1.2)))
      | (have A : tSN T e (iW T e p) 0 (n - 1) (p + 1) = false := by unfold tSN; rw [b1, d1]; rfl
         exact r_zret dX5_readItem_56 rfl (by decide) (k0 _ (by unfold iOk; rw [if_pos a0, if_neg (bne A)]) (RF_RQ (RF_tr R0 (RF_tr P1.1 D1.1))) (by unfold iF; rw [if_pos a0, if_neg (bne A)]; exact D1.2)))
theorem x_readItem {z : xZ} {d : Nat} {Q : tQ} {c : tC} {L : tL} {e p : Nat} {T : Nat → Int} {n : Int} {l : List tI} (hz : zF z) (hnn : 0 ≤ n ∧ n ≤ 14) (hs : RS c e T) (ha : c 30 0 2 = (p : Int)) (hp : p ≤ e) (hP : PI c l) (hl : l.length < 8) (k1 : ∀ c2, iOk T e n p = true → RQ c c2 → c2 30 0 2 = ((iQ T e p : Nat) : Int) → c2 30 0 4 = c 30 0 4 → PI c2 (l ++ [iX T e p]) → Q (some (.int (iI 1))) c2 L) (k0 : ∀ c2, iOk T e n p = false → RQ c c2 → c2 30 0 4 = ((iF T e n p : Nat) : Int) → Q (some (.int (iI 0))) c2 L) : En z (d + 6) MX5_readItem Q 0 [some (.ref (xad z 30 0)), some (.int (iI n)), none, none, none, none, none] [] c L := by
  refine r_aloadN 1 dX5_readItem_0 rfl rfl ?_
  refine r_bipush 3 dX5_readItem_1 rfl (by decide) ?_
  refine r_cv1 6 dX5_readItem_3 rfl gX5_88 rfl (by decide) (sh_30 z _) rfl rfl (Nat.le_of_ble_eq_true rfl) (Nat.le_of_ble_eq_true rfl) rfl ?_
  refine x_take hs ha hp (by decide) (fun y3 => ?_) (fun y3 => ?_)
  · refine r_ifneT 11 0 dX5_readItem_6 (by decide) (by decide) (by decide) ?_
    refine r_aloadN 12 dX5_readItem_11 rfl rfl ?_
    refine r_bipush 14 dX5_readItem_12 rfl (by decide) ?_
    refine r_cv1 17 dX5_readItem_14 rfl gX5_75 rfl (by decide) (sh_30 z _) rfl rfl (Nat.le_of_ble_eq_true rfl) (Nat.le_of_ble_eq_true rfl) rfl ?_
    refine x_isNext (p := p + 1) (RS_fr hs (RF_cu (by omega))) rfl (by omega) (by decide) (fun y14 => ?_) (fun y14 => ?_)
    · refine r_ifneT 24 0 dX5_readItem_17 (by decide) (by decide) (by decide) ?_
      refine r_iconst 25 dX5_readItem_24 rfl ?_
      refine r_istore2 26 dX5_readItem_25 rfl rfl (by decide) ?_
      refine r_aloadN 27 dX5_readItem_26 rfl rfl ?_
      refine r_iloadN 28 dX5_readItem_27 rfl rfl ?_
      refine r_ifeqT 36 0 dX5_readItem_28 (by decide) (by decide) (by decide) ?_
      refine r_ldcs 38 dX5_readItem_36 rfl (kX5_133 z) ?_
      exact x_item38 (w := 7) (p := p) (ov := 0) hz (by omega) (by unfold iW; rw [if_pos (show iOn T e p = true from decide_eq_true y14)]) (by rw [if_pos (show iOn T e p = true from decide_eq_true y14)]) hnn (decide_eq_true y3) (RS_fr hs (RF_cu (by omega))) (RF_cu (by omega)) rfl rfl (by omega) hP hl k1 k0
    · refine r_ifneF 20 dX5_readItem_17 rfl 24 (by decide) (by decide) (by decide) ?_
      refine r_iconst 21 dX5_readItem_20 rfl ?_
      refine r_goto 25 dX5_readItem_21 (by decide) ?_
      refine r_istore2 26 dX5_readItem_25 rfl rfl (by decide) ?_
      refine r_aloadN 27 dX5_readItem_26 rfl rfl ?_
      refine r_iloadN 28 dX5_readItem_27 rfl rfl ?_
      refine r_ifeqF 31 dX5_readItem_28 rfl 36 (by decide) (by decide) (by decide) ?_
      refine r_ldcs 33 dX5_readItem_31 rfl (kX5_131 z) ?_
      refine r_goto 38 dX5_readItem_33 (by decide) ?_
      exact x_item38 (w := 6) (p := p) (ov := 1) hz (by omega) (by unfold iW; rw [if_neg (bne (show iOn T e p = false from decide_eq_false y14))]) (by rw [if_neg (bne (show iOn T e p = false from decide_eq_false y14))]) hnn (decide_eq_true y3) (RS_fr hs (RF_cu (by omega))) (RF_cu (by omega)) rfl rfl (by omega) hP hl k1 k0
  · refine r_ifneF 9 dX5_readItem_6 rfl 11 (by decide) (by decide) (by decide) ?_
    refine r_iconst 10 dX5_readItem_9 rfl ?_
    have a0 : iO T e p = false := decide_eq_false y3
    exact r_zret dX5_readItem_10 rfl (by decide) (k0 _ (by unfold iOk; rw [if_neg (bne a0)]) (RF_RQ (RF_cu (by omega))) (by unfold iF; rw [if_neg (bne a0)]; rfl))
