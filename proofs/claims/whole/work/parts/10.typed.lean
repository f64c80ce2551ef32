/-! ===== THE TYPED MEMORY: kinds g and places i; c: ints, L: longs; what refers stays ===== -/
abbrev tC : Type := Nat → Nat → Nat → Int
abbrev tL : Type := Nat → Nat → Nat → Int64
/-- object (class, fields: an int, or a cell), ints, longs, cells (array class, how many, which) -/
abbrev tSh : Type := (Nat × List (Option Nat)) ⊕ (Nat ⊕ (Nat ⊕ (Nat × Nat × (Nat → Nat))))
def tcn : List Nat := [1, 1, 8, 8, 0, 1, 1, 1, 2, 2, 2, 2, 24, 28, 17, 0, 2, 2, 2, 2, 2, 2, 2, 2, 2, 2, 2, 2, 0, 0, 1, 1, 1, 1, 1, 1, 0, 0, 0, 0, 0, 17, 17, 17, 17, 17, 0, 0, 0, 0, 1, 77, 77]
def tcnt (g : Nat) : Nat := tcn.getD g 0
def tml : List Nat := [0, 0, 0, 0, 0, 0, 0, 0, 0, 0, 8, 6, 64, 10, 12, 12, 12, 12, 12, 14, 14, 14, 14, 14, 14, 14, 14, 60, 60, 60, 60, 60, 20, 20, 20, 30, 30, 30, 8, 64, 64, 64, 64, 64, 8, 8, 8, 8, 0, 0, 0, 0, 0, 0, 0, 0, 0, 60, 60, 8, 8, 8, 8, 8, 12, 20, 0, 0, 0, 0, 0, 0, 0, 0, 0, 0, 1100]
def tll : List Nat := [0, 0, 0, 0, 0, 0, 0, 0, 0, 0, 0, 0, 0, 0, 0, 0, 0, 0, 0, 0, 0, 0, 0, 0, 0, 0, 0, 0, 0, 0, 0, 0, 0, 0, 0, 0, 0, 0, 0, 0, 0, 0, 0, 0, 0, 0, 0, 0, 480, 60, 0, 0, 0, 0, 0, 0, 0, 0, 0, 0, 0, 0, 0, 0, 0, 0, 0, 0, 0, 0, 0, 0, 0, 0, 0, 0, 0]
/-- the cells that are: of the model's arrays only those that have a length -/
def tok (g i : Nat) : Prop := i < tcnt g ∧ (g = 51 → tml.getD i 0 ≠ 0) ∧ (g = 52 → tll.getD i 0 ≠ 0)
def tInj (ad : Nat → Nat → Nat) : Prop := ∀ g i g2 i2, tok g i → tok g2 i2 → ad g i = ad g2 i2 → g = g2 ∧ i = i2
theorem tcnt_le (g : Nat) : tcnt g ≤ 100 := by
  unfold tcnt
  by_cases h : g < tcn.length
  · have : ∀ x ∈ tcn, x ≤ 100 := by decide
    rw [List.getD_eq_getElem?_getD, List.getElem?_eq_getElem h]
    exact this _ (List.getElem_mem h)
  · rw [List.getD_eq_getElem?_getD, List.getElem?_eq_none (by omega)]
    exact Nat.zero_le _
noncomputable def xad (z : xZ) (g i : Nat) : Nat := @ite Nat (tInj z.2.2.2.2.2) (Classical.propDecidable _) (z.2.2.2.2.2 g i) (g * 1000 + i)
theorem xad_inj (z : xZ) : tInj (xad z) := by
  intro g i g2 i2 h1 h2 h
  unfold xad at h
  by_cases hz : tInj z.2.2.2.2.2
  · rw [if_pos hz, if_pos hz] at h
    exact hz g i g2 i2 h1 h2 h
  · rw [if_neg hz, if_neg hz] at h
    have := tcnt_le g
    have := tcnt_le g2
    have := h1.1
    have := h2.1
    omega
theorem xad_eq {z : xZ} (h : tInj z.2.2.2.2.2) : xad z = z.2.2.2.2.2 := by
  funext g i
  unfold xad
  rw [if_pos h]

noncomputable def tsl (z : xZ) : List (Nat → tSh) := [fun _ => .inl (10, [some (xad z 1 0), some (xad z 5 0), some (xad z 8 0), some (xad z 8 1), some (xad z 30 0), some (xad z 33 0), some (xad z 35 0), none]),
  fun _ => .inr (.inr (.inr (2, 8, fun j => xad z 2 j))),
  fun i => .inl (7, [none, none, some (xad z 3 i)]),
  fun _ => .inr (.inr (.inl 60)),
  fun _ => .inr (.inl 0),
  fun _ => .inl (6, [some (xad z 8 0), some (xad z 6 0), some (xad z 7 0), none, none, none, none, none]),
  fun _ => .inr (.inr (.inl 14)),
  fun _ => .inr (.inl 12),
  fun i => .inl (9, [none, none, none, none, none, none, some (xad z 9 i), some (xad z 10 i), some (xad z 11 i), some (xad z 16 i), some (xad z 21 i), some (xad z 25 i), some (xad z 26 i), some (xad z 27 i)]),
  fun i => .inr (.inr (.inr (3, 12, if i = 0 then fun j => xad z 12 j else fun j => xad z 12 (12 + j)))),
  fun i => .inr (.inr (.inr (4, 14, if i = 0 then fun j => xad z 13 j else fun j => xad z 13 (14 + j)))),
  fun i => .inr (.inr (.inr (5, 8, if i = 0 then fun j => xad z 14 j else fun j => xad z 14 (8 + j)))),
  fun _ => .inl (3, [none, none, none, none, none]),
  fun _ => .inl (8, [none, none, none, none, none, none, none, none]),
  fun i => .inl (4, [none, some (xad z 41 i), some (xad z 42 i), some (xad z 43 i), some (xad z 44 i), some (xad z 45 i)]),
  fun _ => .inr (.inl 0),
  fun i => .inl (1, [none, none, none, some (xad z 17 i), some (xad z 18 i), some (xad z 19 i), some (xad z 20 i)]),
  fun _ => .inr (.inl 80),
  fun _ => .inr (.inl 80),
  fun _ => .inr (.inl 80),
  fun _ => .inr (.inl 80),
  fun i => .inl (2, [none, some (xad z 22 i), some (xad z 23 i), some (xad z 24 i)]),
  fun _ => .inr (.inl 30),
  fun _ => .inr (.inl 30),
  fun _ => .inr (.inl 30),
  fun _ => .inr (.inl 64),
  fun _ => .inr (.inl 10),
  fun _ => .inr (.inl 6),
  fun _ => .inr (.inl 0),
  fun _ => .inr (.inl 0),
  fun _ => .inl (5, [some (xad z 31 0), none, none, none, none, none, some (xad z 32 0), some (xad z 14 16)]),
  fun _ => .inr (.inl 60),
  fun _ => .inr (.inl 6),
  fun _ => .inl (0, [some (xad z 34 0), none, none, none, none]),
  fun _ => .inr (.inl 20),
  fun _ => .inr (.inl 8),
  fun _ => .inr (.inl 0),
  fun _ => .inr (.inl 0),
  fun _ => .inr (.inl 0),
  fun _ => .inr (.inl 0),
  fun _ => .inr (.inl 0),
  fun _ => .inr (.inl 8),
  fun _ => .inr (.inl 8),
  fun _ => .inr (.inl 8),
  fun _ => .inr (.inl 8),
  fun _ => .inr (.inl 8),
  fun _ => .inr (.inl 0),
  fun _ => .inr (.inl 0),
  fun _ => .inr (.inl 0),
  fun _ => .inr (.inl 0),
  fun _ => .inl (11, [none, none, none, none, none, none, none, none, none, none, some (xad z 51 10), some (xad z 51 11), some (xad z 51 12), some (xad z 51 13), some (xad z 51 14), some (xad z 51 15), some (xad z 51 16), some (xad z 51 17), some (xad z 51 18), some (xad z 51 19), some (xad z 51 20), some (xad z 51 21), some (xad z 51 22), some (xad z 51 23), some (xad z 51 24), some (xad z 51 25), some (xad z 51 26), some (xad z 51 27), some (xad z 51 28), some (xad z 51 29), some (xad z 51 30), some (xad z 51 31), some (xad z 51 32), some (xad z 51 33), some (xad z 51 34), some (xad z 51 35), some (xad z 51 36), some (xad z 51 37), some (xad z 51 38), some (xad z 51 39), some (xad z 51 40), some (xad z 51 41), some (xad z 51 42), some (xad z 51 43), some (xad z 51 44), some (xad z 51 45), some (xad z 51 46), some (xad z 51 47), some (xad z 52 48), some (xad z 52 49), none, none, none, none, none, none, none, some (xad z 51 57), some (xad z 51 58), some (xad z 51 59), some (xad z 51 60), some (xad z 51 61), some (xad z 51 62), some (xad z 51 63), some (xad z 51 64), some (xad z 51 65), none, none, none, none, none, none, none, none, none, none, some (xad z 51 76)]),
  fun i => .inr (.inl (tml.getD i 0)),
  fun i => .inr (.inr (.inl (tll.getD i 0)))]
noncomputable def tsh (z : xZ) (g i : Nat) : tSh := ((tsl z).getD g (fun _ => .inr (.inl 0))) i
def tfl (s : Nat → Int) : Nat → List (Option Nat) → List Value
  | _, [] => []
  | j, none :: r => .int (iI (s j)) :: tfl s (j + 1) r
  | j, some a :: r => .ref a :: tfl s (j + 1) r
def tmk (z : xZ) (sh : tSh) (s : Nat → Int) (l : Nat → Int64) : va_E := match sh with
  | .inl q => .inr (q.1, tfl s 0 q.2)
  | .inr (.inl n) => .inl (z.1 0, n, .inl (fun j => iI (s j)))
  | .inr (.inr (.inl n)) => .inl (z.1 1, n, .inr (.inl l))
  | .inr (.inr (.inr q)) => .inl (z.1 q.1, q.2.1, .inr (.inr (.inr (.inr (fun j => some (q.2.2 j))))))
theorem tokO {z : xZ} {g i : Nat} {q : Nat × List (Option Nat)} (h : i < tcnt g) (hs : tsh z g i = .inl q) : tok g i := ⟨h, fun e => by
  subst e
  exact absurd (show (Sum.inr (Sum.inl (tml.getD i 0)) : tSh) = .inl q from hs) (by simp), fun e => by
  subst e
  exact absurd (show (Sum.inr (Sum.inr (Sum.inl (tll.getD i 0))) : tSh) = .inl q from hs) (by simp)⟩
theorem tokI {z : xZ} {g i n : Nat} (h : i < tcnt g) (hs : tsh z g i = .inr (.inl n)) (hn : n ≠ 0) : tok g i := ⟨h, fun e => by
  subst e
  have q := show (Sum.inr (Sum.inl (tml.getD i 0)) : tSh) = .inr (.inl n) from hs
  rw [Sum.inl.inj (Sum.inr.inj q)]
  exact hn, fun e => by
  subst e
  exact absurd (show (Sum.inr (Sum.inr (Sum.inl (tll.getD i 0))) : tSh) = .inr (.inl n) from hs) (by simp)⟩
theorem tokL {z : xZ} {g i n : Nat} (h : i < tcnt g) (hs : tsh z g i = .inr (.inr (.inl n))) (hn : n ≠ 0) : tok g i := ⟨h, fun e => by
  subst e
  exact absurd (show (Sum.inr (Sum.inl (tml.getD i 0)) : tSh) = .inr (.inr (.inl n)) from hs) (by simp), fun e => by
  subst e
  have q := show (Sum.inr (Sum.inr (Sum.inl (tll.getD i 0))) : tSh) = .inr (.inr (.inl n)) from hs
  rw [Sum.inl.inj (Sum.inr.inj (Sum.inr.inj q))]
  exact hn⟩
theorem tokR {z : xZ} {g i : Nat} {q : Nat × Nat × (Nat → Nat)} (h : i < tcnt g) (hs : tsh z g i = .inr (.inr (.inr q))) : tok g i := ⟨h, fun e => by
  subst e
  exact absurd (show (Sum.inr (Sum.inl (tml.getD i 0)) : tSh) = .inr (.inr (.inr q)) from hs) (by simp), fun e => by
  subst e
  exact absurd (show (Sum.inr (Sum.inr (Sum.inl (tll.getD i 0))) : tSh) = .inr (.inr (.inr q)) from hs) (by simp)⟩
noncomputable def tm (z : xZ) (c : tC) (L : tL) : xMem := fun a => @dite (Option va_E) (∃ q : Nat × Nat, tok q.1 q.2 ∧ xad z q.1 q.2 = a) (Classical.propDecidable _) (fun h => some (tmk z (tsh z h.choose.1 h.choose.2) (c h.choose.1 h.choose.2) (L h.choose.1 h.choose.2))) (fun _ => none)
theorem tm_at {z : xZ} {c : tC} {L : tL} {g i : Nat} (h : tok g i) : tm z c L (xad z g i) = some (tmk z (tsh z g i) (c g i) (L g i)) := by
  have hz : ∃ q : Nat × Nat, tok q.1 q.2 ∧ xad z q.1 q.2 = xad z g i := ⟨(g, i), h, rfl⟩
  obtain ⟨e1, e2⟩ := xad_inj z _ _ _ _ hz.choose_spec.1 h hz.choose_spec.2
  unfold tm
  rw [dif_pos hz, e1, e2]
theorem tm_none {z : xZ} {c : tC} {L : tL} {a : Nat} (h : ∀ g i, tok g i → xad z g i ≠ a) : tm z c L a = none := by
  unfold tm
  rw [dif_neg]
  rintro ⟨q, h1, h2⟩
  exact h _ _ h1 h2
def cset (c : tC) (g i : Nat) (f : Nat → Int) : tC := fun g2 i2 => if g2 = g ∧ i2 = i then f else c g2 i2
def Lset (L : tL) (g i : Nat) (f : Nat → Int64) : tL := fun g2 i2 => if g2 = g ∧ i2 = i then f else L g2 i2
def cu (c : tC) (g i j : Nat) (v : Int) : tC := fun g2 i2 j2 => if g2 = g ∧ i2 = i ∧ j2 = j then v else c g2 i2 j2
def Lu (L : tL) (g i j : Nat) (v : Int64) : tL := fun g2 i2 j2 => if g2 = g ∧ i2 = i ∧ j2 = j then v else L g2 i2 j2
theorem cu_set (c : tC) (g i j : Nat) (v : Int) : cu c g i j v = cset c g i (fun j2 => if j2 = j then v else c g i j2) := by
  funext g2 i2 j2
  unfold cu cset
  by_cases h : g2 = g ∧ i2 = i
  · obtain ⟨rfl, rfl⟩ := h
    by_cases h3 : j2 = j <;> simp [h3]
  · rw [if_neg h, if_neg (fun z => h ⟨z.1, z.2.1⟩)]
theorem Lu_set (L : tL) (g i j : Nat) (v : Int64) : Lu L g i j v = Lset L g i (fun j2 => if j2 = j then v else L g i j2) := by
  funext g2 i2 j2
  unfold Lu Lset
  by_cases h : g2 = g ∧ i2 = i
  · obtain ⟨rfl, rfl⟩ := h
    by_cases h3 : j2 = j <;> simp [h3]
  · rw [if_neg h, if_neg (fun z => h ⟨z.1, z.2.1⟩)]
theorem tm_up {z : xZ} {c : tC} {L : tL} {g i : Nat} (h : tok g i) (s : Nat → Int) (l : Nat → Int64) : xup (tm z c L) (xad z g i) (tmk z (tsh z g i) s l) = tm z (cset c g i s) (Lset L g i l) := by
  funext a
  by_cases ha : ∃ q : Nat × Nat, tok q.1 q.2 ∧ xad z q.1 q.2 = a
  · obtain ⟨⟨g2, i2⟩, h2, rfl⟩ := ha
    by_cases he : xad z g2 i2 = xad z g i
    · obtain ⟨e1, e2⟩ := xad_inj z _ _ _ _ h2 h he
      dsimp only at e1 e2
      subst e1 e2
      rw [xup_self, tm_at h, cset, Lset, if_pos ⟨rfl, rfl⟩, if_pos ⟨rfl, rfl⟩]
    · have hne : ¬ (g2 = g ∧ i2 = i) := fun q => he (by rw [q.1, q.2])
      rw [xup_ne _ _ he, tm_at h2, tm_at h2, cset, Lset, if_neg hne, if_neg hne]
  · have e : ∀ (c : tC) (L : tL), tm z c L a = none := fun c L => tm_none (fun g2 i2 h2 h3 => ha ⟨(g2, i2), h2, h3⟩)
    rw [e, xup_ne, e]
    intro q
    exact ha ⟨(g, i), h, q.symm⟩
theorem Lset_id (L : tL) (g i : Nat) : Lset L g i (L g i) = L := by
  funext g2 i2
  unfold Lset
  by_cases h : g2 = g ∧ i2 = i
  · rw [if_pos h, h.1, h.2]
  · rw [if_neg h]
theorem cset_id (c : tC) (g i : Nat) : cset c g i (c g i) = c := by
  funext g2 i2
  unfold cset
  by_cases h : g2 = g ∧ i2 = i
  · rw [if_pos h, h.1, h.2]
  · rw [if_neg h]
theorem tfl_at (s : Nat → Int) : ∀ (f : List (Option Nat)) (n j : Nat), (tfl s n f)[j]? = (f[j]?).map (fun o => match o with | none => Value.int (iI (s (n + j))) | some a => .ref a) := by
  intro f
  induction f with
  | nil => intro n j; simp [tfl]
  | cons o r ih =>
    intro n j
    cases o <;> cases j with
    | zero => simp [tfl]
    | succ j => simp only [tfl, List.getElem?_cons_succ, ih]; rw [show n + 1 + j = n + (j + 1) by omega]
theorem tfl_len (s : Nat → Int) : ∀ (f : List (Option Nat)) (n : Nat), (tfl s n f).length = f.length := by
  intro f
  induction f with
  | nil => intro n; rfl
  | cons o r ih => intro n; cases o <;> simp [tfl, ih]
theorem tfl_set (s : Nat → Int) (f : List (Option Nat)) (j : Nat) (v : Int) (h : f[j]? = some none) : (tfl s 0 f).set j (.int (iI v)) = tfl (fun k => if k = j then v else s k) 0 f := by
  apply List.ext_getElem?
  intro k
  by_cases hk : k = j
  · subst hk
    have hl : k < (tfl s 0 f).length := by rw [tfl_len]; exact (List.getElem?_eq_some_iff.mp h).1
    rw [List.getElem?_set_self hl, tfl_at, h]
    simp
  · rw [List.getElem?_set_ne (Ne.symm hk), tfl_at, tfl_at]
    simp [hk]
/-! a method over the typed memory, that makes nothing -/
abbrev tQ : Type := Option Value → tC → tL → Prop
def tq (z : xZ) (Q : tQ) : xQ := fun r μ => ∃ (c : tC) (L : tL), μ = tm z c L ∧ Q r c L
def En (z : xZ) (d : Nat) (M : xMI) (Q : tQ) (pc : Nat) (lo : xLoc) (st : List Value) (c : tC) (L : tL) : Prop := Ex (Cf z) d M 0 0 (tq z Q) pc lo st (tm z c L) (0, 0)
theorem En_mono {z : xZ} {d : Nat} {M : xMI} {Q Q2 : tQ} {pc : Nat} {lo : xLoc} {st : List Value} {c : tC} {L : tL} (h : En z d M Q pc lo st c L) (hq : ∀ r c L, Q r c L → Q2 r c L) : En z d M Q2 pc lo st c L :=
  Ex_mono h (fun r μ ⟨c, L, h1, h2⟩ => ⟨c, L, h1, hq r c L h2⟩)

theorem r_iadd {z : xZ} {d : Nat} {M : xMI} {Q : tQ} {pc : Nat} {lo : xLoc} {st : List Value} {c : tC} {L : tL} {a b : Int} (q : Nat) (h0 : decode M.2.1 pc = .ok (.iadd, 1)) (hq : pc + 1 = q)  (k : En z (d + 1) M Q q lo (.int (iI (a + b)) :: st) c L) : En z (d + 1) M Q pc lo (.int (iI b) :: .int (iI a) :: st) c L := by
  subst hq
  refine e_stk h0 rfl ?_
  rw [← iI_add] at k; exact k
theorem r_isub {z : xZ} {d : Nat} {M : xMI} {Q : tQ} {pc : Nat} {lo : xLoc} {st : List Value} {c : tC} {L : tL} {a b : Int} (q : Nat) (h0 : decode M.2.1 pc = .ok (.isub, 1)) (hq : pc + 1 = q)  (k : En z (d + 1) M Q q lo (.int (iI (a - b)) :: st) c L) : En z (d + 1) M Q pc lo (.int (iI b) :: .int (iI a) :: st) c L := by
  subst hq
  refine e_stk h0 rfl ?_
  rw [← iI_sub] at k; exact k
theorem r_imul {z : xZ} {d : Nat} {M : xMI} {Q : tQ} {pc : Nat} {lo : xLoc} {st : List Value} {c : tC} {L : tL} {a b : Int} (q : Nat) (h0 : decode M.2.1 pc = .ok (.imul, 1)) (hq : pc + 1 = q)  (k : En z (d + 1) M Q q lo (.int (iI (a * b)) :: st) c L) : En z (d + 1) M Q pc lo (.int (iI b) :: .int (iI a) :: st) c L := by
  subst hq
  refine e_stk h0 rfl ?_
  rw [← iI_mul] at k; exact k
theorem r_ineg {z : xZ} {d : Nat} {M : xMI} {Q : tQ} {pc : Nat} {lo : xLoc} {st : List Value} {c : tC} {L : tL} {a : Int} (q : Nat) (h0 : decode M.2.1 pc = .ok (.ineg, 1)) (hq : pc + 1 = q)  (k : En z (d + 1) M Q q lo (.int (iI (-a)) :: st) c L) : En z (d + 1) M Q pc lo (.int (iI a) :: st) c L := by
  subst hq
  refine e_stk h0 rfl ?_
  rw [← iI_neg] at k; exact k
theorem r_iand {z : xZ} {d : Nat} {M : xMI} {Q : tQ} {pc : Nat} {lo : xLoc} {st : List Value} {c : tC} {L : tL} {a b : Int} (q : Nat) (h0 : decode M.2.1 pc = .ok (.iand, 1)) (hq : pc + 1 = q)  (k : En z (d + 1) M Q q lo (.int (iI (iand a b)) :: st) c L) : En z (d + 1) M Q pc lo (.int (iI b) :: .int (iI a) :: st) c L := by
  subst hq
  refine e_stk h0 rfl ?_
  rw [show iI (iand a b) = _ from iI_of _] at k; exact k
theorem r_ior {z : xZ} {d : Nat} {M : xMI} {Q : tQ} {pc : Nat} {lo : xLoc} {st : List Value} {c : tC} {L : tL} {a b : Int} (q : Nat) (h0 : decode M.2.1 pc = .ok (.ior, 1)) (hq : pc + 1 = q)  (k : En z (d + 1) M Q q lo (.int (iI (ior a b)) :: st) c L) : En z (d + 1) M Q pc lo (.int (iI b) :: .int (iI a) :: st) c L := by
  subst hq
  refine e_stk h0 rfl ?_
  rw [show iI (ior a b) = _ from iI_of _] at k; exact k
theorem r_ixor {z : xZ} {d : Nat} {M : xMI} {Q : tQ} {pc : Nat} {lo : xLoc} {st : List Value} {c : tC} {L : tL} {a b : Int} (q : Nat) (h0 : decode M.2.1 pc = .ok (.ixor, 1)) (hq : pc + 1 = q)  (k : En z (d + 1) M Q q lo (.int (iI (ixor a b)) :: st) c L) : En z (d + 1) M Q pc lo (.int (iI b) :: .int (iI a) :: st) c L := by
  subst hq
  refine e_stk h0 rfl ?_
  rw [show iI (ixor a b) = _ from iI_of _] at k; exact k
theorem r_ishl {z : xZ} {d : Nat} {M : xMI} {Q : tQ} {pc : Nat} {lo : xLoc} {st : List Value} {c : tC} {L : tL} {a b : Int} (q : Nat) (h0 : decode M.2.1 pc = .ok (.ishl, 1)) (hq : pc + 1 = q)  (k : En z (d + 1) M Q q lo (.int (iI (ishl a b)) :: st) c L) : En z (d + 1) M Q pc lo (.int (iI b) :: .int (iI a) :: st) c L := by
  subst hq
  refine e_stk h0 rfl ?_
  rw [show iI (ishl a b) = _ from iI_of _] at k; exact k
theorem r_ishr {z : xZ} {d : Nat} {M : xMI} {Q : tQ} {pc : Nat} {lo : xLoc} {st : List Value} {c : tC} {L : tL} {a b : Int} (q : Nat) (h0 : decode M.2.1 pc = .ok (.ishr, 1)) (hq : pc + 1 = q)  (k : En z (d + 1) M Q q lo (.int (iI (ishr a b)) :: st) c L) : En z (d + 1) M Q pc lo (.int (iI b) :: .int (iI a) :: st) c L := by
  subst hq
  refine e_stk h0 rfl ?_
  rw [show iI (ishr a b) = _ from iI_of _] at k; exact k
def iushr (a b : Int) : Int := (((iI a).toUInt32 >>> ((iI b).toUInt32 &&& Int32.toUInt32 31)).toInt32).toInt
theorem r_iushr {z : xZ} {d : Nat} {M : xMI} {Q : tQ} {pc : Nat} {lo : xLoc} {st : List Value} {c : tC} {L : tL} {a b : Int} (q : Nat) (h0 : decode M.2.1 pc = .ok (.iushr, 1)) (hq : pc + 1 = q)  (k : En z (d + 1) M Q q lo (.int (iI (iushr a b)) :: st) c L) : En z (d + 1) M Q pc lo (.int (iI b) :: .int (iI a) :: st) c L := by
  subst hq
  refine e_stk h0 rfl ?_
  rw [show iI (iushr a b) = _ from iI_of _] at k; exact k
theorem r_ladd {z : xZ} {d : Nat} {M : xMI} {Q : tQ} {pc : Nat} {lo : xLoc} {st : List Value} {c : tC} {L : tL} {a b : Int} (q : Nat) (h0 : decode M.2.1 pc = .ok (.ladd, 1)) (hq : pc + 1 = q)  (k : En z (d + 1) M Q q lo (.long (lI (a + b)) :: st) c L) : En z (d + 1) M Q pc lo (.long (lI b) :: .long (lI a) :: st) c L := by
  subst hq
  refine e_stk h0 rfl ?_
  rw [← lI_add] at k; exact k
theorem r_lmul {z : xZ} {d : Nat} {M : xMI} {Q : tQ} {pc : Nat} {lo : xLoc} {st : List Value} {c : tC} {L : tL} {a b : Int} (q : Nat) (h0 : decode M.2.1 pc = .ok (.lmul, 1)) (hq : pc + 1 = q)  (k : En z (d + 1) M Q q lo (.long (lI (a * b)) :: st) c L) : En z (d + 1) M Q pc lo (.long (lI b) :: .long (lI a) :: st) c L := by
  subst hq
  refine e_stk h0 rfl ?_
  rw [← lI_mul] at k; exact k
theorem r_land {z : xZ} {d : Nat} {M : xMI} {Q : tQ} {pc : Nat} {lo : xLoc} {st : List Value} {c : tC} {L : tL} {x y : Int64} (q : Nat) (h0 : decode M.2.1 pc = .ok (.land, 1)) (hq : pc + 1 = q)  (k : En z (d + 1) M Q q lo (.long (x &&& y) :: st) c L) : En z (d + 1) M Q pc lo (.long y :: .long x :: st) c L := by
  subst hq
  refine e_stk h0 rfl ?_
  exact k
theorem r_lor {z : xZ} {d : Nat} {M : xMI} {Q : tQ} {pc : Nat} {lo : xLoc} {st : List Value} {c : tC} {L : tL} {x y : Int64} (q : Nat) (h0 : decode M.2.1 pc = .ok (.lor, 1)) (hq : pc + 1 = q)  (k : En z (d + 1) M Q q lo (.long (x ||| y) :: st) c L) : En z (d + 1) M Q pc lo (.long y :: .long x :: st) c L := by
  subst hq
  refine e_stk h0 rfl ?_
  exact k
theorem r_lshl {z : xZ} {d : Nat} {M : xMI} {Q : tQ} {pc : Nat} {lo : xLoc} {st : List Value} {c : tC} {L : tL} {x : Int64} {y : Int32} (q : Nat) (h0 : decode M.2.1 pc = .ok (.lshl, 1)) (hq : pc + 1 = q)  (k : En z (d + 1) M Q q lo (.long (x <<< (y.toInt64 &&& 63)) :: st) c L) : En z (d + 1) M Q pc lo (.int y :: .long x :: st) c L := by
  subst hq
  refine e_stk h0 rfl ?_
  exact k
theorem r_lcmp {z : xZ} {d : Nat} {M : xMI} {Q : tQ} {pc : Nat} {lo : xLoc} {st : List Value} {c : tC} {L : tL} {a b : Int} (q : Nat) (h0 : decode M.2.1 pc = .ok (.lcmp, 1)) (hq : pc + 1 = q) (ha : inL a) (hb : inL b) (k : En z (d + 1) M Q q lo (.int (iI (cmpI a b)) :: st) c L) : En z (d + 1) M Q pc lo (.long (lI b) :: .long (lI a) :: st) c L := by
  subst hq
  refine e_stk h0 rfl ?_
  rw [← lI_cmp ha hb] at k; exact k
theorem r_lcmpR {z : xZ} {d : Nat} {M : xMI} {Q : tQ} {pc : Nat} {lo : xLoc} {st : List Value} {c : tC} {L : tL} {x y : Int64} (q : Nat) (h0 : decode M.2.1 pc = .ok (.lcmp, 1)) (hq : pc + 1 = q)  (k : En z (d + 1) M Q q lo (.int (lg_cmp x y) :: st) c L) : En z (d + 1) M Q pc lo (.long y :: .long x :: st) c L := by
  subst hq
  refine e_stk h0 rfl ?_
  exact k
theorem r_i2l {z : xZ} {d : Nat} {M : xMI} {Q : tQ} {pc : Nat} {lo : xLoc} {st : List Value} {c : tC} {L : tL} {a : Int} (q : Nat) (h0 : decode M.2.1 pc = .ok (.i2l, 1)) (hq : pc + 1 = q) (ha : inR a) (k : En z (d + 1) M Q q lo (.long (lI a) :: st) c L) : En z (d + 1) M Q pc lo (.int (iI a) :: st) c L := by
  subst hq
  refine e_stk h0 rfl ?_
  rw [← iI_l ha] at k; exact k
theorem r_i2lR {z : xZ} {d : Nat} {M : xMI} {Q : tQ} {pc : Nat} {lo : xLoc} {st : List Value} {c : tC} {L : tL} {x : Int32} (q : Nat) (h0 : decode M.2.1 pc = .ok (.i2l, 1)) (hq : pc + 1 = q)  (k : En z (d + 1) M Q q lo (.long x.toInt64 :: st) c L) : En z (d + 1) M Q pc lo (.int x :: st) c L := by
  subst hq
  refine e_stk h0 rfl ?_
  exact k
theorem r_l2i {z : xZ} {d : Nat} {M : xMI} {Q : tQ} {pc : Nat} {lo : xLoc} {st : List Value} {c : tC} {L : tL} {a : Int} (q : Nat) (h0 : decode M.2.1 pc = .ok (.l2i, 1)) (hq : pc + 1 = q)  (k : En z (d + 1) M Q q lo (.int (iI a) :: st) c L) : En z (d + 1) M Q pc lo (.long (lI a) :: st) c L := by
  subst hq
  refine e_stk h0 rfl ?_
  rw [← lI_i] at k; exact k
theorem r_l2iR {z : xZ} {d : Nat} {M : xMI} {Q : tQ} {pc : Nat} {lo : xLoc} {st : List Value} {c : tC} {L : tL} {x : Int64} (q : Nat) (h0 : decode M.2.1 pc = .ok (.l2i, 1)) (hq : pc + 1 = q)  (k : En z (d + 1) M Q q lo (.int (iI x.toInt32.toInt) :: st) c L) : En z (d + 1) M Q pc lo (.long x :: st) c L := by
  subst hq
  refine e_stk h0 rfl ?_
  rw [iI_of] at k; exact k
theorem r_l2iX {z : xZ} {d : Nat} {M : xMI} {Q : tQ} {pc : Nat} {lo : xLoc} {st : List Value} {c : tC} {L : tL} {x : Int64} (q : Nat) (h0 : decode M.2.1 pc = .ok (.l2i, 1)) (hq : pc + 1 = q)  (k : En z (d + 1) M Q q lo (.int x.toInt32 :: st) c L) : En z (d + 1) M Q pc lo (.long x :: st) c L := by
  subst hq
  refine e_stk h0 rfl ?_
  exact k
theorem r_i2b {z : xZ} {d : Nat} {M : xMI} {Q : tQ} {pc : Nat} {lo : xLoc} {st : List Value} {c : tC} {L : tL} {x : Int32} (q : Nat) (h0 : decode M.2.1 pc = .ok (.i2b, 1)) (hq : pc + 1 = q)  (k : En z (d + 1) M Q q lo (.int x.toInt8.toInt32 :: st) c L) : En z (d + 1) M Q pc lo (.int x :: st) c L := by
  subst hq
  refine e_stk h0 rfl ?_
  exact k
theorem r_i2s {z : xZ} {d : Nat} {M : xMI} {Q : tQ} {pc : Nat} {lo : xLoc} {st : List Value} {c : tC} {L : tL} {x : Int32} (q : Nat) (h0 : decode M.2.1 pc = .ok (.i2s, 1)) (hq : pc + 1 = q)  (k : En z (d + 1) M Q q lo (.int x.toInt16.toInt32 :: st) c L) : En z (d + 1) M Q pc lo (.int x :: st) c L := by
  subst hq
  refine e_stk h0 rfl ?_
  exact k
theorem r_i2c {z : xZ} {d : Nat} {M : xMI} {Q : tQ} {pc : Nat} {lo : xLoc} {st : List Value} {c : tC} {L : tL} {x : Int32} (q : Nat) (h0 : decode M.2.1 pc = .ok (.i2c, 1)) (hq : pc + 1 = q)  (k : En z (d + 1) M Q q lo (.int (x.toUInt32 % 65536).toInt32 :: st) c L) : En z (d + 1) M Q pc lo (.int x :: st) c L := by
  subst hq
  refine e_stk h0 rfl ?_
  exact k
theorem r_dupi {z : xZ} {d : Nat} {M : xMI} {Q : tQ} {pc : Nat} {lo : xLoc} {st : List Value} {c : tC} {L : tL} {x : Int32} (q : Nat) (h0 : decode M.2.1 pc = .ok (.dup, 1)) (hq : pc + 1 = q)  (k : En z (d + 1) M Q q lo (.int x :: .int x :: st) c L) : En z (d + 1) M Q pc lo (.int x :: st) c L := by
  subst hq
  refine e_stk h0 rfl ?_
  exact k
theorem r_dupr {z : xZ} {d : Nat} {M : xMI} {Q : tQ} {pc : Nat} {lo : xLoc} {st : List Value} {c : tC} {L : tL} {x : Nat} (q : Nat) (h0 : decode M.2.1 pc = .ok (.dup, 1)) (hq : pc + 1 = q)  (k : En z (d + 1) M Q q lo (.ref x :: .ref x :: st) c L) : En z (d + 1) M Q pc lo (.ref x :: st) c L := by
  subst hq
  refine e_stk h0 rfl ?_
  exact k
theorem r_popi {z : xZ} {d : Nat} {M : xMI} {Q : tQ} {pc : Nat} {lo : xLoc} {st : List Value} {c : tC} {L : tL} {x : Int32} (q : Nat) (h0 : decode M.2.1 pc = .ok (.pop, 1)) (hq : pc + 1 = q)  (k : En z (d + 1) M Q q lo st c L) : En z (d + 1) M Q pc lo (.int x :: st) c L := by
  subst hq
  refine e_stk h0 rfl ?_
  exact k
theorem r_popr {z : xZ} {d : Nat} {M : xMI} {Q : tQ} {pc : Nat} {lo : xLoc} {st : List Value} {c : tC} {L : tL} {x : Nat} (q : Nat) (h0 : decode M.2.1 pc = .ok (.pop, 1)) (hq : pc + 1 = q)  (k : En z (d + 1) M Q q lo st c L) : En z (d + 1) M Q pc lo (.ref x :: st) c L := by
  subst hq
  refine e_stk h0 rfl ?_
  exact k
theorem r_dupx1 {z : xZ} {d : Nat} {M : xMI} {Q : tQ} {pc : Nat} {lo : xLoc} {st : List Value} {c : tC} {L : tL} {x : Int32} {y : Nat} (q : Nat) (h0 : decode M.2.1 pc = .ok (.dup_x1, 1)) (hq : pc + 1 = q)  (k : En z (d + 1) M Q q lo (.int x :: .ref y :: .int x :: st) c L) : En z (d + 1) M Q pc lo (.int x :: .ref y :: st) c L := by
  subst hq
  refine e_stk h0 rfl ?_
  exact k
theorem r_dup2 {z : xZ} {d : Nat} {M : xMI} {Q : tQ} {pc : Nat} {lo : xLoc} {st : List Value} {c : tC} {L : tL} {y : Int32} {x : Nat} (q : Nat) (h0 : decode M.2.1 pc = .ok (.dup2, 1)) (hq : pc + 1 = q)  (k : En z (d + 1) M Q q lo (.int y :: .ref x :: .int y :: .ref x :: st) c L) : En z (d + 1) M Q pc lo (.int y :: .ref x :: st) c L := by
  subst hq
  refine e_stk h0 rfl ?_
  exact k
theorem r_lconst {z : xZ} {d : Nat} {M : xMI} {Q : tQ} {pc : Nat} {lo : xLoc} {st : List Value} {c : tC} {L : tL} {n : Fin 2} (q : Nat) (h0 : decode M.2.1 pc = .ok (.lconst n, 1)) (hq : pc + 1 = q)  (k : En z (d + 1) M Q q lo (.long (lI (n : Nat)) :: st) c L) : En z (d + 1) M Q pc lo st c L := by
  subst hq
  refine e_stk h0 rfl ?_
  rw [show lI ((n : Nat) : Int) = Int64.ofNat (n : Nat) from Int64.ofInt_eq_ofNat] at k; exact k
theorem r_iconst {z : xZ} {d : Nat} {M : xMI} {Q : tQ} {pc : Nat} {lo : xLoc} {st : List Value} {c : tC} {L : tL} {n : Int} (q : Nat) (h0 : decode M.2.1 pc = .ok (.iconst n, 1)) (hq : pc + 1 = q)  (k : En z (d + 1) M Q q lo (.int (iI n) :: st) c L) : En z (d + 1) M Q pc lo st c L := by
  subst hq
  refine e_stk h0 rfl ?_
  exact k
theorem r_bipush {z : xZ} {d : Nat} {M : xMI} {Q : tQ} {pc : Nat} {lo : xLoc} {st : List Value} {c : tC} {L : tL} {n : Int} (q : Nat) (h0 : decode M.2.1 pc = .ok (.bipush n, 2)) (hq : pc + 2 = q) (h : -128 ≤ n ∧ n < 128) (k : En z (d + 1) M Q q lo (.int (iI n) :: st) c L) : En z (d + 1) M Q pc lo st c L := by
  subst hq
  refine e_stk h0 rfl ?_
  rw [← iI_b n h] at k; exact k
theorem r_sipush {z : xZ} {d : Nat} {M : xMI} {Q : tQ} {pc : Nat} {lo : xLoc} {st : List Value} {c : tC} {L : tL} {n : Int} (q : Nat) (h0 : decode M.2.1 pc = .ok (.sipush n, 3)) (hq : pc + 3 = q) (h : -32768 ≤ n ∧ n < 32768) (k : En z (d + 1) M Q q lo (.int (iI n) :: st) c L) : En z (d + 1) M Q pc lo st c L := by
  subst hq
  refine e_stk h0 rfl ?_
  rw [← iI_s n h] at k; exact k
theorem r_idiv {z : xZ} {d : Nat} {M : xMI} {Q : tQ} {pc : Nat} {lo : xLoc} {st : List Value} {c : tC} {L : tL} {a b : Int} (q : Nat) (h0 : decode M.2.1 pc = .ok (.idiv, 1)) (hq : pc + 1 = q) (ha : 0 ≤ a ∧ a < 2147483648) (hb : 0 < b ∧ b < 2147483648) (k : En z (d + 1) M Q q lo (.int (iI (a / b)) :: st) c L) : En z (d + 1) M Q pc lo (.int (iI b) :: .int (iI a) :: st) c L := by
  subst hq
  refine e_div h0 (fun e => ?_) ?_
  · rw [show (0 : Int32) = iI 0 from rfl, iI_inj ⟨by omega, by omega⟩ inR_lit0] at e; omega
  · rw [iI_div ha hb]; exact k
theorem r_irem {z : xZ} {d : Nat} {M : xMI} {Q : tQ} {pc : Nat} {lo : xLoc} {st : List Value} {c : tC} {L : tL} {a b : Int} (q : Nat) (h0 : decode M.2.1 pc = .ok (.irem, 1)) (hq : pc + 1 = q) (ha : 0 ≤ a ∧ a < 2147483648) (hb : 0 < b ∧ b < 2147483648) (k : En z (d + 1) M Q q lo (.int (iI (a % b)) :: st) c L) : En z (d + 1) M Q pc lo (.int (iI b) :: .int (iI a) :: st) c L := by
  subst hq
  refine e_rem h0 (fun e => ?_) ?_
  · rw [show (0 : Int32) = iI 0 from rfl, iI_inj ⟨by omega, by omega⟩ inR_lit0] at e; omega
  · rw [iI_rem ha hb]; exact k
theorem r_ldiv {z : xZ} {d : Nat} {M : xMI} {Q : tQ} {pc : Nat} {lo : xLoc} {st : List Value} {c : tC} {L : tL} {a b : Int} (q : Nat) (h0 : decode M.2.1 pc = .ok (.ldiv, 1)) (hq : pc + 1 = q) (ha : 0 ≤ a ∧ a < 9223372036854775808) (hb : 0 < b ∧ b < 9223372036854775808) (k : En z (d + 1) M Q q lo (.long (lI (a / b)) :: st) c L) : En z (d + 1) M Q pc lo (.long (lI b) :: .long (lI a) :: st) c L := by
  subst hq
  refine e_ldiv h0 (fun e => ?_) ?_
  · rw [show (0 : Int64) = lI 0 from rfl, lI_inj ⟨by omega, by omega⟩ ⟨by decide, by decide⟩] at e; omega
  · rw [lI_div ha hb]; exact k
theorem r_ldc {z : xZ} {d : Nat} {M : xMI} {Q : tQ} {pc : Nat} {lo : xLoc} {st : List Value} {c : tC} {L : tL} {i : Nat} {n : Int} (q : Nat) (h0 : decode M.2.1 pc = .ok (.ldc i, 2)) (hq : pc + 2 = q) (h1 : Cond.constant M.1.cls i (iI n) ∈ (Cf z).1) (k : En z (d + 1) M Q q lo (.int (iI n) :: st) c L) : En z (d + 1) M Q pc lo st c L := by
  subst hq; exact e_ldc h0 h1 k
theorem r_ldcw {z : xZ} {d : Nat} {M : xMI} {Q : tQ} {pc : Nat} {lo : xLoc} {st : List Value} {c : tC} {L : tL} {i : Nat} {n : Int} (q : Nat) (h0 : decode M.2.1 pc = .ok (.ldc_w i, 3)) (hq : pc + 3 = q) (h1 : Cond.constant M.1.cls i (iI n) ∈ (Cf z).1) (k : En z (d + 1) M Q q lo (.int (iI n) :: st) c L) : En z (d + 1) M Q pc lo st c L := by
  subst hq; exact e_ldcw h0 h1 k
theorem r_ldc2 {z : xZ} {d : Nat} {M : xMI} {Q : tQ} {pc : Nat} {lo : xLoc} {st : List Value} {c : tC} {L : tL} {i : Nat} {n : Int} (q : Nat) (h0 : decode M.2.1 pc = .ok (.ldc2_w i, 3)) (hq : pc + 3 = q) (h1 : Cond.constantLong M.1.cls i (lI n) ∈ (Cf z).1) (k : En z (d + 1) M Q q lo (.long (lI n) :: st) c L) : En z (d + 1) M Q pc lo st c L := by
  subst hq; exact e_ldc2 h0 h1 k
theorem r_ldc2R {z : xZ} {d : Nat} {M : xMI} {Q : tQ} {pc : Nat} {lo : xLoc} {st : List Value} {c : tC} {L : tL} {i : Nat} {n : Int64} (q : Nat) (h0 : decode M.2.1 pc = .ok (.ldc2_w i, 3)) (hq : pc + 3 = q) (h1 : Cond.constantLong M.1.cls i n ∈ (Cf z).1) (k : En z (d + 1) M Q q lo (.long n :: st) c L) : En z (d + 1) M Q pc lo st c L := by
  subst hq; exact e_ldc2 h0 h1 k
theorem r_ldcs {z : xZ} {d : Nat} {M : xMI} {Q : tQ} {pc : Nat} {lo : xLoc} {st : List Value} {c : tC} {L : tL} {i a : Nat} {tx : String} (q : Nat) (h0 : decode M.2.1 pc = .ok (.ldc i, 2)) (hq : pc + 2 = q) (h1 : (M.1.cls, i, tx, a) ∈ (Cf z).2.2.2.2.2.2.2.2) (k : En z (d + 1) M Q q lo (.ref a :: st) c L) : En z (d + 1) M Q pc lo st c L := by
  subst hq; exact e_ldcs h0 h1 k
theorem r_iloadN {z : xZ} {d : Nat} {M : xMI} {Q : tQ} {pc : Nat} {lo : xLoc} {st : List Value} {c : tC} {L : tL} {i : Fin 4} {x : Int32} (q : Nat) (h0 : decode M.2.1 pc = .ok (.iload_n i, 1)) (hq : pc + 1 = q) (h1 : lo[(i : Nat)]? = some (some (.int x))) (k : En z (d + 1) M Q q lo (.int x :: st) c L) : En z (d + 1) M Q pc lo st c L := by
  subst hq; exact e_iloadN h0 h1 k
theorem r_iload {z : xZ} {d : Nat} {M : xMI} {Q : tQ} {pc : Nat} {lo : xLoc} {st : List Value} {c : tC} {L : tL} {i : Nat} {x : Int32} (q : Nat) (h0 : decode M.2.1 pc = .ok (.iload i, 2)) (hq : pc + 2 = q) (h1 : lo[i]? = some (some (.int x))) (k : En z (d + 1) M Q q lo (.int x :: st) c L) : En z (d + 1) M Q pc lo st c L := by
  subst hq; exact e_iload h0 h1 k
theorem r_lloadN {z : xZ} {d : Nat} {M : xMI} {Q : tQ} {pc : Nat} {lo : xLoc} {st : List Value} {c : tC} {L : tL} {i : Fin 4} {x : Int64} (q : Nat) (h0 : decode M.2.1 pc = .ok (.lload_n i, 1)) (hq : pc + 1 = q) (h1 : lo[(i : Nat)]? = some (some (.long x))) (k : En z (d + 1) M Q q lo (.long x :: st) c L) : En z (d + 1) M Q pc lo st c L := by
  subst hq; exact e_lloadN h0 h1 k
theorem r_lload {z : xZ} {d : Nat} {M : xMI} {Q : tQ} {pc : Nat} {lo : xLoc} {st : List Value} {c : tC} {L : tL} {i : Nat} {x : Int64} (q : Nat) (h0 : decode M.2.1 pc = .ok (.lload i, 2)) (hq : pc + 2 = q) (h1 : lo[i]? = some (some (.long x))) (k : En z (d + 1) M Q q lo (.long x :: st) c L) : En z (d + 1) M Q pc lo st c L := by
  subst hq; exact e_lload h0 h1 k
theorem r_aloadN {z : xZ} {d : Nat} {M : xMI} {Q : tQ} {pc : Nat} {lo : xLoc} {st : List Value} {c : tC} {L : tL} {i : Fin 4} {x : Nat} (q : Nat) (h0 : decode M.2.1 pc = .ok (.aload_n i, 1)) (hq : pc + 1 = q) (h1 : lo[(i : Nat)]? = some (some (.ref x))) (k : En z (d + 1) M Q q lo (.ref x :: st) c L) : En z (d + 1) M Q pc lo st c L := by
  subst hq; exact e_aloadN h0 h1 k
theorem r_aload {z : xZ} {d : Nat} {M : xMI} {Q : tQ} {pc : Nat} {lo : xLoc} {st : List Value} {c : tC} {L : tL} {i : Nat} {x : Nat} (q : Nat) (h0 : decode M.2.1 pc = .ok (.aload i, 2)) (hq : pc + 2 = q) (h1 : lo[i]? = some (some (.ref x))) (k : En z (d + 1) M Q q lo (.ref x :: st) c L) : En z (d + 1) M Q pc lo st c L := by
  subst hq; exact e_aload h0 h1 k
theorem r_istore0 {z : xZ} {d : Nat} {M : xMI} {Q : tQ} {pc : Nat} {st : List Value} {c : tC} {L : tL} {v0 : Option Value} {r : xLoc} {x : Int32} (q : Nat) (h0 : decode M.2.1 pc = .ok (.istore_n 0, 1)) (hq : pc + 1 = q) (hn : 0 < M.2.2.1) (k : En z (d + 1) M Q q (some (.int x) :: r) st c L) : En z (d + 1) M Q pc (v0 :: r) (.int x :: st) c L := by
  subst hq
  exact e_istoreN h0 hn k
theorem r_astore0 {z : xZ} {d : Nat} {M : xMI} {Q : tQ} {pc : Nat} {st : List Value} {c : tC} {L : tL} {v0 : Option Value} {r : xLoc} {x : Nat} (q : Nat) (h0 : decode M.2.1 pc = .ok (.astore_n 0, 1)) (hq : pc + 1 = q) (hn : 0 < M.2.2.1) (k : En z (d + 1) M Q q (some (.ref x) :: r) st c L) : En z (d + 1) M Q pc (v0 :: r) (.ref x :: st) c L := by
  subst hq
  exact e_astoreN h0 hn k
theorem r_iinc0 {z : xZ} {d : Nat} {M : xMI} {Q : tQ} {pc : Nat} {st : List Value} {c : tC} {L : tL} {r : xLoc} {a n : Int} (q : Nat) (h0 : decode M.2.1 pc = .ok (.iinc 0 n, 3)) (hq : pc + 3 = q) (hn : 0 < M.2.2.1) (k : En z (d + 1) M Q q (some (.int (iI (a + n))) :: r) st c L) : En z (d + 1) M Q pc (some (.int (iI a)) :: r) st c L := by
  subst hq
  rw [← iI_add] at k
  exact e_iinc h0 rfl hn k
theorem r_lstore0 {z : xZ} {d : Nat} {M : xMI} {Q : tQ} {pc : Nat} {st : List Value} {c : tC} {L : tL} {v0 u : Option Value} {r : xLoc} {x : Int64} (q : Nat) (h0 : decode M.2.1 pc = .ok (.lstore_n 0, 1)) (hq : pc + 1 = q) (hn : 0 + 1 < M.2.2.1) (k : En z (d + 1) M Q q (some (.long x) :: none :: r) st c L) : En z (d + 1) M Q pc (v0 :: u :: r) (.long x :: st) c L := by
  subst hq
  exact e_lstoreN h0 hn k
theorem r_istore1 {z : xZ} {d : Nat} {M : xMI} {Q : tQ} {pc : Nat} {st : List Value} {c : tC} {L : tL} {v0 v1 : Option Value} {r : xLoc} {x : Int32} (q : Nat) (h0 : decode M.2.1 pc = .ok (.istore_n 1, 1)) (hq : pc + 1 = q) (hk : xk v0 = v0) (hn : 1 < M.2.2.1) (k : En z (d + 1) M Q q (v0 :: some (.int x) :: r) st c L) : En z (d + 1) M Q pc (v0 :: v1 :: r) (.int x :: st) c L := by
  subst hq
  have e : (xk v0 :: some (.int x) :: r : xLoc) = v0 :: some (.int x) :: r := by rw [hk]
  rw [← e] at k; exact e_istoreN h0 hn k
theorem r_astore1 {z : xZ} {d : Nat} {M : xMI} {Q : tQ} {pc : Nat} {st : List Value} {c : tC} {L : tL} {v0 v1 : Option Value} {r : xLoc} {x : Nat} (q : Nat) (h0 : decode M.2.1 pc = .ok (.astore_n 1, 1)) (hq : pc + 1 = q) (hk : xk v0 = v0) (hn : 1 < M.2.2.1) (k : En z (d + 1) M Q q (v0 :: some (.ref x) :: r) st c L) : En z (d + 1) M Q pc (v0 :: v1 :: r) (.ref x :: st) c L := by
  subst hq
  have e : (xk v0 :: some (.ref x) :: r : xLoc) = v0 :: some (.ref x) :: r := by rw [hk]
  rw [← e] at k; exact e_astoreN h0 hn k
theorem r_iinc1 {z : xZ} {d : Nat} {M : xMI} {Q : tQ} {pc : Nat} {st : List Value} {c : tC} {L : tL} {v0 : Option Value} {r : xLoc} {a n : Int} (q : Nat) (h0 : decode M.2.1 pc = .ok (.iinc 1 n, 3)) (hq : pc + 3 = q) (hk : xk v0 = v0) (hn : 1 < M.2.2.1) (k : En z (d + 1) M Q q (v0 :: some (.int (iI (a + n))) :: r) st c L) : En z (d + 1) M Q pc (v0 :: some (.int (iI a)) :: r) st c L := by
  subst hq
  have e : (xk v0 :: some (.int (iI (a + n))) :: r : xLoc) = v0 :: some (.int (iI (a + n))) :: r := by rw [hk]
  rw [← e] at k; rw [← iI_add] at k
  exact e_iinc h0 rfl hn k
theorem r_lstore1 {z : xZ} {d : Nat} {M : xMI} {Q : tQ} {pc : Nat} {st : List Value} {c : tC} {L : tL} {v0 v1 u : Option Value} {r : xLoc} {x : Int64} (q : Nat) (h0 : decode M.2.1 pc = .ok (.lstore_n 1, 1)) (hq : pc + 1 = q) (hk : xk v0 = v0) (hn : 1 + 1 < M.2.2.1) (k : En z (d + 1) M Q q (v0 :: some (.long x) :: none :: r) st c L) : En z (d + 1) M Q pc (v0 :: v1 :: u :: r) (.long x :: st) c L := by
  subst hq
  have e : (xk v0 :: some (.long x) :: none :: r : xLoc) = v0 :: some (.long x) :: none :: r := by rw [hk]
  rw [← e] at k; exact e_lstoreN h0 hn k
theorem r_istoreK1 {z : xZ} {d : Nat} {M : xMI} {Q : tQ} {pc : Nat} {st : List Value} {c : tC} {L : tL} {v0 v1 : Option Value} {r : xLoc} {x : Int32} (q : Nat) (h0 : decode M.2.1 pc = .ok (.istore_n 1, 1)) (hq : pc + 1 = q) (hk : xk v0 = none) (hn : 1 < M.2.2.1) (k : En z (d + 1) M Q q (none :: some (.int x) :: r) st c L) : En z (d + 1) M Q pc (v0 :: v1 :: r) (.int x :: st) c L := by
  subst hq
  have e : (xk v0 :: some (.int x) :: r : xLoc) = none :: some (.int x) :: r := by rw [hk]
  rw [← e] at k; exact e_istoreN h0 hn k
theorem r_astoreK1 {z : xZ} {d : Nat} {M : xMI} {Q : tQ} {pc : Nat} {st : List Value} {c : tC} {L : tL} {v0 v1 : Option Value} {r : xLoc} {x : Nat} (q : Nat) (h0 : decode M.2.1 pc = .ok (.astore_n 1, 1)) (hq : pc + 1 = q) (hk : xk v0 = none) (hn : 1 < M.2.2.1) (k : En z (d + 1) M Q q (none :: some (.ref x) :: r) st c L) : En z (d + 1) M Q pc (v0 :: v1 :: r) (.ref x :: st) c L := by
  subst hq
  have e : (xk v0 :: some (.ref x) :: r : xLoc) = none :: some (.ref x) :: r := by rw [hk]
  rw [← e] at k; exact e_astoreN h0 hn k
theorem r_iincK1 {z : xZ} {d : Nat} {M : xMI} {Q : tQ} {pc : Nat} {st : List Value} {c : tC} {L : tL} {v0 : Option Value} {r : xLoc} {a n : Int} (q : Nat) (h0 : decode M.2.1 pc = .ok (.iinc 1 n, 3)) (hq : pc + 3 = q) (hk : xk v0 = none) (hn : 1 < M.2.2.1) (k : En z (d + 1) M Q q (none :: some (.int (iI (a + n))) :: r) st c L) : En z (d + 1) M Q pc (v0 :: some (.int (iI a)) :: r) st c L := by
  subst hq
  have e : (xk v0 :: some (.int (iI (a + n))) :: r : xLoc) = none :: some (.int (iI (a + n))) :: r := by rw [hk]
  rw [← e] at k; rw [← iI_add] at k
  exact e_iinc h0 rfl hn k
theorem r_lstoreK1 {z : xZ} {d : Nat} {M : xMI} {Q : tQ} {pc : Nat} {st : List Value} {c : tC} {L : tL} {v0 v1 u : Option Value} {r : xLoc} {x : Int64} (q : Nat) (h0 : decode M.2.1 pc = .ok (.lstore_n 1, 1)) (hq : pc + 1 = q) (hk : xk v0 = none) (hn : 1 + 1 < M.2.2.1) (k : En z (d + 1) M Q q (none :: some (.long x) :: none :: r) st c L) : En z (d + 1) M Q pc (v0 :: v1 :: u :: r) (.long x :: st) c L := by
  subst hq
  have e : (xk v0 :: some (.long x) :: none :: r : xLoc) = none :: some (.long x) :: none :: r := by rw [hk]
  rw [← e] at k; exact e_lstoreN h0 hn k
theorem r_istore2 {z : xZ} {d : Nat} {M : xMI} {Q : tQ} {pc : Nat} {st : List Value} {c : tC} {L : tL} {v0 v1 v2 : Option Value} {r : xLoc} {x : Int32} (q : Nat) (h0 : decode M.2.1 pc = .ok (.istore_n 2, 1)) (hq : pc + 1 = q) (hk : xk v1 = v1) (hn : 2 < M.2.2.1) (k : En z (d + 1) M Q q (v0 :: v1 :: some (.int x) :: r) st c L) : En z (d + 1) M Q pc (v0 :: v1 :: v2 :: r) (.int x :: st) c L := by
  subst hq
  have e : (v0 :: xk v1 :: some (.int x) :: r : xLoc) = v0 :: v1 :: some (.int x) :: r := by rw [hk]
  rw [← e] at k; exact e_istoreN h0 hn k
theorem r_astore2 {z : xZ} {d : Nat} {M : xMI} {Q : tQ} {pc : Nat} {st : List Value} {c : tC} {L : tL} {v0 v1 v2 : Option Value} {r : xLoc} {x : Nat} (q : Nat) (h0 : decode M.2.1 pc = .ok (.astore_n 2, 1)) (hq : pc + 1 = q) (hk : xk v1 = v1) (hn : 2 < M.2.2.1) (k : En z (d + 1) M Q q (v0 :: v1 :: some (.ref x) :: r) st c L) : En z (d + 1) M Q pc (v0 :: v1 :: v2 :: r) (.ref x :: st) c L := by
  subst hq
  have e : (v0 :: xk v1 :: some (.ref x) :: r : xLoc) = v0 :: v1 :: some (.ref x) :: r := by rw [hk]
  rw [← e] at k; exact e_astoreN h0 hn k
theorem r_iinc2 {z : xZ} {d : Nat} {M : xMI} {Q : tQ} {pc : Nat} {st : List Value} {c : tC} {L : tL} {v0 v1 : Option Value} {r : xLoc} {a n : Int} (q : Nat) (h0 : decode M.2.1 pc = .ok (.iinc 2 n, 3)) (hq : pc + 3 = q) (hk : xk v1 = v1) (hn : 2 < M.2.2.1) (k : En z (d + 1) M Q q (v0 :: v1 :: some (.int (iI (a + n))) :: r) st c L) : En z (d + 1) M Q pc (v0 :: v1 :: some (.int (iI a)) :: r) st c L := by
  subst hq
  have e : (v0 :: xk v1 :: some (.int (iI (a + n))) :: r : xLoc) = v0 :: v1 :: some (.int (iI (a + n))) :: r := by rw [hk]
  rw [← e] at k; rw [← iI_add] at k
  exact e_iinc h0 rfl hn k
theorem r_lstore2 {z : xZ} {d : Nat} {M : xMI} {Q : tQ} {pc : Nat} {st : List Value} {c : tC} {L : tL} {v0 v1 v2 u : Option Value} {r : xLoc} {x : Int64} (q : Nat) (h0 : decode M.2.1 pc = .ok (.lstore_n 2, 1)) (hq : pc + 1 = q) (hk : xk v1 = v1) (hn : 2 + 1 < M.2.2.1) (k : En z (d + 1) M Q q (v0 :: v1 :: some (.long x) :: none :: r) st c L) : En z (d + 1) M Q pc (v0 :: v1 :: v2 :: u :: r) (.long x :: st) c L := by
  subst hq
  have e : (v0 :: xk v1 :: some (.long x) :: none :: r : xLoc) = v0 :: v1 :: some (.long x) :: none :: r := by rw [hk]
  rw [← e] at k; exact e_lstoreN h0 hn k
theorem r_istoreK2 {z : xZ} {d : Nat} {M : xMI} {Q : tQ} {pc : Nat} {st : List Value} {c : tC} {L : tL} {v0 v1 v2 : Option Value} {r : xLoc} {x : Int32} (q : Nat) (h0 : decode M.2.1 pc = .ok (.istore_n 2, 1)) (hq : pc + 1 = q) (hk : xk v1 = none) (hn : 2 < M.2.2.1) (k : En z (d + 1) M Q q (v0 :: none :: some (.int x) :: r) st c L) : En z (d + 1) M Q pc (v0 :: v1 :: v2 :: r) (.int x :: st) c L := by
  subst hq
  have e : (v0 :: xk v1 :: some (.int x) :: r : xLoc) = v0 :: none :: some (.int x) :: r := by rw [hk]
  rw [← e] at k; exact e_istoreN h0 hn k
theorem r_astoreK2 {z : xZ} {d : Nat} {M : xMI} {Q : tQ} {pc : Nat} {st : List Value} {c : tC} {L : tL} {v0 v1 v2 : Option Value} {r : xLoc} {x : Nat} (q : Nat) (h0 : decode M.2.1 pc = .ok (.astore_n 2, 1)) (hq : pc + 1 = q) (hk : xk v1 = none) (hn : 2 < M.2.2.1) (k : En z (d + 1) M Q q (v0 :: none :: some (.ref x) :: r) st c L) : En z (d + 1) M Q pc (v0 :: v1 :: v2 :: r) (.ref x :: st) c L := by
  subst hq
  have e : (v0 :: xk v1 :: some (.ref x) :: r : xLoc) = v0 :: none :: some (.ref x) :: r := by rw [hk]
  rw [← e] at k; exact e_astoreN h0 hn k
theorem r_iincK2 {z : xZ} {d : Nat} {M : xMI} {Q : tQ} {pc : Nat} {st : List Value} {c : tC} {L : tL} {v0 v1 : Option Value} {r : xLoc} {a n : Int} (q : Nat) (h0 : decode M.2.1 pc = .ok (.iinc 2 n, 3)) (hq : pc + 3 = q) (hk : xk v1 = none) (hn : 2 < M.2.2.1) (k : En z (d + 1) M Q q (v0 :: none :: some (.int (iI (a + n))) :: r) st c L) : En z (d + 1) M Q pc (v0 :: v1 :: some (.int (iI a)) :: r) st c L := by
  subst hq
  have e : (v0 :: xk v1 :: some (.int (iI (a + n))) :: r : xLoc) = v0 :: none :: some (.int (iI (a + n))) :: r := by rw [hk]
  rw [← e] at k; rw [← iI_add] at k
  exact e_iinc h0 rfl hn k
theorem r_lstoreK2 {z : xZ} {d : Nat} {M : xMI} {Q : tQ} {pc : Nat} {st : List Value} {c : tC} {L : tL} {v0 v1 v2 u : Option Value} {r : xLoc} {x : Int64} (q : Nat) (h0 : decode M.2.1 pc = .ok (.lstore_n 2, 1)) (hq : pc + 1 = q) (hk : xk v1 = none) (hn : 2 + 1 < M.2.2.1) (k : En z (d + 1) M Q q (v0 :: none :: some (.long x) :: none :: r) st c L) : En z (d + 1) M Q pc (v0 :: v1 :: v2 :: u :: r) (.long x :: st) c L := by
  subst hq
  have e : (v0 :: xk v1 :: some (.long x) :: none :: r : xLoc) = v0 :: none :: some (.long x) :: none :: r := by rw [hk]
  rw [← e] at k; exact e_lstoreN h0 hn k
theorem r_istore3 {z : xZ} {d : Nat} {M : xMI} {Q : tQ} {pc : Nat} {st : List Value} {c : tC} {L : tL} {v0 v1 v2 v3 : Option Value} {r : xLoc} {x : Int32} (q : Nat) (h0 : decode M.2.1 pc = .ok (.istore_n 3, 1)) (hq : pc + 1 = q) (hk : xk v2 = v2) (hn : 3 < M.2.2.1) (k : En z (d + 1) M Q q (v0 :: v1 :: v2 :: some (.int x) :: r) st c L) : En z (d + 1) M Q pc (v0 :: v1 :: v2 :: v3 :: r) (.int x :: st) c L := by
  subst hq
  have e : (v0 :: v1 :: xk v2 :: some (.int x) :: r : xLoc) = v0 :: v1 :: v2 :: some (.int x) :: r := by rw [hk]
  rw [← e] at k; exact e_istoreN h0 hn k
theorem r_astore3 {z : xZ} {d : Nat} {M : xMI} {Q : tQ} {pc : Nat} {st : List Value} {c : tC} {L : tL} {v0 v1 v2 v3 : Option Value} {r : xLoc} {x : Nat} (q : Nat) (h0 : decode M.2.1 pc = .ok (.astore_n 3, 1)) (hq : pc + 1 = q) (hk : xk v2 = v2) (hn : 3 < M.2.2.1) (k : En z (d + 1) M Q q (v0 :: v1 :: v2 :: some (.ref x) :: r) st c L) : En z (d + 1) M Q pc (v0 :: v1 :: v2 :: v3 :: r) (.ref x :: st) c L := by
  subst hq
  have e : (v0 :: v1 :: xk v2 :: some (.ref x) :: r : xLoc) = v0 :: v1 :: v2 :: some (.ref x) :: r := by rw [hk]
  rw [← e] at k; exact e_astoreN h0 hn k
theorem r_iinc3 {z : xZ} {d : Nat} {M : xMI} {Q : tQ} {pc : Nat} {st : List Value} {c : tC} {L : tL} {v0 v1 v2 : Option Value} {r : xLoc} {a n : Int} (q : Nat) (h0 : decode M.2.1 pc = .ok (.iinc 3 n, 3)) (hq : pc + 3 = q) (hk : xk v2 = v2) (hn : 3 < M.2.2.1) (k : En z (d + 1) M Q q (v0 :: v1 :: v2 :: some (.int (iI (a + n))) :: r) st c L) : En z (d + 1) M Q pc (v0 :: v1 :: v2 :: some (.int (iI a)) :: r) st c L := by
  subst hq
  have e : (v0 :: v1 :: xk v2 :: some (.int (iI (a + n))) :: r : xLoc) = v0 :: v1 :: v2 :: some (.int (iI (a + n))) :: r := by rw [hk]
  rw [← e] at k; rw [← iI_add] at k
  exact e_iinc h0 rfl hn k
theorem r_lstore3 {z : xZ} {d : Nat} {M : xMI} {Q : tQ} {pc : Nat} {st : List Value} {c : tC} {L : tL} {v0 v1 v2 v3 u : Option Value} {r : xLoc} {x : Int64} (q : Nat) (h0 : decode M.2.1 pc = .ok (.lstore_n 3, 1)) (hq : pc + 1 = q) (hk : xk v2 = v2) (hn : 3 + 1 < M.2.2.1) (k : En z (d + 1) M Q q (v0 :: v1 :: v2 :: some (.long x) :: none :: r) st c L) : En z (d + 1) M Q pc (v0 :: v1 :: v2 :: v3 :: u :: r) (.long x :: st) c L := by
  subst hq
  have e : (v0 :: v1 :: xk v2 :: some (.long x) :: none :: r : xLoc) = v0 :: v1 :: v2 :: some (.long x) :: none :: r := by rw [hk]
  rw [← e] at k; exact e_lstoreN h0 hn k
theorem r_istoreK3 {z : xZ} {d : Nat} {M : xMI} {Q : tQ} {pc : Nat} {st : List Value} {c : tC} {L : tL} {v0 v1 v2 v3 : Option Value} {r : xLoc} {x : Int32} (q : Nat) (h0 : decode M.2.1 pc = .ok (.istore_n 3, 1)) (hq : pc + 1 = q) (hk : xk v2 = none) (hn : 3 < M.2.2.1) (k : En z (d + 1) M Q q (v0 :: v1 :: none :: some (.int x) :: r) st c L) : En z (d + 1) M Q pc (v0 :: v1 :: v2 :: v3 :: r) (.int x :: st) c L := by
  subst hq
  have e : (v0 :: v1 :: xk v2 :: some (.int x) :: r : xLoc) = v0 :: v1 :: none :: some (.int x) :: r := by rw [hk]
  rw [← e] at k; exact e_istoreN h0 hn k
theorem r_astoreK3 {z : xZ} {d : Nat} {M : xMI} {Q : tQ} {pc : Nat} {st : List Value} {c : tC} {L : tL} {v0 v1 v2 v3 : Option Value} {r : xLoc} {x : Nat} (q : Nat) (h0 : decode M.2.1 pc = .ok (.astore_n 3, 1)) (hq : pc + 1 = q) (hk : xk v2 = none) (hn : 3 < M.2.2.1) (k : En z (d + 1) M Q q (v0 :: v1 :: none :: some (.ref x) :: r) st c L) : En z (d + 1) M Q pc (v0 :: v1 :: v2 :: v3 :: r) (.ref x :: st) c L := by
  subst hq
  have e : (v0 :: v1 :: xk v2 :: some (.ref x) :: r : xLoc) = v0 :: v1 :: none :: some (.ref x) :: r := by rw [hk]
  rw [← e] at k; exact e_astoreN h0 hn k
theorem r_iincK3 {z : xZ} {d : Nat} {M : xMI} {Q : tQ} {pc : Nat} {st : List Value} {c : tC} {L : tL} {v0 v1 v2 : Option Value} {r : xLoc} {a n : Int} (q : Nat) (h0 : decode M.2.1 pc = .ok (.iinc 3 n, 3)) (hq : pc + 3 = q) (hk : xk v2 = none) (hn : 3 < M.2.2.1) (k : En z (d + 1) M Q q (v0 :: v1 :: none :: some (.int (iI (a + n))) :: r) st c L) : En z (d + 1) M Q pc (v0 :: v1 :: v2 :: some (.int (iI a)) :: r) st c L := by
  subst hq
  have e : (v0 :: v1 :: xk v2 :: some (.int (iI (a + n))) :: r : xLoc) = v0 :: v1 :: none :: some (.int (iI (a + n))) :: r := by rw [hk]
  rw [← e] at k; rw [← iI_add] at k
  exact e_iinc h0 rfl hn k
theorem r_lstoreK3 {z : xZ} {d : Nat} {M : xMI} {Q : tQ} {pc : Nat} {st : List Value} {c : tC} {L : tL} {v0 v1 v2 v3 u : Option Value} {r : xLoc} {x : Int64} (q : Nat) (h0 : decode M.2.1 pc = .ok (.lstore_n 3, 1)) (hq : pc + 1 = q) (hk : xk v2 = none) (hn : 3 + 1 < M.2.2.1) (k : En z (d + 1) M Q q (v0 :: v1 :: none :: some (.long x) :: none :: r) st c L) : En z (d + 1) M Q pc (v0 :: v1 :: v2 :: v3 :: u :: r) (.long x :: st) c L := by
  subst hq
  have e : (v0 :: v1 :: xk v2 :: some (.long x) :: none :: r : xLoc) = v0 :: v1 :: none :: some (.long x) :: none :: r := by rw [hk]
  rw [← e] at k; exact e_lstoreN h0 hn k
theorem r_istore4 {z : xZ} {d : Nat} {M : xMI} {Q : tQ} {pc : Nat} {st : List Value} {c : tC} {L : tL} {v0 v1 v2 v3 v4 : Option Value} {r : xLoc} {x : Int32} (q : Nat) (h0 : decode M.2.1 pc = .ok (.istore 4, 2)) (hq : pc + 2 = q) (hk : xk v3 = v3) (hn : 4 < M.2.2.1) (k : En z (d + 1) M Q q (v0 :: v1 :: v2 :: v3 :: some (.int x) :: r) st c L) : En z (d + 1) M Q pc (v0 :: v1 :: v2 :: v3 :: v4 :: r) (.int x :: st) c L := by
  subst hq
  have e : (v0 :: v1 :: v2 :: xk v3 :: some (.int x) :: r : xLoc) = v0 :: v1 :: v2 :: v3 :: some (.int x) :: r := by rw [hk]
  rw [← e] at k; exact e_istore h0 hn k
theorem r_astore4 {z : xZ} {d : Nat} {M : xMI} {Q : tQ} {pc : Nat} {st : List Value} {c : tC} {L : tL} {v0 v1 v2 v3 v4 : Option Value} {r : xLoc} {x : Nat} (q : Nat) (h0 : decode M.2.1 pc = .ok (.astore 4, 2)) (hq : pc + 2 = q) (hk : xk v3 = v3) (hn : 4 < M.2.2.1) (k : En z (d + 1) M Q q (v0 :: v1 :: v2 :: v3 :: some (.ref x) :: r) st c L) : En z (d + 1) M Q pc (v0 :: v1 :: v2 :: v3 :: v4 :: r) (.ref x :: st) c L := by
  subst hq
  have e : (v0 :: v1 :: v2 :: xk v3 :: some (.ref x) :: r : xLoc) = v0 :: v1 :: v2 :: v3 :: some (.ref x) :: r := by rw [hk]
  rw [← e] at k; exact e_astore h0 hn k
theorem r_iinc4 {z : xZ} {d : Nat} {M : xMI} {Q : tQ} {pc : Nat} {st : List Value} {c : tC} {L : tL} {v0 v1 v2 v3 : Option Value} {r : xLoc} {a n : Int} (q : Nat) (h0 : decode M.2.1 pc = .ok (.iinc 4 n, 3)) (hq : pc + 3 = q) (hk : xk v3 = v3) (hn : 4 < M.2.2.1) (k : En z (d + 1) M Q q (v0 :: v1 :: v2 :: v3 :: some (.int (iI (a + n))) :: r) st c L) : En z (d + 1) M Q pc (v0 :: v1 :: v2 :: v3 :: some (.int (iI a)) :: r) st c L := by
  subst hq
  have e : (v0 :: v1 :: v2 :: xk v3 :: some (.int (iI (a + n))) :: r : xLoc) = v0 :: v1 :: v2 :: v3 :: some (.int (iI (a + n))) :: r := by rw [hk]
  rw [← e] at k; rw [← iI_add] at k
  exact e_iinc h0 rfl hn k
theorem r_lstore4 {z : xZ} {d : Nat} {M : xMI} {Q : tQ} {pc : Nat} {st : List Value} {c : tC} {L : tL} {v0 v1 v2 v3 v4 u : Option Value} {r : xLoc} {x : Int64} (q : Nat) (h0 : decode M.2.1 pc = .ok (.lstore 4, 2)) (hq : pc + 2 = q) (hk : xk v3 = v3) (hn : 4 + 1 < M.2.2.1) (k : En z (d + 1) M Q q (v0 :: v1 :: v2 :: v3 :: some (.long x) :: none :: r) st c L) : En z (d + 1) M Q pc (v0 :: v1 :: v2 :: v3 :: v4 :: u :: r) (.long x :: st) c L := by
  subst hq
  have e : (v0 :: v1 :: v2 :: xk v3 :: some (.long x) :: none :: r : xLoc) = v0 :: v1 :: v2 :: v3 :: some (.long x) :: none :: r := by rw [hk]
  rw [← e] at k; exact e_lstore h0 hn k
theorem r_istoreK4 {z : xZ} {d : Nat} {M : xMI} {Q : tQ} {pc : Nat} {st : List Value} {c : tC} {L : tL} {v0 v1 v2 v3 v4 : Option Value} {r : xLoc} {x : Int32} (q : Nat) (h0 : decode M.2.1 pc = .ok (.istore 4, 2)) (hq : pc + 2 = q) (hk : xk v3 = none) (hn : 4 < M.2.2.1) (k : En z (d + 1) M Q q (v0 :: v1 :: v2 :: none :: some (.int x) :: r) st c L) : En z (d + 1) M Q pc (v0 :: v1 :: v2 :: v3 :: v4 :: r) (.int x :: st) c L := by
  subst hq
  have e : (v0 :: v1 :: v2 :: xk v3 :: some (.int x) :: r : xLoc) = v0 :: v1 :: v2 :: none :: some (.int x) :: r := by rw [hk]
  rw [← e] at k; exact e_istore h0 hn k
theorem r_astoreK4 {z : xZ} {d : Nat} {M : xMI} {Q : tQ} {pc : Nat} {st : List Value} {c : tC} {L : tL} {v0 v1 v2 v3 v4 : Option Value} {r : xLoc} {x : Nat} (q : Nat) (h0 : decode M.2.1 pc = .ok (.astore 4, 2)) (hq : pc + 2 = q) (hk : xk v3 = none) (hn : 4 < M.2.2.1) (k : En z (d + 1) M Q q (v0 :: v1 :: v2 :: none :: some (.ref x) :: r) st c L) : En z (d + 1) M Q pc (v0 :: v1 :: v2 :: v3 :: v4 :: r) (.ref x :: st) c L := by
  subst hq
  have e : (v0 :: v1 :: v2 :: xk v3 :: some (.ref x) :: r : xLoc) = v0 :: v1 :: v2 :: none :: some (.ref x) :: r := by rw [hk]
  rw [← e] at k; exact e_astore h0 hn k
theorem r_iincK4 {z : xZ} {d : Nat} {M : xMI} {Q : tQ} {pc : Nat} {st : List Value} {c : tC} {L : tL} {v0 v1 v2 v3 : Option Value} {r : xLoc} {a n : Int} (q : Nat) (h0 : decode M.2.1 pc = .ok (.iinc 4 n, 3)) (hq : pc + 3 = q) (hk : xk v3 = none) (hn : 4 < M.2.2.1) (k : En z (d + 1) M Q q (v0 :: v1 :: v2 :: none :: some (.int (iI (a + n))) :: r) st c L) : En z (d + 1) M Q pc (v0 :: v1 :: v2 :: v3 :: some (.int (iI a)) :: r) st c L := by
  subst hq
  have e : (v0 :: v1 :: v2 :: xk v3 :: some (.int (iI (a + n))) :: r : xLoc) = v0 :: v1 :: v2 :: none :: some (.int (iI (a + n))) :: r := by rw [hk]
  rw [← e] at k; rw [← iI_add] at k
  exact e_iinc h0 rfl hn k
theorem r_lstoreK4 {z : xZ} {d : Nat} {M : xMI} {Q : tQ} {pc : Nat} {st : List Value} {c : tC} {L : tL} {v0 v1 v2 v3 v4 u : Option Value} {r : xLoc} {x : Int64} (q : Nat) (h0 : decode M.2.1 pc = .ok (.lstore 4, 2)) (hq : pc + 2 = q) (hk : xk v3 = none) (hn : 4 + 1 < M.2.2.1) (k : En z (d + 1) M Q q (v0 :: v1 :: v2 :: none :: some (.long x) :: none :: r) st c L) : En z (d + 1) M Q pc (v0 :: v1 :: v2 :: v3 :: v4 :: u :: r) (.long x :: st) c L := by
  subst hq
  have e : (v0 :: v1 :: v2 :: xk v3 :: some (.long x) :: none :: r : xLoc) = v0 :: v1 :: v2 :: none :: some (.long x) :: none :: r := by rw [hk]
  rw [← e] at k; exact e_lstore h0 hn k
theorem r_istore5 {z : xZ} {d : Nat} {M : xMI} {Q : tQ} {pc : Nat} {st : List Value} {c : tC} {L : tL} {v0 v1 v2 v3 v4 v5 : Option Value} {r : xLoc} {x : Int32} (q : Nat) (h0 : decode M.2.1 pc = .ok (.istore 5, 2)) (hq : pc + 2 = q) (hk : xk v4 = v4) (hn : 5 < M.2.2.1) (k : En z (d + 1) M Q q (v0 :: v1 :: v2 :: v3 :: v4 :: some (.int x) :: r) st c L) : En z (d + 1) M Q pc (v0 :: v1 :: v2 :: v3 :: v4 :: v5 :: r) (.int x :: st) c L := by
  subst hq
  have e : (v0 :: v1 :: v2 :: v3 :: xk v4 :: some (.int x) :: r : xLoc) = v0 :: v1 :: v2 :: v3 :: v4 :: some (.int x) :: r := by rw [hk]
  rw [← e] at k; exact e_istore h0 hn k
theorem r_astore5 {z : xZ} {d : Nat} {M : xMI} {Q : tQ} {pc : Nat} {st : List Value} {c : tC} {L : tL} {v0 v1 v2 v3 v4 v5 : Option Value} {r : xLoc} {x : Nat} (q : Nat) (h0 : decode M.2.1 pc = .ok (.astore 5, 2)) (hq : pc + 2 = q) (hk : xk v4 = v4) (hn : 5 < M.2.2.1) (k : En z (d + 1) M Q q (v0 :: v1 :: v2 :: v3 :: v4 :: some (.ref x) :: r) st c L) : En z (d + 1) M Q pc (v0 :: v1 :: v2 :: v3 :: v4 :: v5 :: r) (.ref x :: st) c L := by
  subst hq
  have e : (v0 :: v1 :: v2 :: v3 :: xk v4 :: some (.ref x) :: r : xLoc) = v0 :: v1 :: v2 :: v3 :: v4 :: some (.ref x) :: r := by rw [hk]
  rw [← e] at k; exact e_astore h0 hn k
theorem r_iinc5 {z : xZ} {d : Nat} {M : xMI} {Q : tQ} {pc : Nat} {st : List Value} {c : tC} {L : tL} {v0 v1 v2 v3 v4 : Option Value} {r : xLoc} {a n : Int} (q : Nat) (h0 : decode M.2.1 pc = .ok (.iinc 5 n, 3)) (hq : pc + 3 = q) (hk : xk v4 = v4) (hn : 5 < M.2.2.1) (k : En z (d + 1) M Q q (v0 :: v1 :: v2 :: v3 :: v4 :: some (.int (iI (a + n))) :: r) st c L) : En z (d + 1) M Q pc (v0 :: v1 :: v2 :: v3 :: v4 :: some (.int (iI a)) :: r) st c L := by
  subst hq
  have e : (v0 :: v1 :: v2 :: v3 :: xk v4 :: some (.int (iI (a + n))) :: r : xLoc) = v0 :: v1 :: v2 :: v3 :: v4 :: some (.int (iI (a + n))) :: r := by rw [hk]
  rw [← e] at k; rw [← iI_add] at k
  exact e_iinc h0 rfl hn k
theorem r_lstore5 {z : xZ} {d : Nat} {M : xMI} {Q : tQ} {pc : Nat} {st : List Value} {c : tC} {L : tL} {v0 v1 v2 v3 v4 v5 u : Option Value} {r : xLoc} {x : Int64} (q : Nat) (h0 : decode M.2.1 pc = .ok (.lstore 5, 2)) (hq : pc + 2 = q) (hk : xk v4 = v4) (hn : 5 + 1 < M.2.2.1) (k : En z (d + 1) M Q q (v0 :: v1 :: v2 :: v3 :: v4 :: some (.long x) :: none :: r) st c L) : En z (d + 1) M Q pc (v0 :: v1 :: v2 :: v3 :: v4 :: v5 :: u :: r) (.long x :: st) c L := by
  subst hq
  have e : (v0 :: v1 :: v2 :: v3 :: xk v4 :: some (.long x) :: none :: r : xLoc) = v0 :: v1 :: v2 :: v3 :: v4 :: some (.long x) :: none :: r := by rw [hk]
  rw [← e] at k; exact e_lstore h0 hn k
theorem r_istoreK5 {z : xZ} {d : Nat} {M : xMI} {Q : tQ} {pc : Nat} {st : List Value} {c : tC} {L : tL} {v0 v1 v2 v3 v4 v5 : Option Value} {r : xLoc} {x : Int32} (q : Nat) (h0 : decode M.2.1 pc = .ok (.istore 5, 2)) (hq : pc + 2 = q) (hk : xk v4 = none) (hn : 5 < M.2.2.1) (k : En z (d + 1) M Q q (v0 :: v1 :: v2 :: v3 :: none :: some (.int x) :: r) st c L) : En z (d + 1) M Q pc (v0 :: v1 :: v2 :: v3 :: v4 :: v5 :: r) (.int x :: st) c L := by
  subst hq
  have e : (v0 :: v1 :: v2 :: v3 :: xk v4 :: some (.int x) :: r : xLoc) = v0 :: v1 :: v2 :: v3 :: none :: some (.int x) :: r := by rw [hk]
  rw [← e] at k; exact e_istore h0 hn k
theorem r_astoreK5 {z : xZ} {d : Nat} {M : xMI} {Q : tQ} {pc : Nat} {st : List Value} {c : tC} {L : tL} {v0 v1 v2 v3 v4 v5 : Option Value} {r : xLoc} {x : Nat} (q : Nat) (h0 : decode M.2.1 pc = .ok (.astore 5, 2)) (hq : pc + 2 = q) (hk : xk v4 = none) (hn : 5 < M.2.2.1) (k : En z (d + 1) M Q q (v0 :: v1 :: v2 :: v3 :: none :: some (.ref x) :: r) st c L) : En z (d + 1) M Q pc (v0 :: v1 :: v2 :: v3 :: v4 :: v5 :: r) (.ref x :: st) c L := by
  subst hq
  have e : (v0 :: v1 :: v2 :: v3 :: xk v4 :: some (.ref x) :: r : xLoc) = v0 :: v1 :: v2 :: v3 :: none :: some (.ref x) :: r := by rw [hk]
  rw [← e] at k; exact e_astore h0 hn k
theorem r_iincK5 {z : xZ} {d : Nat} {M : xMI} {Q : tQ} {pc : Nat} {st : List Value} {c : tC} {L : tL} {v0 v1 v2 v3 v4 : Option Value} {r : xLoc} {a n : Int} (q : Nat) (h0 : decode M.2.1 pc = .ok (.iinc 5 n, 3)) (hq : pc + 3 = q) (hk : xk v4 = none) (hn : 5 < M.2.2.1) (k : En z (d + 1) M Q q (v0 :: v1 :: v2 :: v3 :: none :: some (.int (iI (a + n))) :: r) st c L) : En z (d + 1) M Q pc (v0 :: v1 :: v2 :: v3 :: v4 :: some (.int (iI a)) :: r) st c L := by
  subst hq
  have e : (v0 :: v1 :: v2 :: v3 :: xk v4 :: some (.int (iI (a + n))) :: r : xLoc) = v0 :: v1 :: v2 :: v3 :: none :: some (.int (iI (a + n))) :: r := by rw [hk]
  rw [← e] at k; rw [← iI_add] at k
  exact e_iinc h0 rfl hn k
theorem r_lstoreK5 {z : xZ} {d : Nat} {M : xMI} {Q : tQ} {pc : Nat} {st : List Value} {c : tC} {L : tL} {v0 v1 v2 v3 v4 v5 u : Option Value} {r : xLoc} {x : Int64} (q : Nat) (h0 : decode M.2.1 pc = .ok (.lstore 5, 2)) (hq : pc + 2 = q) (hk : xk v4 = none) (hn : 5 + 1 < M.2.2.1) (k : En z (d + 1) M Q q (v0 :: v1 :: v2 :: v3 :: none :: some (.long x) :: none :: r) st c L) : En z (d + 1) M Q pc (v0 :: v1 :: v2 :: v3 :: v4 :: v5 :: u :: r) (.long x :: st) c L := by
  subst hq
  have e : (v0 :: v1 :: v2 :: v3 :: xk v4 :: some (.long x) :: none :: r : xLoc) = v0 :: v1 :: v2 :: v3 :: none :: some (.long x) :: none :: r := by rw [hk]
  rw [← e] at k; exact e_lstore h0 hn k
theorem r_istore6 {z : xZ} {d : Nat} {M : xMI} {Q : tQ} {pc : Nat} {st : List Value} {c : tC} {L : tL} {v0 v1 v2 v3 v4 v5 v6 : Option Value} {r : xLoc} {x : Int32} (q : Nat) (h0 : decode M.2.1 pc = .ok (.istore 6, 2)) (hq : pc + 2 = q) (hk : xk v5 = v5) (hn : 6 < M.2.2.1) (k : En z (d + 1) M Q q (v0 :: v1 :: v2 :: v3 :: v4 :: v5 :: some (.int x) :: r) st c L) : En z (d + 1) M Q pc (v0 :: v1 :: v2 :: v3 :: v4 :: v5 :: v6 :: r) (.int x :: st) c L := by
  subst hq
  have e : (v0 :: v1 :: v2 :: v3 :: v4 :: xk v5 :: some (.int x) :: r : xLoc) = v0 :: v1 :: v2 :: v3 :: v4 :: v5 :: some (.int x) :: r := by rw [hk]
  rw [← e] at k; exact e_istore h0 hn k
theorem r_astore6 {z : xZ} {d : Nat} {M : xMI} {Q : tQ} {pc : Nat} {st : List Value} {c : tC} {L : tL} {v0 v1 v2 v3 v4 v5 v6 : Option Value} {r : xLoc} {x : Nat} (q : Nat) (h0 : decode M.2.1 pc = .ok (.astore 6, 2)) (hq : pc + 2 = q) (hk : xk v5 = v5) (hn : 6 < M.2.2.1) (k : En z (d + 1) M Q q (v0 :: v1 :: v2 :: v3 :: v4 :: v5 :: some (.ref x) :: r) st c L) : En z (d + 1) M Q pc (v0 :: v1 :: v2 :: v3 :: v4 :: v5 :: v6 :: r) (.ref x :: st) c L := by
  subst hq
  have e : (v0 :: v1 :: v2 :: v3 :: v4 :: xk v5 :: some (.ref x) :: r : xLoc) = v0 :: v1 :: v2 :: v3 :: v4 :: v5 :: some (.ref x) :: r := by rw [hk]
  rw [← e] at k; exact e_astore h0 hn k
theorem r_iinc6 {z : xZ} {d : Nat} {M : xMI} {Q : tQ} {pc : Nat} {st : List Value} {c : tC} {L : tL} {v0 v1 v2 v3 v4 v5 : Option Value} {r : xLoc} {a n : Int} (q : Nat) (h0 : decode M.2.1 pc = .ok (.iinc 6 n, 3)) (hq : pc + 3 = q) (hk : xk v5 = v5) (hn : 6 < M.2.2.1) (k : En z (d + 1) M Q q (v0 :: v1 :: v2 :: v3 :: v4 :: v5 :: some (.int (iI (a + n))) :: r) st c L) : En z (d + 1) M Q pc (v0 :: v1 :: v2 :: v3 :: v4 :: v5 :: some (.int (iI a)) :: r) st c L := by
  subst hq
  have e : (v0 :: v1 :: v2 :: v3 :: v4 :: xk v5 :: some (.int (iI (a + n))) :: r : xLoc) = v0 :: v1 :: v2 :: v3 :: v4 :: v5 :: some (.int (iI (a + n))) :: r := by rw [hk]
  rw [← e] at k; rw [← iI_add] at k
  exact e_iinc h0 rfl hn k
theorem r_lstore6 {z : xZ} {d : Nat} {M : xMI} {Q : tQ} {pc : Nat} {st : List Value} {c : tC} {L : tL} {v0 v1 v2 v3 v4 v5 v6 u : Option Value} {r : xLoc} {x : Int64} (q : Nat) (h0 : decode M.2.1 pc = .ok (.lstore 6, 2)) (hq : pc + 2 = q) (hk : xk v5 = v5) (hn : 6 + 1 < M.2.2.1) (k : En z (d + 1) M Q q (v0 :: v1 :: v2 :: v3 :: v4 :: v5 :: some (.long x) :: none :: r) st c L) : En z (d + 1) M Q pc (v0 :: v1 :: v2 :: v3 :: v4 :: v5 :: v6 :: u :: r) (.long x :: st) c L := by
  subst hq
  have e : (v0 :: v1 :: v2 :: v3 :: v4 :: xk v5 :: some (.long x) :: none :: r : xLoc) = v0 :: v1 :: v2 :: v3 :: v4 :: v5 :: some (.long x) :: none :: r := by rw [hk]
  rw [← e] at k; exact e_lstore h0 hn k
theorem r_istoreK6 {z : xZ} {d : Nat} {M : xMI} {Q : tQ} {pc : Nat} {st : List Value} {c : tC} {L : tL} {v0 v1 v2 v3 v4 v5 v6 : Option Value} {r : xLoc} {x : Int32} (q : Nat) (h0 : decode M.2.1 pc = .ok (.istore 6, 2)) (hq : pc + 2 = q) (hk : xk v5 = none) (hn : 6 < M.2.2.1) (k : En z (d + 1) M Q q (v0 :: v1 :: v2 :: v3 :: v4 :: none :: some (.int x) :: r) st c L) : En z (d + 1) M Q pc (v0 :: v1 :: v2 :: v3 :: v4 :: v5 :: v6 :: r) (.int x :: st) c L := by
  subst hq
  have e : (v0 :: v1 :: v2 :: v3 :: v4 :: xk v5 :: some (.int x) :: r : xLoc) = v0 :: v1 :: v2 :: v3 :: v4 :: none :: some (.int x) :: r := by rw [hk]
  rw [← e] at k; exact e_istore h0 hn k
theorem r_astoreK6 {z : xZ} {d : Nat} {M : xMI} {Q : tQ} {pc : Nat} {st : List Value} {c : tC} {L : tL} {v0 v1 v2 v3 v4 v5 v6 : Option Value} {r : xLoc} {x : Nat} (q : Nat) (h0 : decode M.2.1 pc = .ok (.astore 6, 2)) (hq : pc + 2 = q) (hk : xk v5 = none) (hn : 6 < M.2.2.1) (k : En z (d + 1) M Q q (v0 :: v1 :: v2 :: v3 :: v4 :: none :: some (.ref x) :: r) st c L) : En z (d + 1) M Q pc (v0 :: v1 :: v2 :: v3 :: v4 :: v5 :: v6 :: r) (.ref x :: st) c L := by
  subst hq
  have e : (v0 :: v1 :: v2 :: v3 :: v4 :: xk v5 :: some (.ref x) :: r : xLoc) = v0 :: v1 :: v2 :: v3 :: v4 :: none :: some (.ref x) :: r := by rw [hk]
  rw [← e] at k; exact e_astore h0 hn k
theorem r_iincK6 {z : xZ} {d : Nat} {M : xMI} {Q : tQ} {pc : Nat} {st : List Value} {c : tC} {L : tL} {v0 v1 v2 v3 v4 v5 : Option Value} {r : xLoc} {a n : Int} (q : Nat) (h0 : decode M.2.1 pc = .ok (.iinc 6 n, 3)) (hq : pc + 3 = q) (hk : xk v5 = none) (hn : 6 < M.2.2.1) (k : En z (d + 1) M Q q (v0 :: v1 :: v2 :: v3 :: v4 :: none :: some (.int (iI (a + n))) :: r) st c L) : En z (d + 1) M Q pc (v0 :: v1 :: v2 :: v3 :: v4 :: v5 :: some (.int (iI a)) :: r) st c L := by
  subst hq
  have e : (v0 :: v1 :: v2 :: v3 :: v4 :: xk v5 :: some (.int (iI (a + n))) :: r : xLoc) = v0 :: v1 :: v2 :: v3 :: v4 :: none :: some (.int (iI (a + n))) :: r := by rw [hk]
  rw [← e] at k; rw [← iI_add] at k
  exact e_iinc h0 rfl hn k
theorem r_lstoreK6 {z : xZ} {d : Nat} {M : xMI} {Q : tQ} {pc : Nat} {st : List Value} {c : tC} {L : tL} {v0 v1 v2 v3 v4 v5 v6 u : Option Value} {r : xLoc} {x : Int64} (q : Nat) (h0 : decode M.2.1 pc = .ok (.lstore 6, 2)) (hq : pc + 2 = q) (hk : xk v5 = none) (hn : 6 + 1 < M.2.2.1) (k : En z (d + 1) M Q q (v0 :: v1 :: v2 :: v3 :: v4 :: none :: some (.long x) :: none :: r) st c L) : En z (d + 1) M Q pc (v0 :: v1 :: v2 :: v3 :: v4 :: v5 :: v6 :: u :: r) (.long x :: st) c L := by
  subst hq
  have e : (v0 :: v1 :: v2 :: v3 :: v4 :: xk v5 :: some (.long x) :: none :: r : xLoc) = v0 :: v1 :: v2 :: v3 :: v4 :: none :: some (.long x) :: none :: r := by rw [hk]
  rw [← e] at k; exact e_lstore h0 hn k
theorem r_istore7 {z : xZ} {d : Nat} {M : xMI} {Q : tQ} {pc : Nat} {st : List Value} {c : tC} {L : tL} {v0 v1 v2 v3 v4 v5 v6 v7 : Option Value} {r : xLoc} {x : Int32} (q : Nat) (h0 : decode M.2.1 pc = .ok (.istore 7, 2)) (hq : pc + 2 = q) (hk : xk v6 = v6) (hn : 7 < M.2.2.1) (k : En z (d + 1) M Q q (v0 :: v1 :: v2 :: v3 :: v4 :: v5 :: v6 :: some (.int x) :: r) st c L) : En z (d + 1) M Q pc (v0 :: v1 :: v2 :: v3 :: v4 :: v5 :: v6 :: v7 :: r) (.int x :: st) c L := by
  subst hq
  have e : (v0 :: v1 :: v2 :: v3 :: v4 :: v5 :: xk v6 :: some (.int x) :: r : xLoc) = v0 :: v1 :: v2 :: v3 :: v4 :: v5 :: v6 :: some (.int x) :: r := by rw [hk]
  rw [← e] at k; exact e_istore h0 hn k
theorem r_astore7 {z : xZ} {d : Nat} {M : xMI} {Q : tQ} {pc : Nat} {st : List Value} {c : tC} {L : tL} {v0 v1 v2 v3 v4 v5 v6 v7 : Option Value} {r : xLoc} {x : Nat} (q : Nat) (h0 : decode M.2.1 pc = .ok (.astore 7, 2)) (hq : pc + 2 = q) (hk : xk v6 = v6) (hn : 7 < M.2.2.1) (k : En z (d + 1) M Q q (v0 :: v1 :: v2 :: v3 :: v4 :: v5 :: v6 :: some (.ref x) :: r) st c L) : En z (d + 1) M Q pc (v0 :: v1 :: v2 :: v3 :: v4 :: v5 :: v6 :: v7 :: r) (.ref x :: st) c L := by
  subst hq
  have e : (v0 :: v1 :: v2 :: v3 :: v4 :: v5 :: xk v6 :: some (.ref x) :: r : xLoc) = v0 :: v1 :: v2 :: v3 :: v4 :: v5 :: v6 :: some (.ref x) :: r := by rw [hk]
  rw [← e] at k; exact e_astore h0 hn k
theorem r_iinc7 {z : xZ} {d : Nat} {M : xMI} {Q : tQ} {pc : Nat} {st : List Value} {c : tC} {L : tL} {v0 v1 v2 v3 v4 v5 v6 : Option Value} {r : xLoc} {a n : Int} (q : Nat) (h0 : decode M.2.1 pc = .ok (.iinc 7 n, 3)) (hq : pc + 3 = q) (hk : xk v6 = v6) (hn : 7 < M.2.2.1) (k : En z (d + 1) M Q q (v0 :: v1 :: v2 :: v3 :: v4 :: v5 :: v6 :: some (.int (iI (a + n))) :: r) st c L) : En z (d + 1) M Q pc (v0 :: v1 :: v2 :: v3 :: v4 :: v5 :: v6 :: some (.int (iI a)) :: r) st c L := by
  subst hq
  have e : (v0 :: v1 :: v2 :: v3 :: v4 :: v5 :: xk v6 :: some (.int (iI (a + n))) :: r : xLoc) = v0 :: v1 :: v2 :: v3 :: v4 :: v5 :: v6 :: some (.int (iI (a + n))) :: r := by rw [hk]
  rw [← e] at k; rw [← iI_add] at k
  exact e_iinc h0 rfl hn k
theorem r_lstore7 {z : xZ} {d : Nat} {M : xMI} {Q : tQ} {pc : Nat} {st : List Value} {c : tC} {L : tL} {v0 v1 v2 v3 v4 v5 v6 v7 u : Option Value} {r : xLoc} {x : Int64} (q : Nat) (h0 : decode M.2.1 pc = .ok (.lstore 7, 2)) (hq : pc + 2 = q) (hk : xk v6 = v6) (hn : 7 + 1 < M.2.2.1) (k : En z (d + 1) M Q q (v0 :: v1 :: v2 :: v3 :: v4 :: v5 :: v6 :: some (.long x) :: none :: r) st c L) : En z (d + 1) M Q pc (v0 :: v1 :: v2 :: v3 :: v4 :: v5 :: v6 :: v7 :: u :: r) (.long x :: st) c L := by
  subst hq
  have e : (v0 :: v1 :: v2 :: v3 :: v4 :: v5 :: xk v6 :: some (.long x) :: none :: r : xLoc) = v0 :: v1 :: v2 :: v3 :: v4 :: v5 :: v6 :: some (.long x) :: none :: r := by rw [hk]
  rw [← e] at k; exact e_lstore h0 hn k
theorem r_istoreK7 {z : xZ} {d : Nat} {M : xMI} {Q : tQ} {pc : Nat} {st : List Value} {c : tC} {L : tL} {v0 v1 v2 v3 v4 v5 v6 v7 : Option Value} {r : xLoc} {x : Int32} (q : Nat) (h0 : decode M.2.1 pc = .ok (.istore 7, 2)) (hq : pc + 2 = q) (hk : xk v6 = none) (hn : 7 < M.2.2.1) (k : En z (d + 1) M Q q (v0 :: v1 :: v2 :: v3 :: v4 :: v5 :: none :: some (.int x) :: r) st c L) : En z (d + 1) M Q pc (v0 :: v1 :: v2 :: v3 :: v4 :: v5 :: v6 :: v7 :: r) (.int x :: st) c L := by
  subst hq
  have e : (v0 :: v1 :: v2 :: v3 :: v4 :: v5 :: xk v6 :: some (.int x) :: r : xLoc) = v0 :: v1 :: v2 :: v3 :: v4 :: v5 :: none :: some (.int x) :: r := by rw [hk]
  rw [← e] at k; exact e_istore h0 hn k
theorem r_astoreK7 {z : xZ} {d : Nat} {M : xMI} {Q : tQ} {pc : Nat} {st : List Value} {c : tC} {L : tL} {v0 v1 v2 v3 v4 v5 v6 v7 : Option Value} {r : xLoc} {x : Nat} (q : Nat) (h0 : decode M.2.1 pc = .ok (.astore 7, 2)) (hq : pc + 2 = q) (hk : xk v6 = none) (hn : 7 < M.2.2.1) (k : En z (d + 1) M Q q (v0 :: v1 :: v2 :: v3 :: v4 :: v5 :: none :: some (.ref x) :: r) st c L) : En z (d + 1) M Q pc (v0 :: v1 :: v2 :: v3 :: v4 :: v5 :: v6 :: v7 :: r) (.ref x :: st) c L := by
  subst hq
  have e : (v0 :: v1 :: v2 :: v3 :: v4 :: v5 :: xk v6 :: some (.ref x) :: r : xLoc) = v0 :: v1 :: v2 :: v3 :: v4 :: v5 :: none :: some (.ref x) :: r := by rw [hk]
  rw [← e] at k; exact e_astore h0 hn k
theorem r_iincK7 {z : xZ} {d : Nat} {M : xMI} {Q : tQ} {pc : Nat} {st : List Value} {c : tC} {L : tL} {v0 v1 v2 v3 v4 v5 v6 : Option Value} {r : xLoc} {a n : Int} (q : Nat) (h0 : decode M.2.1 pc = .ok (.iinc 7 n, 3)) (hq : pc + 3 = q) (hk : xk v6 = none) (hn : 7 < M.2.2.1) (k : En z (d + 1) M Q q (v0 :: v1 :: v2 :: v3 :: v4 :: v5 :: none :: some (.int (iI (a + n))) :: r) st c L) : En z (d + 1) M Q pc (v0 :: v1 :: v2 :: v3 :: v4 :: v5 :: v6 :: some (.int (iI a)) :: r) st c L := by
  subst hq
  have e : (v0 :: v1 :: v2 :: v3 :: v4 :: v5 :: xk v6 :: some (.int (iI (a + n))) :: r : xLoc) = v0 :: v1 :: v2 :: v3 :: v4 :: v5 :: none :: some (.int (iI (a + n))) :: r := by rw [hk]
  rw [← e] at k; rw [← iI_add] at k
  exact e_iinc h0 rfl hn k
theorem r_lstoreK7 {z : xZ} {d : Nat} {M : xMI} {Q : tQ} {pc : Nat} {st : List Value} {c : tC} {L : tL} {v0 v1 v2 v3 v4 v5 v6 v7 u : Option Value} {r : xLoc} {x : Int64} (q : Nat) (h0 : decode M.2.1 pc = .ok (.lstore 7, 2)) (hq : pc + 2 = q) (hk : xk v6 = none) (hn : 7 + 1 < M.2.2.1) (k : En z (d + 1) M Q q (v0 :: v1 :: v2 :: v3 :: v4 :: v5 :: none :: some (.long x) :: none :: r) st c L) : En z (d + 1) M Q pc (v0 :: v1 :: v2 :: v3 :: v4 :: v5 :: v6 :: v7 :: u :: r) (.long x :: st) c L := by
  subst hq
  have e : (v0 :: v1 :: v2 :: v3 :: v4 :: v5 :: xk v6 :: some (.long x) :: none :: r : xLoc) = v0 :: v1 :: v2 :: v3 :: v4 :: v5 :: none :: some (.long x) :: none :: r := by rw [hk]
  rw [← e] at k; exact e_lstore h0 hn k
theorem r_istore8 {z : xZ} {d : Nat} {M : xMI} {Q : tQ} {pc : Nat} {st : List Value} {c : tC} {L : tL} {v0 v1 v2 v3 v4 v5 v6 v7 v8 : Option Value} {r : xLoc} {x : Int32} (q : Nat) (h0 : decode M.2.1 pc = .ok (.istore 8, 2)) (hq : pc + 2 = q) (hk : xk v7 = v7) (hn : 8 < M.2.2.1) (k : En z (d + 1) M Q q (v0 :: v1 :: v2 :: v3 :: v4 :: v5 :: v6 :: v7 :: some (.int x) :: r) st c L) : En z (d + 1) M Q pc (v0 :: v1 :: v2 :: v3 :: v4 :: v5 :: v6 :: v7 :: v8 :: r) (.int x :: st) c L := by
  subst hq
  have e : (v0 :: v1 :: v2 :: v3 :: v4 :: v5 :: v6 :: xk v7 :: some (.int x) :: r : xLoc) = v0 :: v1 :: v2 :: v3 :: v4 :: v5 :: v6 :: v7 :: some (.int x) :: r := by rw [hk]
  rw [← e] at k; exact e_istore h0 hn k
theorem r_astore8 {z : xZ} {d : Nat} {M : xMI} {Q : tQ} {pc : Nat} {st : List Value} {c : tC} {L : tL} {v0 v1 v2 v3 v4 v5 v6 v7 v8 : Option Value} {r : xLoc} {x : Nat} (q : Nat) (h0 : decode M.2.1 pc = .ok (.astore 8, 2)) (hq : pc + 2 = q) (hk : xk v7 = v7) (hn : 8 < M.2.2.1) (k : En z (d + 1) M Q q (v0 :: v1 :: v2 :: v3 :: v4 :: v5 :: v6 :: v7 :: some (.ref x) :: r) st c L) : En z (d + 1) M Q pc (v0 :: v1 :: v2 :: v3 :: v4 :: v5 :: v6 :: v7 :: v8 :: r) (.ref x :: st) c L := by
  subst hq
  have e : (v0 :: v1 :: v2 :: v3 :: v4 :: v5 :: v6 :: xk v7 :: some (.ref x) :: r : xLoc) = v0 :: v1 :: v2 :: v3 :: v4 :: v5 :: v6 :: v7 :: some (.ref x) :: r := by rw [hk]
  rw [← e] at k; exact e_astore h0 hn k
theorem r_iinc8 {z : xZ} {d : Nat} {M : xMI} {Q : tQ} {pc : Nat} {st : List Value} {c : tC} {L : tL} {v0 v1 v2 v3 v4 v5 v6 v7 : Option Value} {r : xLoc} {a n : Int} (q : Nat) (h0 : decode M.2.1 pc = .ok (.iinc 8 n, 3)) (hq : pc + 3 = q) (hk : xk v7 = v7) (hn : 8 < M.2.2.1) (k : En z (d + 1) M Q q (v0 :: v1 :: v2 :: v3 :: v4 :: v5 :: v6 :: v7 :: some (.int (iI (a + n))) :: r) st c L) : En z (d + 1) M Q pc (v0 :: v1 :: v2 :: v3 :: v4 :: v5 :: v6 :: v7 :: some (.int (iI a)) :: r) st c L := by
  subst hq
  have e : (v0 :: v1 :: v2 :: v3 :: v4 :: v5 :: v6 :: xk v7 :: some (.int (iI (a + n))) :: r : xLoc) = v0 :: v1 :: v2 :: v3 :: v4 :: v5 :: v6 :: v7 :: some (.int (iI (a + n))) :: r := by rw [hk]
  rw [← e] at k; rw [← iI_add] at k
  exact e_iinc h0 rfl hn k
theorem r_lstore8 {z : xZ} {d : Nat} {M : xMI} {Q : tQ} {pc : Nat} {st : List Value} {c : tC} {L : tL} {v0 v1 v2 v3 v4 v5 v6 v7 v8 u : Option Value} {r : xLoc} {x : Int64} (q : Nat) (h0 : decode M.2.1 pc = .ok (.lstore 8, 2)) (hq : pc + 2 = q) (hk : xk v7 = v7) (hn : 8 + 1 < M.2.2.1) (k : En z (d + 1) M Q q (v0 :: v1 :: v2 :: v3 :: v4 :: v5 :: v6 :: v7 :: some (.long x) :: none :: r) st c L) : En z (d + 1) M Q pc (v0 :: v1 :: v2 :: v3 :: v4 :: v5 :: v6 :: v7 :: v8 :: u :: r) (.long x :: st) c L := by
  subst hq
  have e : (v0 :: v1 :: v2 :: v3 :: v4 :: v5 :: v6 :: xk v7 :: some (.long x) :: none :: r : xLoc) = v0 :: v1 :: v2 :: v3 :: v4 :: v5 :: v6 :: v7 :: some (.long x) :: none :: r := by rw [hk]
  rw [← e] at k; exact e_lstore h0 hn k
theorem r_istoreK8 {z : xZ} {d : Nat} {M : xMI} {Q : tQ} {pc : Nat} {st : List Value} {c : tC} {L : tL} {v0 v1 v2 v3 v4 v5 v6 v7 v8 : Option Value} {r : xLoc} {x : Int32} (q : Nat) (h0 : decode M.2.1 pc = .ok (.istore 8, 2)) (hq : pc + 2 = q) (hk : xk v7 = none) (hn : 8 < M.2.2.1) (k : En z (d + 1) M Q q (v0 :: v1 :: v2 :: v3 :: v4 :: v5 :: v6 :: none :: some (.int x) :: r) st c L) : En z (d + 1) M Q pc (v0 :: v1 :: v2 :: v3 :: v4 :: v5 :: v6 :: v7 :: v8 :: r) (.int x :: st) c L := by
  subst hq
  have e : (v0 :: v1 :: v2 :: v3 :: v4 :: v5 :: v6 :: xk v7 :: some (.int x) :: r : xLoc) = v0 :: v1 :: v2 :: v3 :: v4 :: v5 :: v6 :: none :: some (.int x) :: r := by rw [hk]
  rw [← e] at k; exact e_istore h0 hn k
theorem r_astoreK8 {z : xZ} {d : Nat} {M : xMI} {Q : tQ} {pc : Nat} {st : List Value} {c : tC} {L : tL} {v0 v1 v2 v3 v4 v5 v6 v7 v8 : Option Value} {r : xLoc} {x : Nat} (q : Nat) (h0 : decode M.2.1 pc = .ok (.astore 8, 2)) (hq : pc + 2 = q) (hk : xk v7 = none) (hn : 8 < M.2.2.1) (k : En z (d + 1) M Q q (v0 :: v1 :: v2 :: v3 :: v4 :: v5 :: v6 :: none :: some (.ref x) :: r) st c L) : En z (d + 1) M Q pc (v0 :: v1 :: v2 :: v3 :: v4 :: v5 :: v6 :: v7 :: v8 :: r) (.ref x :: st) c L := by
  subst hq
  have e : (v0 :: v1 :: v2 :: v3 :: v4 :: v5 :: v6 :: xk v7 :: some (.ref x) :: r : xLoc) = v0 :: v1 :: v2 :: v3 :: v4 :: v5 :: v6 :: none :: some (.ref x) :: r := by rw [hk]
  rw [← e] at k; exact e_astore h0 hn k
theorem r_iincK8 {z : xZ} {d : Nat} {M : xMI} {Q : tQ} {pc : Nat} {st : List Value} {c : tC} {L : tL} {v0 v1 v2 v3 v4 v5 v6 v7 : Option Value} {r : xLoc} {a n : Int} (q : Nat) (h0 : decode M.2.1 pc = .ok (.iinc 8 n, 3)) (hq : pc + 3 = q) (hk : xk v7 = none) (hn : 8 < M.2.2.1) (k : En z (d + 1) M Q q (v0 :: v1 :: v2 :: v3 :: v4 :: v5 :: v6 :: none :: some (.int (iI (a + n))) :: r) st c L) : En z (d + 1) M Q pc (v0 :: v1 :: v2 :: v3 :: v4 :: v5 :: v6 :: v7 :: some (.int (iI a)) :: r) st c L := by
  subst hq
  have e : (v0 :: v1 :: v2 :: v3 :: v4 :: v5 :: v6 :: xk v7 :: some (.int (iI (a + n))) :: r : xLoc) = v0 :: v1 :: v2 :: v3 :: v4 :: v5 :: v6 :: none :: some (.int (iI (a + n))) :: r := by rw [hk]
  rw [← e] at k; rw [← iI_add] at k
  exact e_iinc h0 rfl hn k
theorem r_lstoreK8 {z : xZ} {d : Nat} {M : xMI} {Q : tQ} {pc : Nat} {st : List Value} {c : tC} {L : tL} {v0 v1 v2 v3 v4 v5 v6 v7 v8 u : Option Value} {r : xLoc} {x : Int64} (q : Nat) (h0 : decode M.2.1 pc = .ok (.lstore 8, 2)) (hq : pc + 2 = q) (hk : xk v7 = none) (hn : 8 + 1 < M.2.2.1) (k : En z (d + 1) M Q q (v0 :: v1 :: v2 :: v3 :: v4 :: v5 :: v6 :: none :: some (.long x) :: none :: r) st c L) : En z (d + 1) M Q pc (v0 :: v1 :: v2 :: v3 :: v4 :: v5 :: v6 :: v7 :: v8 :: u :: r) (.long x :: st) c L := by
  subst hq
  have e : (v0 :: v1 :: v2 :: v3 :: v4 :: v5 :: v6 :: xk v7 :: some (.long x) :: none :: r : xLoc) = v0 :: v1 :: v2 :: v3 :: v4 :: v5 :: v6 :: none :: some (.long x) :: none :: r := by rw [hk]
  rw [← e] at k; exact e_lstore h0 hn k
theorem r_istore9 {z : xZ} {d : Nat} {M : xMI} {Q : tQ} {pc : Nat} {st : List Value} {c : tC} {L : tL} {v0 v1 v2 v3 v4 v5 v6 v7 v8 v9 : Option Value} {r : xLoc} {x : Int32} (q : Nat) (h0 : decode M.2.1 pc = .ok (.istore 9, 2)) (hq : pc + 2 = q) (hk : xk v8 = v8) (hn : 9 < M.2.2.1) (k : En z (d + 1) M Q q (v0 :: v1 :: v2 :: v3 :: v4 :: v5 :: v6 :: v7 :: v8 :: some (.int x) :: r) st c L) : En z (d + 1) M Q pc (v0 :: v1 :: v2 :: v3 :: v4 :: v5 :: v6 :: v7 :: v8 :: v9 :: r) (.int x :: st) c L := by
  subst hq
  have e : (v0 :: v1 :: v2 :: v3 :: v4 :: v5 :: v6 :: v7 :: xk v8 :: some (.int x) :: r : xLoc) = v0 :: v1 :: v2 :: v3 :: v4 :: v5 :: v6 :: v7 :: v8 :: some (.int x) :: r := by rw [hk]
  rw [← e] at k; exact e_istore h0 hn k
theorem r_astore9 {z : xZ} {d : Nat} {M : xMI} {Q : tQ} {pc : Nat} {st : List Value} {c : tC} {L : tL} {v0 v1 v2 v3 v4 v5 v6 v7 v8 v9 : Option Value} {r : xLoc} {x : Nat} (q : Nat) (h0 : decode M.2.1 pc = .ok (.astore 9, 2)) (hq : pc + 2 = q) (hk : xk v8 = v8) (hn : 9 < M.2.2.1) (k : En z (d + 1) M Q q (v0 :: v1 :: v2 :: v3 :: v4 :: v5 :: v6 :: v7 :: v8 :: some (.ref x) :: r) st c L) : En z (d + 1) M Q pc (v0 :: v1 :: v2 :: v3 :: v4 :: v5 :: v6 :: v7 :: v8 :: v9 :: r) (.ref x :: st) c L := by
  subst hq
  have e : (v0 :: v1 :: v2 :: v3 :: v4 :: v5 :: v6 :: v7 :: xk v8 :: some (.ref x) :: r : xLoc) = v0 :: v1 :: v2 :: v3 :: v4 :: v5 :: v6 :: v7 :: v8 :: some (.ref x) :: r := by rw [hk]
  rw [← e] at k; exact e_astore h0 hn k
theorem r_iinc9 {z : xZ} {d : Nat} {M : xMI} {Q : tQ} {pc : Nat} {st : List Value} {c : tC} {L : tL} {v0 v1 v2 v3 v4 v5 v6 v7 v8 : Option Value} {r : xLoc} {a n : Int} (q : Nat) (h0 : decode M.2.1 pc = .ok (.iinc 9 n, 3)) (hq : pc + 3 = q) (hk : xk v8 = v8) (hn : 9 < M.2.2.1) (k : En z (d + 1) M Q q (v0 :: v1 :: v2 :: v3 :: v4 :: v5 :: v6 :: v7 :: v8 :: some (.int (iI (a + n))) :: r) st c L) : En z (d + 1) M Q pc (v0 :: v1 :: v2 :: v3 :: v4 :: v5 :: v6 :: v7 :: v8 :: some (.int (iI a)) :: r) st c L := by
  subst hq
  have e : (v0 :: v1 :: v2 :: v3 :: v4 :: v5 :: v6 :: v7 :: xk v8 :: some (.int (iI (a + n))) :: r : xLoc) = v0 :: v1 :: v2 :: v3 :: v4 :: v5 :: v6 :: v7 :: v8 :: some (.int (iI (a + n))) :: r := by rw [hk]
  rw [← e] at k; rw [← iI_add] at k
  exact e_iinc h0 rfl hn k
theorem r_lstore9 {z : xZ} {d : Nat} {M : xMI} {Q : tQ} {pc : Nat} {st : List Value} {c : tC} {L : tL} {v0 v1 v2 v3 v4 v5 v6 v7 v8 v9 u : Option Value} {r : xLoc} {x : Int64} (q : Nat) (h0 : decode M.2.1 pc = .ok (.lstore 9, 2)) (hq : pc + 2 = q) (hk : xk v8 = v8) (hn : 9 + 1 < M.2.2.1) (k : En z (d + 1) M Q q (v0 :: v1 :: v2 :: v3 :: v4 :: v5 :: v6 :: v7 :: v8 :: some (.long x) :: none :: r) st c L) : En z (d + 1) M Q pc (v0 :: v1 :: v2 :: v3 :: v4 :: v5 :: v6 :: v7 :: v8 :: v9 :: u :: r) (.long x :: st) c L := by
  subst hq
  have e : (v0 :: v1 :: v2 :: v3 :: v4 :: v5 :: v6 :: v7 :: xk v8 :: some (.long x) :: none :: r : xLoc) = v0 :: v1 :: v2 :: v3 :: v4 :: v5 :: v6 :: v7 :: v8 :: some (.long x) :: none :: r := by rw [hk]
  rw [← e] at k; exact e_lstore h0 hn k
theorem r_istoreK9 {z : xZ} {d : Nat} {M : xMI} {Q : tQ} {pc : Nat} {st : List Value} {c : tC} {L : tL} {v0 v1 v2 v3 v4 v5 v6 v7 v8 v9 : Option Value} {r : xLoc} {x : Int32} (q : Nat) (h0 : decode M.2.1 pc = .ok (.istore 9, 2)) (hq : pc + 2 = q) (hk : xk v8 = none) (hn : 9 < M.2.2.1) (k : En z (d + 1) M Q q (v0 :: v1 :: v2 :: v3 :: v4 :: v5 :: v6 :: v7 :: none :: some (.int x) :: r) st c L) : En z (d + 1) M Q pc (v0 :: v1 :: v2 :: v3 :: v4 :: v5 :: v6 :: v7 :: v8 :: v9 :: r) (.int x :: st) c L := by
  subst hq
  have e : (v0 :: v1 :: v2 :: v3 :: v4 :: v5 :: v6 :: v7 :: xk v8 :: some (.int x) :: r : xLoc) = v0 :: v1 :: v2 :: v3 :: v4 :: v5 :: v6 :: v7 :: none :: some (.int x) :: r := by rw [hk]
  rw [← e] at k; exact e_istore h0 hn k
theorem r_astoreK9 {z : xZ} {d : Nat} {M : xMI} {Q : tQ} {pc : Nat} {st : List Value} {c : tC} {L : tL} {v0 v1 v2 v3 v4 v5 v6 v7 v8 v9 : Option Value} {r : xLoc} {x : Nat} (q : Nat) (h0 : decode M.2.1 pc = .ok (.astore 9, 2)) (hq : pc + 2 = q) (hk : xk v8 = none) (hn : 9 < M.2.2.1) (k : En z (d + 1) M Q q (v0 :: v1 :: v2 :: v3 :: v4 :: v5 :: v6 :: v7 :: none :: some (.ref x) :: r) st c L) : En z (d + 1) M Q pc (v0 :: v1 :: v2 :: v3 :: v4 :: v5 :: v6 :: v7 :: v8 :: v9 :: r) (.ref x :: st) c L := by
  subst hq
  have e : (v0 :: v1 :: v2 :: v3 :: v4 :: v5 :: v6 :: v7 :: xk v8 :: some (.ref x) :: r : xLoc) = v0 :: v1 :: v2 :: v3 :: v4 :: v5 :: v6 :: v7 :: none :: some (.ref x) :: r := by rw [hk]
  rw [← e] at k; exact e_astore h0 hn k
theorem r_iincK9 {z : xZ} {d : Nat} {M : xMI} {Q : tQ} {pc : Nat} {st : List Value} {c : tC} {L : tL} {v0 v1 v2 v3 v4 v5 v6 v7 v8 : Option Value} {r : xLoc} {a n : Int} (q : Nat) (h0 : decode M.2.1 pc = .ok (.iinc 9 n, 3)) (hq : pc + 3 = q) (hk : xk v8 = none) (hn : 9 < M.2.2.1) (k : En z (d + 1) M Q q (v0 :: v1 :: v2 :: v3 :: v4 :: v5 :: v6 :: v7 :: none :: some (.int (iI (a + n))) :: r) st c L) : En z (d + 1) M Q pc (v0 :: v1 :: v2 :: v3 :: v4 :: v5 :: v6 :: v7 :: v8 :: some (.int (iI a)) :: r) st c L := by
  subst hq
  have e : (v0 :: v1 :: v2 :: v3 :: v4 :: v5 :: v6 :: v7 :: xk v8 :: some (.int (iI (a + n))) :: r : xLoc) = v0 :: v1 :: v2 :: v3 :: v4 :: v5 :: v6 :: v7 :: none :: some (.int (iI (a + n))) :: r := by rw [hk]
  rw [← e] at k; rw [← iI_add] at k
  exact e_iinc h0 rfl hn k
theorem r_lstoreK9 {z : xZ} {d : Nat} {M : xMI} {Q : tQ} {pc : Nat} {st : List Value} {c : tC} {L : tL} {v0 v1 v2 v3 v4 v5 v6 v7 v8 v9 u : Option Value} {r : xLoc} {x : Int64} (q : Nat) (h0 : decode M.2.1 pc = .ok (.lstore 9, 2)) (hq : pc + 2 = q) (hk : xk v8 = none) (hn : 9 + 1 < M.2.2.1) (k : En z (d + 1) M Q q (v0 :: v1 :: v2 :: v3 :: v4 :: v5 :: v6 :: v7 :: none :: some (.long x) :: none :: r) st c L) : En z (d + 1) M Q pc (v0 :: v1 :: v2 :: v3 :: v4 :: v5 :: v6 :: v7 :: v8 :: v9 :: u :: r) (.long x :: st) c L := by
  subst hq
  have e : (v0 :: v1 :: v2 :: v3 :: v4 :: v5 :: v6 :: v7 :: xk v8 :: some (.long x) :: none :: r : xLoc) = v0 :: v1 :: v2 :: v3 :: v4 :: v5 :: v6 :: v7 :: none :: some (.long x) :: none :: r := by rw [hk]
  rw [← e] at k; exact e_lstore h0 hn k
theorem r_istore10 {z : xZ} {d : Nat} {M : xMI} {Q : tQ} {pc : Nat} {st : List Value} {c : tC} {L : tL} {v0 v1 v2 v3 v4 v5 v6 v7 v8 v9 v10 : Option Value} {r : xLoc} {x : Int32} (q : Nat) (h0 : decode M.2.1 pc = .ok (.istore 10, 2)) (hq : pc + 2 = q) (hk : xk v9 = v9) (hn : 10 < M.2.2.1) (k : En z (d + 1) M Q q (v0 :: v1 :: v2 :: v3 :: v4 :: v5 :: v6 :: v7 :: v8 :: v9 :: some (.int x) :: r) st c L) : En z (d + 1) M Q pc (v0 :: v1 :: v2 :: v3 :: v4 :: v5 :: v6 :: v7 :: v8 :: v9 :: v10 :: r) (.int x :: st) c L := by
  subst hq
  have e : (v0 :: v1 :: v2 :: v3 :: v4 :: v5 :: v6 :: v7 :: v8 :: xk v9 :: some (.int x) :: r : xLoc) = v0 :: v1 :: v2 :: v3 :: v4 :: v5 :: v6 :: v7 :: v8 :: v9 :: some (.int x) :: r := by rw [hk]
  rw [← e] at k; exact e_istore h0 hn k
theorem r_astore10 {z : xZ} {d : Nat} {M : xMI} {Q : tQ} {pc : Nat} {st : List Value} {c : tC} {L : tL} {v0 v1 v2 v3 v4 v5 v6 v7 v8 v9 v10 : Option Value} {r : xLoc} {x : Nat} (q : Nat) (h0 : decode M.2.1 pc = .ok (.astore 10, 2)) (hq : pc + 2 = q) (hk : xk v9 = v9) (hn : 10 < M.2.2.1) (k : En z (d + 1) M Q q (v0 :: v1 :: v2 :: v3 :: v4 :: v5 :: v6 :: v7 :: v8 :: v9 :: some (.ref x) :: r) st c L) : En z (d + 1) M Q pc (v0 :: v1 :: v2 :: v3 :: v4 :: v5 :: v6 :: v7 :: v8 :: v9 :: v10 :: r) (.ref x :: st) c L := by
  subst hq
  have e : (v0 :: v1 :: v2 :: v3 :: v4 :: v5 :: v6 :: v7 :: v8 :: xk v9 :: some (.ref x) :: r : xLoc) = v0 :: v1 :: v2 :: v3 :: v4 :: v5 :: v6 :: v7 :: v8 :: v9 :: some (.ref x) :: r := by rw [hk]
  rw [← e] at k; exact e_astore h0 hn k
theorem r_iinc10 {z : xZ} {d : Nat} {M : xMI} {Q : tQ} {pc : Nat} {st : List Value} {c : tC} {L : tL} {v0 v1 v2 v3 v4 v5 v6 v7 v8 v9 : Option Value} {r : xLoc} {a n : Int} (q : Nat) (h0 : decode M.2.1 pc = .ok (.iinc 10 n, 3)) (hq : pc + 3 = q) (hk : xk v9 = v9) (hn : 10 < M.2.2.1) (k : En z (d + 1) M Q q (v0 :: v1 :: v2 :: v3 :: v4 :: v5 :: v6 :: v7 :: v8 :: v9 :: some (.int (iI (a + n))) :: r) st c L) : En z (d + 1) M Q pc (v0 :: v1 :: v2 :: v3 :: v4 :: v5 :: v6 :: v7 :: v8 :: v9 :: some (.int (iI a)) :: r) st c L := by
  subst hq
  have e : (v0 :: v1 :: v2 :: v3 :: v4 :: v5 :: v6 :: v7 :: v8 :: xk v9 :: some (.int (iI (a + n))) :: r : xLoc) = v0 :: v1 :: v2 :: v3 :: v4 :: v5 :: v6 :: v7 :: v8 :: v9 :: some (.int (iI (a + n))) :: r := by rw [hk]
  rw [← e] at k; rw [← iI_add] at k
  exact e_iinc h0 rfl hn k
theorem r_lstore10 {z : xZ} {d : Nat} {M : xMI} {Q : tQ} {pc : Nat} {st : List Value} {c : tC} {L : tL} {v0 v1 v2 v3 v4 v5 v6 v7 v8 v9 v10 u : Option Value} {r : xLoc} {x : Int64} (q : Nat) (h0 : decode M.2.1 pc = .ok (.lstore 10, 2)) (hq : pc + 2 = q) (hk : xk v9 = v9) (hn : 10 + 1 < M.2.2.1) (k : En z (d + 1) M Q q (v0 :: v1 :: v2 :: v3 :: v4 :: v5 :: v6 :: v7 :: v8 :: v9 :: some (.long x) :: none :: r) st c L) : En z (d + 1) M Q pc (v0 :: v1 :: v2 :: v3 :: v4 :: v5 :: v6 :: v7 :: v8 :: v9 :: v10 :: u :: r) (.long x :: st) c L := by
  subst hq
  have e : (v0 :: v1 :: v2 :: v3 :: v4 :: v5 :: v6 :: v7 :: v8 :: xk v9 :: some (.long x) :: none :: r : xLoc) = v0 :: v1 :: v2 :: v3 :: v4 :: v5 :: v6 :: v7 :: v8 :: v9 :: some (.long x) :: none :: r := by rw [hk]
  rw [← e] at k; exact e_lstore h0 hn k
theorem r_istoreK10 {z : xZ} {d : Nat} {M : xMI} {Q : tQ} {pc : Nat} {st : List Value} {c : tC} {L : tL} {v0 v1 v2 v3 v4 v5 v6 v7 v8 v9 v10 : Option Value} {r : xLoc} {x : Int32} (q : Nat) (h0 : decode M.2.1 pc = .ok (.istore 10, 2)) (hq : pc + 2 = q) (hk : xk v9 = none) (hn : 10 < M.2.2.1) (k : En z (d + 1) M Q q (v0 :: v1 :: v2 :: v3 :: v4 :: v5 :: v6 :: v7 :: v8 :: none :: some (.int x) :: r) st c L) : En z (d + 1) M Q pc (v0 :: v1 :: v2 :: v3 :: v4 :: v5 :: v6 :: v7 :: v8 :: v9 :: v10 :: r) (.int x :: st) c L := by
  subst hq
  have e : (v0 :: v1 :: v2 :: v3 :: v4 :: v5 :: v6 :: v7 :: v8 :: xk v9 :: some (.int x) :: r : xLoc) = v0 :: v1 :: v2 :: v3 :: v4 :: v5 :: v6 :: v7 :: v8 :: none :: some (.int x) :: r := by rw [hk]
  rw [← e] at k; exact e_istore h0 hn k
theorem r_astoreK10 {z : xZ} {d : Nat} {M : xMI} {Q : tQ} {pc : Nat} {st : List Value} {c : tC} {L : tL} {v0 v1 v2 v3 v4 v5 v6 v7 v8 v9 v10 : Option Value} {r : xLoc} {x : Nat} (q : Nat) (h0 : decode M.2.1 pc = .ok (.astore 10, 2)) (hq : pc + 2 = q) (hk : xk v9 = none) (hn : 10 < M.2.2.1) (k : En z (d + 1) M Q q (v0 :: v1 :: v2 :: v3 :: v4 :: v5 :: v6 :: v7 :: v8 :: none :: some (.ref x) :: r) st c L) : En z (d + 1) M Q pc (v0 :: v1 :: v2 :: v3 :: v4 :: v5 :: v6 :: v7 :: v8 :: v9 :: v10 :: r) (.ref x :: st) c L := by
  subst hq
  have e : (v0 :: v1 :: v2 :: v3 :: v4 :: v5 :: v6 :: v7 :: v8 :: xk v9 :: some (.ref x) :: r : xLoc) = v0 :: v1 :: v2 :: v3 :: v4 :: v5 :: v6 :: v7 :: v8 :: none :: some (.ref x) :: r := by rw [hk]
  rw [← e] at k; exact e_astore h0 hn k
theorem r_iincK10 {z : xZ} {d : Nat} {M : xMI} {Q : tQ} {pc : Nat} {st : List Value} {c : tC} {L : tL} {v0 v1 v2 v3 v4 v5 v6 v7 v8 v9 : Option Value} {r : xLoc} {a n : Int} (q : Nat) (h0 : decode M.2.1 pc = .ok (.iinc 10 n, 3)) (hq : pc + 3 = q) (hk : xk v9 = none) (hn : 10 < M.2.2.1) (k : En z (d + 1) M Q q (v0 :: v1 :: v2 :: v3 :: v4 :: v5 :: v6 :: v7 :: v8 :: none :: some (.int (iI (a + n))) :: r) st c L) : En z (d + 1) M Q pc (v0 :: v1 :: v2 :: v3 :: v4 :: v5 :: v6 :: v7 :: v8 :: v9 :: some (.int (iI a)) :: r) st c L := by
  subst hq
  have e : (v0 :: v1 :: v2 :: v3 :: v4 :: v5 :: v6 :: v7 :: v8 :: xk v9 :: some (.int (iI (a + n))) :: r : xLoc) = v0 :: v1 :: v2 :: v3 :: v4 :: v5 :: v6 :: v7 :: v8 :: none :: some (.int (iI (a + n))) :: r := by rw [hk]
  rw [← e] at k; rw [← iI_add] at k
  exact e_iinc h0 rfl hn k
theorem r_lstoreK10 {z : xZ} {d : Nat} {M : xMI} {Q : tQ} {pc : Nat} {st : List Value} {c : tC} {L : tL} {v0 v1 v2 v3 v4 v5 v6 v7 v8 v9 v10 u : Option Value} {r : xLoc} {x : Int64} (q : Nat) (h0 : decode M.2.1 pc = .ok (.lstore 10, 2)) (hq : pc + 2 = q) (hk : xk v9 = none) (hn : 10 + 1 < M.2.2.1) (k : En z (d + 1) M Q q (v0 :: v1 :: v2 :: v3 :: v4 :: v5 :: v6 :: v7 :: v8 :: none :: some (.long x) :: none :: r) st c L) : En z (d + 1) M Q pc (v0 :: v1 :: v2 :: v3 :: v4 :: v5 :: v6 :: v7 :: v8 :: v9 :: v10 :: u :: r) (.long x :: st) c L := by
  subst hq
  have e : (v0 :: v1 :: v2 :: v3 :: v4 :: v5 :: v6 :: v7 :: v8 :: xk v9 :: some (.long x) :: none :: r : xLoc) = v0 :: v1 :: v2 :: v3 :: v4 :: v5 :: v6 :: v7 :: v8 :: none :: some (.long x) :: none :: r := by rw [hk]
  rw [← e] at k; exact e_lstore h0 hn k
theorem r_istore11 {z : xZ} {d : Nat} {M : xMI} {Q : tQ} {pc : Nat} {st : List Value} {c : tC} {L : tL} {v0 v1 v2 v3 v4 v5 v6 v7 v8 v9 v10 v11 : Option Value} {r : xLoc} {x : Int32} (q : Nat) (h0 : decode M.2.1 pc = .ok (.istore 11, 2)) (hq : pc + 2 = q) (hk : xk v10 = v10) (hn : 11 < M.2.2.1) (k : En z (d + 1) M Q q (v0 :: v1 :: v2 :: v3 :: v4 :: v5 :: v6 :: v7 :: v8 :: v9 :: v10 :: some (.int x) :: r) st c L) : En z (d + 1) M Q pc (v0 :: v1 :: v2 :: v3 :: v4 :: v5 :: v6 :: v7 :: v8 :: v9 :: v10 :: v11 :: r) (.int x :: st) c L := by
  subst hq
  have e : (v0 :: v1 :: v2 :: v3 :: v4 :: v5 :: v6 :: v7 :: v8 :: v9 :: xk v10 :: some (.int x) :: r : xLoc) = v0 :: v1 :: v2 :: v3 :: v4 :: v5 :: v6 :: v7 :: v8 :: v9 :: v10 :: some (.int x) :: r := by rw [hk]
  rw [← e] at k; exact e_istore h0 hn k
theorem r_astore11 {z : xZ} {d : Nat} {M : xMI} {Q : tQ} {pc : Nat} {st : List Value} {c : tC} {L : tL} {v0 v1 v2 v3 v4 v5 v6 v7 v8 v9 v10 v11 : Option Value} {r : xLoc} {x : Nat} (q : Nat) (h0 : decode M.2.1 pc = .ok (.astore 11, 2)) (hq : pc + 2 = q) (hk : xk v10 = v10) (hn : 11 < M.2.2.1) (k : En z (d + 1) M Q q (v0 :: v1 :: v2 :: v3 :: v4 :: v5 :: v6 :: v7 :: v8 :: v9 :: v10 :: some (.ref x) :: r) st c L) : En z (d + 1) M Q pc (v0 :: v1 :: v2 :: v3 :: v4 :: v5 :: v6 :: v7 :: v8 :: v9 :: v10 :: v11 :: r) (.ref x :: st) c L := by
  subst hq
  have e : (v0 :: v1 :: v2 :: v3 :: v4 :: v5 :: v6 :: v7 :: v8 :: v9 :: xk v10 :: some (.ref x) :: r : xLoc) = v0 :: v1 :: v2 :: v3 :: v4 :: v5 :: v6 :: v7 :: v8 :: v9 :: v10 :: some (.ref x) :: r := by rw [hk]
  rw [← e] at k; exact e_astore h0 hn k
theorem r_iinc11 {z : xZ} {d : Nat} {M : xMI} {Q : tQ} {pc : Nat} {st : List Value} {c : tC} {L : tL} {v0 v1 v2 v3 v4 v5 v6 v7 v8 v9 v10 : Option Value} {r : xLoc} {a n : Int} (q : Nat) (h0 : decode M.2.1 pc = .ok (.iinc 11 n, 3)) (hq : pc + 3 = q) (hk : xk v10 = v10) (hn : 11 < M.2.2.1) (k : En z (d + 1) M Q q (v0 :: v1 :: v2 :: v3 :: v4 :: v5 :: v6 :: v7 :: v8 :: v9 :: v10 :: some (.int (iI (a + n))) :: r) st c L) : En z (d + 1) M Q pc (v0 :: v1 :: v2 :: v3 :: v4 :: v5 :: v6 :: v7 :: v8 :: v9 :: v10 :: some (.int (iI a)) :: r) st c L := by
  subst hq
  have e : (v0 :: v1 :: v2 :: v3 :: v4 :: v5 :: v6 :: v7 :: v8 :: v9 :: xk v10 :: some (.int (iI (a + n))) :: r : xLoc) = v0 :: v1 :: v2 :: v3 :: v4 :: v5 :: v6 :: v7 :: v8 :: v9 :: v10 :: some (.int (iI (a + n))) :: r := by rw [hk]
  rw [← e] at k; rw [← iI_add] at k
  exact e_iinc h0 rfl hn k
theorem r_lstore11 {z : xZ} {d : Nat} {M : xMI} {Q : tQ} {pc : Nat} {st : List Value} {c : tC} {L : tL} {v0 v1 v2 v3 v4 v5 v6 v7 v8 v9 v10 v11 u : Option Value} {r : xLoc} {x : Int64} (q : Nat) (h0 : decode M.2.1 pc = .ok (.lstore 11, 2)) (hq : pc + 2 = q) (hk : xk v10 = v10) (hn : 11 + 1 < M.2.2.1) (k : En z (d + 1) M Q q (v0 :: v1 :: v2 :: v3 :: v4 :: v5 :: v6 :: v7 :: v8 :: v9 :: v10 :: some (.long x) :: none :: r) st c L) : En z (d + 1) M Q pc (v0 :: v1 :: v2 :: v3 :: v4 :: v5 :: v6 :: v7 :: v8 :: v9 :: v10 :: v11 :: u :: r) (.long x :: st) c L := by
  subst hq
  have e : (v0 :: v1 :: v2 :: v3 :: v4 :: v5 :: v6 :: v7 :: v8 :: v9 :: xk v10 :: some (.long x) :: none :: r : xLoc) = v0 :: v1 :: v2 :: v3 :: v4 :: v5 :: v6 :: v7 :: v8 :: v9 :: v10 :: some (.long x) :: none :: r := by rw [hk]
  rw [← e] at k; exact e_lstore h0 hn k
theorem r_istoreK11 {z : xZ} {d : Nat} {M : xMI} {Q : tQ} {pc : Nat} {st : List Value} {c : tC} {L : tL} {v0 v1 v2 v3 v4 v5 v6 v7 v8 v9 v10 v11 : Option Value} {r : xLoc} {x : Int32} (q : Nat) (h0 : decode M.2.1 pc = .ok (.istore 11, 2)) (hq : pc + 2 = q) (hk : xk v10 = none) (hn : 11 < M.2.2.1) (k : En z (d + 1) M Q q (v0 :: v1 :: v2 :: v3 :: v4 :: v5 :: v6 :: v7 :: v8 :: v9 :: none :: some (.int x) :: r) st c L) : En z (d + 1) M Q pc (v0 :: v1 :: v2 :: v3 :: v4 :: v5 :: v6 :: v7 :: v8 :: v9 :: v10 :: v11 :: r) (.int x :: st) c L := by
  subst hq
  have e : (v0 :: v1 :: v2 :: v3 :: v4 :: v5 :: v6 :: v7 :: v8 :: v9 :: xk v10 :: some (.int x) :: r : xLoc) = v0 :: v1 :: v2 :: v3 :: v4 :: v5 :: v6 :: v7 :: v8 :: v9 :: none :: some (.int x) :: r := by rw [hk]
  rw [← e] at k; exact e_istore h0 hn k
theorem r_astoreK11 {z : xZ} {d : Nat} {M : xMI} {Q : tQ} {pc : Nat} {st : List Value} {c : tC} {L : tL} {v0 v1 v2 v3 v4 v5 v6 v7 v8 v9 v10 v11 : Option Value} {r : xLoc} {x : Nat} (q : Nat) (h0 : decode M.2.1 pc = .ok (.astore 11, 2)) (hq : pc + 2 = q) (hk : xk v10 = none) (hn : 11 < M.2.2.1) (k : En z (d + 1) M Q q (v0 :: v1 :: v2 :: v3 :: v4 :: v5 :: v6 :: v7 :: v8 :: v9 :: none :: some (.ref x) :: r) st c L) : En z (d + 1) M Q pc (v0 :: v1 :: v2 :: v3 :: v4 :: v5 :: v6 :: v7 :: v8 :: v9 :: v10 :: v11 :: r) (.ref x :: st) c L := by
  subst hq
  have e : (v0 :: v1 :: v2 :: v3 :: v4 :: v5 :: v6 :: v7 :: v8 :: v9 :: xk v10 :: some (.ref x) :: r : xLoc) = v0 :: v1 :: v2 :: v3 :: v4 :: v5 :: v6 :: v7 :: v8 :: v9 :: none :: some (.ref x) :: r := by rw [hk]
  rw [← e] at k; exact e_astore h0 hn k
theorem r_iincK11 {z : xZ} {d : Nat} {M : xMI} {Q : tQ} {pc : Nat} {st : List Value} {c : tC} {L : tL} {v0 v1 v2 v3 v4 v5 v6 v7 v8 v9 v10 : Option Value} {r : xLoc} {a n : Int} (q : Nat) (h0 : decode M.2.1 pc = .ok (.iinc 11 n, 3)) (hq : pc + 3 = q) (hk : xk v10 = none) (hn : 11 < M.2.2.1) (k : En z (d + 1) M Q q (v0 :: v1 :: v2 :: v3 :: v4 :: v5 :: v6 :: v7 :: v8 :: v9 :: none :: some (.int (iI (a + n))) :: r) st c L) : En z (d + 1) M Q pc (v0 :: v1 :: v2 :: v3 :: v4 :: v5 :: v6 :: v7 :: v8 :: v9 :: v10 :: some (.int (iI a)) :: r) st c L := by
  subst hq
  have e : (v0 :: v1 :: v2 :: v3 :: v4 :: v5 :: v6 :: v7 :: v8 :: v9 :: xk v10 :: some (.int (iI (a + n))) :: r : xLoc) = v0 :: v1 :: v2 :: v3 :: v4 :: v5 :: v6 :: v7 :: v8 :: v9 :: none :: some (.int (iI (a + n))) :: r := by rw [hk]
  rw [← e] at k; rw [← iI_add] at k
  exact e_iinc h0 rfl hn k
theorem r_lstoreK11 {z : xZ} {d : Nat} {M : xMI} {Q : tQ} {pc : Nat} {st : List Value} {c : tC} {L : tL} {v0 v1 v2 v3 v4 v5 v6 v7 v8 v9 v10 v11 u : Option Value} {r : xLoc} {x : Int64} (q : Nat) (h0 : decode M.2.1 pc = .ok (.lstore 11, 2)) (hq : pc + 2 = q) (hk : xk v10 = none) (hn : 11 + 1 < M.2.2.1) (k : En z (d + 1) M Q q (v0 :: v1 :: v2 :: v3 :: v4 :: v5 :: v6 :: v7 :: v8 :: v9 :: none :: some (.long x) :: none :: r) st c L) : En z (d + 1) M Q pc (v0 :: v1 :: v2 :: v3 :: v4 :: v5 :: v6 :: v7 :: v8 :: v9 :: v10 :: v11 :: u :: r) (.long x :: st) c L := by
  subst hq
  have e : (v0 :: v1 :: v2 :: v3 :: v4 :: v5 :: v6 :: v7 :: v8 :: v9 :: xk v10 :: some (.long x) :: none :: r : xLoc) = v0 :: v1 :: v2 :: v3 :: v4 :: v5 :: v6 :: v7 :: v8 :: v9 :: none :: some (.long x) :: none :: r := by rw [hk]
  rw [← e] at k; exact e_lstore h0 hn k
theorem r_istore12 {z : xZ} {d : Nat} {M : xMI} {Q : tQ} {pc : Nat} {st : List Value} {c : tC} {L : tL} {v0 v1 v2 v3 v4 v5 v6 v7 v8 v9 v10 v11 v12 : Option Value} {r : xLoc} {x : Int32} (q : Nat) (h0 : decode M.2.1 pc = .ok (.istore 12, 2)) (hq : pc + 2 = q) (hk : xk v11 = v11) (hn : 12 < M.2.2.1) (k : En z (d + 1) M Q q (v0 :: v1 :: v2 :: v3 :: v4 :: v5 :: v6 :: v7 :: v8 :: v9 :: v10 :: v11 :: some (.int x) :: r) st c L) : En z (d + 1) M Q pc (v0 :: v1 :: v2 :: v3 :: v4 :: v5 :: v6 :: v7 :: v8 :: v9 :: v10 :: v11 :: v12 :: r) (.int x :: st) c L := by
  subst hq
  have e : (v0 :: v1 :: v2 :: v3 :: v4 :: v5 :: v6 :: v7 :: v8 :: v9 :: v10 :: xk v11 :: some (.int x) :: r : xLoc) = v0 :: v1 :: v2 :: v3 :: v4 :: v5 :: v6 :: v7 :: v8 :: v9 :: v10 :: v11 :: some (.int x) :: r := by rw [hk]
  rw [← e] at k; exact e_istore h0 hn k
theorem r_astore12 {z : xZ} {d : Nat} {M : xMI} {Q : tQ} {pc : Nat} {st : List Value} {c : tC} {L : tL} {v0 v1 v2 v3 v4 v5 v6 v7 v8 v9 v10 v11 v12 : Option Value} {r : xLoc} {x : Nat} (q : Nat) (h0 : decode M.2.1 pc = .ok (.astore 12, 2)) (hq : pc + 2 = q) (hk : xk v11 = v11) (hn : 12 < M.2.2.1) (k : En z (d + 1) M Q q (v0 :: v1 :: v2 :: v3 :: v4 :: v5 :: v6 :: v7 :: v8 :: v9 :: v10 :: v11 :: some (.ref x) :: r) st c L) : En z (d + 1) M Q pc (v0 :: v1 :: v2 :: v3 :: v4 :: v5 :: v6 :: v7 :: v8 :: v9 :: v10 :: v11 :: v12 :: r) (.ref x :: st) c L := by
  subst hq
  have e : (v0 :: v1 :: v2 :: v3 :: v4 :: v5 :: v6 :: v7 :: v8 :: v9 :: v10 :: xk v11 :: some (.ref x) :: r : xLoc) = v0 :: v1 :: v2 :: v3 :: v4 :: v5 :: v6 :: v7 :: v8 :: v9 :: v10 :: v11 :: some (.ref x) :: r := by rw [hk]
  rw [← e] at k; exact e_astore h0 hn k
theorem r_iinc12 {z : xZ} {d : Nat} {M : xMI} {Q : tQ} {pc : Nat} {st : List Value} {c : tC} {L : tL} {v0 v1 v2 v3 v4 v5 v6 v7 v8 v9 v10 v11 : Option Value} {r : xLoc} {a n : Int} (q : Nat) (h0 : decode M.2.1 pc = .ok (.iinc 12 n, 3)) (hq : pc + 3 = q) (hk : xk v11 = v11) (hn : 12 < M.2.2.1) (k : En z (d + 1) M Q q (v0 :: v1 :: v2 :: v3 :: v4 :: v5 :: v6 :: v7 :: v8 :: v9 :: v10 :: v11 :: some (.int (iI (a + n))) :: r) st c L) : En z (d + 1) M Q pc (v0 :: v1 :: v2 :: v3 :: v4 :: v5 :: v6 :: v7 :: v8 :: v9 :: v10 :: v11 :: some (.int (iI a)) :: r) st c L := by
  subst hq
  have e : (v0 :: v1 :: v2 :: v3 :: v4 :: v5 :: v6 :: v7 :: v8 :: v9 :: v10 :: xk v11 :: some (.int (iI (a + n))) :: r : xLoc) = v0 :: v1 :: v2 :: v3 :: v4 :: v5 :: v6 :: v7 :: v8 :: v9 :: v10 :: v11 :: some (.int (iI (a + n))) :: r := by rw [hk]
  rw [← e] at k; rw [← iI_add] at k
  exact e_iinc h0 rfl hn k
theorem r_lstore12 {z : xZ} {d : Nat} {M : xMI} {Q : tQ} {pc : Nat} {st : List Value} {c : tC} {L : tL} {v0 v1 v2 v3 v4 v5 v6 v7 v8 v9 v10 v11 v12 u : Option Value} {r : xLoc} {x : Int64} (q : Nat) (h0 : decode M.2.1 pc = .ok (.lstore 12, 2)) (hq : pc + 2 = q) (hk : xk v11 = v11) (hn : 12 + 1 < M.2.2.1) (k : En z (d + 1) M Q q (v0 :: v1 :: v2 :: v3 :: v4 :: v5 :: v6 :: v7 :: v8 :: v9 :: v10 :: v11 :: some (.long x) :: none :: r) st c L) : En z (d + 1) M Q pc (v0 :: v1 :: v2 :: v3 :: v4 :: v5 :: v6 :: v7 :: v8 :: v9 :: v10 :: v11 :: v12 :: u :: r) (.long x :: st) c L := by
  subst hq
  have e : (v0 :: v1 :: v2 :: v3 :: v4 :: v5 :: v6 :: v7 :: v8 :: v9 :: v10 :: xk v11 :: some (.long x) :: none :: r : xLoc) = v0 :: v1 :: v2 :: v3 :: v4 :: v5 :: v6 :: v7 :: v8 :: v9 :: v10 :: v11 :: some (.long x) :: none :: r := by rw [hk]
  rw [← e] at k; exact e_lstore h0 hn k
theorem r_istoreK12 {z : xZ} {d : Nat} {M : xMI} {Q : tQ} {pc : Nat} {st : List Value} {c : tC} {L : tL} {v0 v1 v2 v3 v4 v5 v6 v7 v8 v9 v10 v11 v12 : Option Value} {r : xLoc} {x : Int32} (q : Nat) (h0 : decode M.2.1 pc = .ok (.istore 12, 2)) (hq : pc + 2 = q) (hk : xk v11 = none) (hn : 12 < M.2.2.1) (k : En z (d + 1) M Q q (v0 :: v1 :: v2 :: v3 :: v4 :: v5 :: v6 :: v7 :: v8 :: v9 :: v10 :: none :: some (.int x) :: r) st c L) : En z (d + 1) M Q pc (v0 :: v1 :: v2 :: v3 :: v4 :: v5 :: v6 :: v7 :: v8 :: v9 :: v10 :: v11 :: v12 :: r) (.int x :: st) c L := by
  subst hq
  have e : (v0 :: v1 :: v2 :: v3 :: v4 :: v5 :: v6 :: v7 :: v8 :: v9 :: v10 :: xk v11 :: some (.int x) :: r : xLoc) = v0 :: v1 :: v2 :: v3 :: v4 :: v5 :: v6 :: v7 :: v8 :: v9 :: v10 :: none :: some (.int x) :: r := by rw [hk]
  rw [← e] at k; exact e_istore h0 hn k
theorem r_astoreK12 {z : xZ} {d : Nat} {M : xMI} {Q : tQ} {pc : Nat} {st : List Value} {c : tC} {L : tL} {v0 v1 v2 v3 v4 v5 v6 v7 v8 v9 v10 v11 v12 : Option Value} {r : xLoc} {x : Nat} (q : Nat) (h0 : decode M.2.1 pc = .ok (.astore 12, 2)) (hq : pc + 2 = q) (hk : xk v11 = none) (hn : 12 < M.2.2.1) (k : En z (d + 1) M Q q (v0 :: v1 :: v2 :: v3 :: v4 :: v5 :: v6 :: v7 :: v8 :: v9 :: v10 :: none :: some (.ref x) :: r) st c L) : En z (d + 1) M Q pc (v0 :: v1 :: v2 :: v3 :: v4 :: v5 :: v6 :: v7 :: v8 :: v9 :: v10 :: v11 :: v12 :: r) (.ref x :: st) c L := by
  subst hq
  have e : (v0 :: v1 :: v2 :: v3 :: v4 :: v5 :: v6 :: v7 :: v8 :: v9 :: v10 :: xk v11 :: some (.ref x) :: r : xLoc) = v0 :: v1 :: v2 :: v3 :: v4 :: v5 :: v6 :: v7 :: v8 :: v9 :: v10 :: none :: some (.ref x) :: r := by rw [hk]
  rw [← e] at k; exact e_astore h0 hn k
theorem r_iincK12 {z : xZ} {d : Nat} {M : xMI} {Q : tQ} {pc : Nat} {st : List Value} {c : tC} {L : tL} {v0 v1 v2 v3 v4 v5 v6 v7 v8 v9 v10 v11 : Option Value} {r : xLoc} {a n : Int} (q : Nat) (h0 : decode M.2.1 pc = .ok (.iinc 12 n, 3)) (hq : pc + 3 = q) (hk : xk v11 = none) (hn : 12 < M.2.2.1) (k : En z (d + 1) M Q q (v0 :: v1 :: v2 :: v3 :: v4 :: v5 :: v6 :: v7 :: v8 :: v9 :: v10 :: none :: some (.int (iI (a + n))) :: r) st c L) : En z (d + 1) M Q pc (v0 :: v1 :: v2 :: v3 :: v4 :: v5 :: v6 :: v7 :: v8 :: v9 :: v10 :: v11 :: some (.int (iI a)) :: r) st c L := by
  subst hq
  have e : (v0 :: v1 :: v2 :: v3 :: v4 :: v5 :: v6 :: v7 :: v8 :: v9 :: v10 :: xk v11 :: some (.int (iI (a + n))) :: r : xLoc) = v0 :: v1 :: v2 :: v3 :: v4 :: v5 :: v6 :: v7 :: v8 :: v9 :: v10 :: none :: some (.int (iI (a + n))) :: r := by rw [hk]
  rw [← e] at k; rw [← iI_add] at k
  exact e_iinc h0 rfl hn k
theorem r_lstoreK12 {z : xZ} {d : Nat} {M : xMI} {Q : tQ} {pc : Nat} {st : List Value} {c : tC} {L : tL} {v0 v1 v2 v3 v4 v5 v6 v7 v8 v9 v10 v11 v12 u : Option Value} {r : xLoc} {x : Int64} (q : Nat) (h0 : decode M.2.1 pc = .ok (.lstore 12, 2)) (hq : pc + 2 = q) (hk : xk v11 = none) (hn : 12 + 1 < M.2.2.1) (k : En z (d + 1) M Q q (v0 :: v1 :: v2 :: v3 :: v4 :: v5 :: v6 :: v7 :: v8 :: v9 :: v10 :: none :: some (.long x) :: none :: r) st c L) : En z (d + 1) M Q pc (v0 :: v1 :: v2 :: v3 :: v4 :: v5 :: v6 :: v7 :: v8 :: v9 :: v10 :: v11 :: v12 :: u :: r) (.long x :: st) c L := by
  subst hq
  have e : (v0 :: v1 :: v2 :: v3 :: v4 :: v5 :: v6 :: v7 :: v8 :: v9 :: v10 :: xk v11 :: some (.long x) :: none :: r : xLoc) = v0 :: v1 :: v2 :: v3 :: v4 :: v5 :: v6 :: v7 :: v8 :: v9 :: v10 :: none :: some (.long x) :: none :: r := by rw [hk]
  rw [← e] at k; exact e_lstore h0 hn k
theorem r_istore13 {z : xZ} {d : Nat} {M : xMI} {Q : tQ} {pc : Nat} {st : List Value} {c : tC} {L : tL} {v0 v1 v2 v3 v4 v5 v6 v7 v8 v9 v10 v11 v12 v13 : Option Value} {r : xLoc} {x : Int32} (q : Nat) (h0 : decode M.2.1 pc = .ok (.istore 13, 2)) (hq : pc + 2 = q) (hk : xk v12 = v12) (hn : 13 < M.2.2.1) (k : En z (d + 1) M Q q (v0 :: v1 :: v2 :: v3 :: v4 :: v5 :: v6 :: v7 :: v8 :: v9 :: v10 :: v11 :: v12 :: some (.int x) :: r) st c L) : En z (d + 1) M Q pc (v0 :: v1 :: v2 :: v3 :: v4 :: v5 :: v6 :: v7 :: v8 :: v9 :: v10 :: v11 :: v12 :: v13 :: r) (.int x :: st) c L := by
  subst hq
  have e : (v0 :: v1 :: v2 :: v3 :: v4 :: v5 :: v6 :: v7 :: v8 :: v9 :: v10 :: v11 :: xk v12 :: some (.int x) :: r : xLoc) = v0 :: v1 :: v2 :: v3 :: v4 :: v5 :: v6 :: v7 :: v8 :: v9 :: v10 :: v11 :: v12 :: some (.int x) :: r := by rw [hk]
  rw [← e] at k; exact e_istore h0 hn k
theorem r_astore13 {z : xZ} {d : Nat} {M : xMI} {Q : tQ} {pc : Nat} {st : List Value} {c : tC} {L : tL} {v0 v1 v2 v3 v4 v5 v6 v7 v8 v9 v10 v11 v12 v13 : Option Value} {r : xLoc} {x : Nat} (q : Nat) (h0 : decode M.2.1 pc = .ok (.astore 13, 2)) (hq : pc + 2 = q) (hk : xk v12 = v12) (hn : 13 < M.2.2.1) (k : En z (d + 1) M Q q (v0 :: v1 :: v2 :: v3 :: v4 :: v5 :: v6 :: v7 :: v8 :: v9 :: v10 :: v11 :: v12 :: some (.ref x) :: r) st c L) : En z (d + 1) M Q pc (v0 :: v1 :: v2 :: v3 :: v4 :: v5 :: v6 :: v7 :: v8 :: v9 :: v10 :: v11 :: v12 :: v13 :: r) (.ref x :: st) c L := by
  subst hq
  have e : (v0 :: v1 :: v2 :: v3 :: v4 :: v5 :: v6 :: v7 :: v8 :: v9 :: v10 :: v11 :: xk v12 :: some (.ref x) :: r : xLoc) = v0 :: v1 :: v2 :: v3 :: v4 :: v5 :: v6 :: v7 :: v8 :: v9 :: v10 :: v11 :: v12 :: some (.ref x) :: r := by rw [hk]
  rw [← e] at k; exact e_astore h0 hn k
theorem r_iinc13 {z : xZ} {d : Nat} {M : xMI} {Q : tQ} {pc : Nat} {st : List Value} {c : tC} {L : tL} {v0 v1 v2 v3 v4 v5 v6 v7 v8 v9 v10 v11 v12 : Option Value} {r : xLoc} {a n : Int} (q : Nat) (h0 : decode M.2.1 pc = .ok (.iinc 13 n, 3)) (hq : pc + 3 = q) (hk : xk v12 = v12) (hn : 13 < M.2.2.1) (k : En z (d + 1) M Q q (v0 :: v1 :: v2 :: v3 :: v4 :: v5 :: v6 :: v7 :: v8 :: v9 :: v10 :: v11 :: v12 :: some (.int (iI (a + n))) :: r) st c L) : En z (d + 1) M Q pc (v0 :: v1 :: v2 :: v3 :: v4 :: v5 :: v6 :: v7 :: v8 :: v9 :: v10 :: v11 :: v12 :: some (.int (iI a)) :: r) st c L := by
  subst hq
  have e : (v0 :: v1 :: v2 :: v3 :: v4 :: v5 :: v6 :: v7 :: v8 :: v9 :: v10 :: v11 :: xk v12 :: some (.int (iI (a + n))) :: r : xLoc) = v0 :: v1 :: v2 :: v3 :: v4 :: v5 :: v6 :: v7 :: v8 :: v9 :: v10 :: v11 :: v12 :: some (.int (iI (a + n))) :: r := by rw [hk]
  rw [← e] at k; rw [← iI_add] at k
  exact e_iinc h0 rfl hn k
theorem r_lstore13 {z : xZ} {d : Nat} {M : xMI} {Q : tQ} {pc : Nat} {st : List Value} {c : tC} {L : tL} {v0 v1 v2 v3 v4 v5 v6 v7 v8 v9 v10 v11 v12 v13 u : Option Value} {r : xLoc} {x : Int64} (q : Nat) (h0 : decode M.2.1 pc = .ok (.lstore 13, 2)) (hq : pc + 2 = q) (hk : xk v12 = v12) (hn : 13 + 1 < M.2.2.1) (k : En z (d + 1) M Q q (v0 :: v1 :: v2 :: v3 :: v4 :: v5 :: v6 :: v7 :: v8 :: v9 :: v10 :: v11 :: v12 :: some (.long x) :: none :: r) st c L) : En z (d + 1) M Q pc (v0 :: v1 :: v2 :: v3 :: v4 :: v5 :: v6 :: v7 :: v8 :: v9 :: v10 :: v11 :: v12 :: v13 :: u :: r) (.long x :: st) c L := by
  subst hq
  have e : (v0 :: v1 :: v2 :: v3 :: v4 :: v5 :: v6 :: v7 :: v8 :: v9 :: v10 :: v11 :: xk v12 :: some (.long x) :: none :: r : xLoc) = v0 :: v1 :: v2 :: v3 :: v4 :: v5 :: v6 :: v7 :: v8 :: v9 :: v10 :: v11 :: v12 :: some (.long x) :: none :: r := by rw [hk]
  rw [← e] at k; exact e_lstore h0 hn k
theorem r_istoreK13 {z : xZ} {d : Nat} {M : xMI} {Q : tQ} {pc : Nat} {st : List Value} {c : tC} {L : tL} {v0 v1 v2 v3 v4 v5 v6 v7 v8 v9 v10 v11 v12 v13 : Option Value} {r : xLoc} {x : Int32} (q : Nat) (h0 : decode M.2.1 pc = .ok (.istore 13, 2)) (hq : pc + 2 = q) (hk : xk v12 = none) (hn : 13 < M.2.2.1) (k : En z (d + 1) M Q q (v0 :: v1 :: v2 :: v3 :: v4 :: v5 :: v6 :: v7 :: v8 :: v9 :: v10 :: v11 :: none :: some (.int x) :: r) st c L) : En z (d + 1) M Q pc (v0 :: v1 :: v2 :: v3 :: v4 :: v5 :: v6 :: v7 :: v8 :: v9 :: v10 :: v11 :: v12 :: v13 :: r) (.int x :: st) c L := by
  subst hq
  have e : (v0 :: v1 :: v2 :: v3 :: v4 :: v5 :: v6 :: v7 :: v8 :: v9 :: v10 :: v11 :: xk v12 :: some (.int x) :: r : xLoc) = v0 :: v1 :: v2 :: v3 :: v4 :: v5 :: v6 :: v7 :: v8 :: v9 :: v10 :: v11 :: none :: some (.int x) :: r := by rw [hk]
  rw [← e] at k; exact e_istore h0 hn k
theorem r_astoreK13 {z : xZ} {d : Nat} {M : xMI} {Q : tQ} {pc : Nat} {st : List Value} {c : tC} {L : tL} {v0 v1 v2 v3 v4 v5 v6 v7 v8 v9 v10 v11 v12 v13 : Option Value} {r : xLoc} {x : Nat} (q : Nat) (h0 : decode M.2.1 pc = .ok (.astore 13, 2)) (hq : pc + 2 = q) (hk : xk v12 = none) (hn : 13 < M.2.2.1) (k : En z (d + 1) M Q q (v0 :: v1 :: v2 :: v3 :: v4 :: v5 :: v6 :: v7 :: v8 :: v9 :: v10 :: v11 :: none :: some (.ref x) :: r) st c L) : En z (d + 1) M Q pc (v0 :: v1 :: v2 :: v3 :: v4 :: v5 :: v6 :: v7 :: v8 :: v9 :: v10 :: v11 :: v12 :: v13 :: r) (.ref x :: st) c L := by
  subst hq
  have e : (v0 :: v1 :: v2 :: v3 :: v4 :: v5 :: v6 :: v7 :: v8 :: v9 :: v10 :: v11 :: xk v12 :: some (.ref x) :: r : xLoc) = v0 :: v1 :: v2 :: v3 :: v4 :: v5 :: v6 :: v7 :: v8 :: v9 :: v10 :: v11 :: none :: some (.ref x) :: r := by rw [hk]
  rw [← e] at k; exact e_astore h0 hn k
theorem r_iincK13 {z : xZ} {d : Nat} {M : xMI} {Q : tQ} {pc : Nat} {st : List Value} {c : tC} {L : tL} {v0 v1 v2 v3 v4 v5 v6 v7 v8 v9 v10 v11 v12 : Option Value} {r : xLoc} {a n : Int} (q : Nat) (h0 : decode M.2.1 pc = .ok (.iinc 13 n, 3)) (hq : pc + 3 = q) (hk : xk v12 = none) (hn : 13 < M.2.2.1) (k : En z (d + 1) M Q q (v0 :: v1 :: v2 :: v3 :: v4 :: v5 :: v6 :: v7 :: v8 :: v9 :: v10 :: v11 :: none :: some (.int (iI (a + n))) :: r) st c L) : En z (d + 1) M Q pc (v0 :: v1 :: v2 :: v3 :: v4 :: v5 :: v6 :: v7 :: v8 :: v9 :: v10 :: v11 :: v12 :: some (.int (iI a)) :: r) st c L := by
  subst hq
  have e : (v0 :: v1 :: v2 :: v3 :: v4 :: v5 :: v6 :: v7 :: v8 :: v9 :: v10 :: v11 :: xk v12 :: some (.int (iI (a + n))) :: r : xLoc) = v0 :: v1 :: v2 :: v3 :: v4 :: v5 :: v6 :: v7 :: v8 :: v9 :: v10 :: v11 :: none :: some (.int (iI (a + n))) :: r := by rw [hk]
  rw [← e] at k; rw [← iI_add] at k
  exact e_iinc h0 rfl hn k
theorem r_lstoreK13 {z : xZ} {d : Nat} {M : xMI} {Q : tQ} {pc : Nat} {st : List Value} {c : tC} {L : tL} {v0 v1 v2 v3 v4 v5 v6 v7 v8 v9 v10 v11 v12 v13 u : Option Value} {r : xLoc} {x : Int64} (q : Nat) (h0 : decode M.2.1 pc = .ok (.lstore 13, 2)) (hq : pc + 2 = q) (hk : xk v12 = none) (hn : 13 + 1 < M.2.2.1) (k : En z (d + 1) M Q q (v0 :: v1 :: v2 :: v3 :: v4 :: v5 :: v6 :: v7 :: v8 :: v9 :: v10 :: v11 :: none :: some (.long x) :: none :: r) st c L) : En z (d + 1) M Q pc (v0 :: v1 :: v2 :: v3 :: v4 :: v5 :: v6 :: v7 :: v8 :: v9 :: v10 :: v11 :: v12 :: v13 :: u :: r) (.long x :: st) c L := by
  subst hq
  have e : (v0 :: v1 :: v2 :: v3 :: v4 :: v5 :: v6 :: v7 :: v8 :: v9 :: v10 :: v11 :: xk v12 :: some (.long x) :: none :: r : xLoc) = v0 :: v1 :: v2 :: v3 :: v4 :: v5 :: v6 :: v7 :: v8 :: v9 :: v10 :: v11 :: none :: some (.long x) :: none :: r := by rw [hk]
  rw [← e] at k; exact e_lstore h0 hn k
theorem r_istore14 {z : xZ} {d : Nat} {M : xMI} {Q : tQ} {pc : Nat} {st : List Value} {c : tC} {L : tL} {v0 v1 v2 v3 v4 v5 v6 v7 v8 v9 v10 v11 v12 v13 v14 : Option Value} {r : xLoc} {x : Int32} (q : Nat) (h0 : decode M.2.1 pc = .ok (.istore 14, 2)) (hq : pc + 2 = q) (hk : xk v13 = v13) (hn : 14 < M.2.2.1) (k : En z (d + 1) M Q q (v0 :: v1 :: v2 :: v3 :: v4 :: v5 :: v6 :: v7 :: v8 :: v9 :: v10 :: v11 :: v12 :: v13 :: some (.int x) :: r) st c L) : En z (d + 1) M Q pc (v0 :: v1 :: v2 :: v3 :: v4 :: v5 :: v6 :: v7 :: v8 :: v9 :: v10 :: v11 :: v12 :: v13 :: v14 :: r) (.int x :: st) c L := by
  subst hq
  have e : (v0 :: v1 :: v2 :: v3 :: v4 :: v5 :: v6 :: v7 :: v8 :: v9 :: v10 :: v11 :: v12 :: xk v13 :: some (.int x) :: r : xLoc) = v0 :: v1 :: v2 :: v3 :: v4 :: v5 :: v6 :: v7 :: v8 :: v9 :: v10 :: v11 :: v12 :: v13 :: some (.int x) :: r := by rw [hk]
  rw [← e] at k; exact e_istore h0 hn k
theorem r_astore14 {z : xZ} {d : Nat} {M : xMI} {Q : tQ} {pc : Nat} {st : List Value} {c : tC} {L : tL} {v0 v1 v2 v3 v4 v5 v6 v7 v8 v9 v10 v11 v12 v13 v14 : Option Value} {r : xLoc} {x : Nat} (q : Nat) (h0 : decode M.2.1 pc = .ok (.astore 14, 2)) (hq : pc + 2 = q) (hk : xk v13 = v13) (hn : 14 < M.2.2.1) (k : En z (d + 1) M Q q (v0 :: v1 :: v2 :: v3 :: v4 :: v5 :: v6 :: v7 :: v8 :: v9 :: v10 :: v11 :: v12 :: v13 :: some (.ref x) :: r) st c L) : En z (d + 1) M Q pc (v0 :: v1 :: v2 :: v3 :: v4 :: v5 :: v6 :: v7 :: v8 :: v9 :: v10 :: v11 :: v12 :: v13 :: v14 :: r) (.ref x :: st) c L := by
  subst hq
  have e : (v0 :: v1 :: v2 :: v3 :: v4 :: v5 :: v6 :: v7 :: v8 :: v9 :: v10 :: v11 :: v12 :: xk v13 :: some (.ref x) :: r : xLoc) = v0 :: v1 :: v2 :: v3 :: v4 :: v5 :: v6 :: v7 :: v8 :: v9 :: v10 :: v11 :: v12 :: v13 :: some (.ref x) :: r := by rw [hk]
  rw [← e] at k; exact e_astore h0 hn k
theorem r_iinc14 {z : xZ} {d : Nat} {M : xMI} {Q : tQ} {pc : Nat} {st : List Value} {c : tC} {L : tL} {v0 v1 v2 v3 v4 v5 v6 v7 v8 v9 v10 v11 v12 v13 : Option Value} {r : xLoc} {a n : Int} (q : Nat) (h0 : decode M.2.1 pc = .ok (.iinc 14 n, 3)) (hq : pc + 3 = q) (hk : xk v13 = v13) (hn : 14 < M.2.2.1) (k : En z (d + 1) M Q q (v0 :: v1 :: v2 :: v3 :: v4 :: v5 :: v6 :: v7 :: v8 :: v9 :: v10 :: v11 :: v12 :: v13 :: some (.int (iI (a + n))) :: r) st c L) : En z (d + 1) M Q pc (v0 :: v1 :: v2 :: v3 :: v4 :: v5 :: v6 :: v7 :: v8 :: v9 :: v10 :: v11 :: v12 :: v13 :: some (.int (iI a)) :: r) st c L := by
  subst hq
  have e : (v0 :: v1 :: v2 :: v3 :: v4 :: v5 :: v6 :: v7 :: v8 :: v9 :: v10 :: v11 :: v12 :: xk v13 :: some (.int (iI (a + n))) :: r : xLoc) = v0 :: v1 :: v2 :: v3 :: v4 :: v5 :: v6 :: v7 :: v8 :: v9 :: v10 :: v11 :: v12 :: v13 :: some (.int (iI (a + n))) :: r := by rw [hk]
  rw [← e] at k; rw [← iI_add] at k
  exact e_iinc h0 rfl hn k
theorem r_lstore14 {z : xZ} {d : Nat} {M : xMI} {Q : tQ} {pc : Nat} {st : List Value} {c : tC} {L : tL} {v0 v1 v2 v3 v4 v5 v6 v7 v8 v9 v10 v11 v12 v13 v14 u : Option Value} {r : xLoc} {x : Int64} (q : Nat) (h0 : decode M.2.1 pc = .ok (.lstore 14, 2)) (hq : pc + 2 = q) (hk : xk v13 = v13) (hn : 14 + 1 < M.2.2.1) (k : En z (d + 1) M Q q (v0 :: v1 :: v2 :: v3 :: v4 :: v5 :: v6 :: v7 :: v8 :: v9 :: v10 :: v11 :: v12 :: v13 :: some (.long x) :: none :: r) st c L) : En z (d + 1) M Q pc (v0 :: v1 :: v2 :: v3 :: v4 :: v5 :: v6 :: v7 :: v8 :: v9 :: v10 :: v11 :: v12 :: v13 :: v14 :: u :: r) (.long x :: st) c L := by
  subst hq
  have e : (v0 :: v1 :: v2 :: v3 :: v4 :: v5 :: v6 :: v7 :: v8 :: v9 :: v10 :: v11 :: v12 :: xk v13 :: some (.long x) :: none :: r : xLoc) = v0 :: v1 :: v2 :: v3 :: v4 :: v5 :: v6 :: v7 :: v8 :: v9 :: v10 :: v11 :: v12 :: v13 :: some (.long x) :: none :: r := by rw [hk]
  rw [← e] at k; exact e_lstore h0 hn k
theorem r_istoreK14 {z : xZ} {d : Nat} {M : xMI} {Q : tQ} {pc : Nat} {st : List Value} {c : tC} {L : tL} {v0 v1 v2 v3 v4 v5 v6 v7 v8 v9 v10 v11 v12 v13 v14 : Option Value} {r : xLoc} {x : Int32} (q : Nat) (h0 : decode M.2.1 pc = .ok (.istore 14, 2)) (hq : pc + 2 = q) (hk : xk v13 = none) (hn : 14 < M.2.2.1) (k : En z (d + 1) M Q q (v0 :: v1 :: v2 :: v3 :: v4 :: v5 :: v6 :: v7 :: v8 :: v9 :: v10 :: v11 :: v12 :: none :: some (.int x) :: r) st c L) : En z (d + 1) M Q pc (v0 :: v1 :: v2 :: v3 :: v4 :: v5 :: v6 :: v7 :: v8 :: v9 :: v10 :: v11 :: v12 :: v13 :: v14 :: r) (.int x :: st) c L := by
  subst hq
  have e : (v0 :: v1 :: v2 :: v3 :: v4 :: v5 :: v6 :: v7 :: v8 :: v9 :: v10 :: v11 :: v12 :: xk v13 :: some (.int x) :: r : xLoc) = v0 :: v1 :: v2 :: v3 :: v4 :: v5 :: v6 :: v7 :: v8 :: v9 :: v10 :: v11 :: v12 :: none :: some (.int x) :: r := by rw [hk]
  rw [← e] at k; exact e_istore h0 hn k
theorem r_astoreK14 {z : xZ} {d : Nat} {M : xMI} {Q : tQ} {pc : Nat} {st : List Value} {c : tC} {L : tL} {v0 v1 v2 v3 v4 v5 v6 v7 v8 v9 v10 v11 v12 v13 v14 : Option Value} {r : xLoc} {x : Nat} (q : Nat) (h0 : decode M.2.1 pc = .ok (.astore 14, 2)) (hq : pc + 2 = q) (hk : xk v13 = none) (hn : 14 < M.2.2.1) (k : En z (d + 1) M Q q (v0 :: v1 :: v2 :: v3 :: v4 :: v5 :: v6 :: v7 :: v8 :: v9 :: v10 :: v11 :: v12 :: none :: some (.ref x) :: r) st c L) : En z (d + 1) M Q pc (v0 :: v1 :: v2 :: v3 :: v4 :: v5 :: v6 :: v7 :: v8 :: v9 :: v10 :: v11 :: v12 :: v13 :: v14 :: r) (.ref x :: st) c L := by
  subst hq
  have e : (v0 :: v1 :: v2 :: v3 :: v4 :: v5 :: v6 :: v7 :: v8 :: v9 :: v10 :: v11 :: v12 :: xk v13 :: some (.ref x) :: r : xLoc) = v0 :: v1 :: v2 :: v3 :: v4 :: v5 :: v6 :: v7 :: v8 :: v9 :: v10 :: v11 :: v12 :: none :: some (.ref x) :: r := by rw [hk]
  rw [← e] at k; exact e_astore h0 hn k
theorem r_iincK14 {z : xZ} {d : Nat} {M : xMI} {Q : tQ} {pc : Nat} {st : List Value} {c : tC} {L : tL} {v0 v1 v2 v3 v4 v5 v6 v7 v8 v9 v10 v11 v12 v13 : Option Value} {r : xLoc} {a n : Int} (q : Nat) (h0 : decode M.2.1 pc = .ok (.iinc 14 n, 3)) (hq : pc + 3 = q) (hk : xk v13 = none) (hn : 14 < M.2.2.1) (k : En z (d + 1) M Q q (v0 :: v1 :: v2 :: v3 :: v4 :: v5 :: v6 :: v7 :: v8 :: v9 :: v10 :: v11 :: v12 :: none :: some (.int (iI (a + n))) :: r) st c L) : En z (d + 1) M Q pc (v0 :: v1 :: v2 :: v3 :: v4 :: v5 :: v6 :: v7 :: v8 :: v9 :: v10 :: v11 :: v12 :: v13 :: some (.int (iI a)) :: r) st c L := by
  subst hq
  have e : (v0 :: v1 :: v2 :: v3 :: v4 :: v5 :: v6 :: v7 :: v8 :: v9 :: v10 :: v11 :: v12 :: xk v13 :: some (.int (iI (a + n))) :: r : xLoc) = v0 :: v1 :: v2 :: v3 :: v4 :: v5 :: v6 :: v7 :: v8 :: v9 :: v10 :: v11 :: v12 :: none :: some (.int (iI (a + n))) :: r := by rw [hk]
  rw [← e] at k; rw [← iI_add] at k
  exact e_iinc h0 rfl hn k
theorem r_lstoreK14 {z : xZ} {d : Nat} {M : xMI} {Q : tQ} {pc : Nat} {st : List Value} {c : tC} {L : tL} {v0 v1 v2 v3 v4 v5 v6 v7 v8 v9 v10 v11 v12 v13 v14 u : Option Value} {r : xLoc} {x : Int64} (q : Nat) (h0 : decode M.2.1 pc = .ok (.lstore 14, 2)) (hq : pc + 2 = q) (hk : xk v13 = none) (hn : 14 + 1 < M.2.2.1) (k : En z (d + 1) M Q q (v0 :: v1 :: v2 :: v3 :: v4 :: v5 :: v6 :: v7 :: v8 :: v9 :: v10 :: v11 :: v12 :: none :: some (.long x) :: none :: r) st c L) : En z (d + 1) M Q pc (v0 :: v1 :: v2 :: v3 :: v4 :: v5 :: v6 :: v7 :: v8 :: v9 :: v10 :: v11 :: v12 :: v13 :: v14 :: u :: r) (.long x :: st) c L := by
  subst hq
  have e : (v0 :: v1 :: v2 :: v3 :: v4 :: v5 :: v6 :: v7 :: v8 :: v9 :: v10 :: v11 :: v12 :: xk v13 :: some (.long x) :: none :: r : xLoc) = v0 :: v1 :: v2 :: v3 :: v4 :: v5 :: v6 :: v7 :: v8 :: v9 :: v10 :: v11 :: v12 :: none :: some (.long x) :: none :: r := by rw [hk]
  rw [← e] at k; exact e_lstore h0 hn k
theorem r_istore15 {z : xZ} {d : Nat} {M : xMI} {Q : tQ} {pc : Nat} {st : List Value} {c : tC} {L : tL} {v0 v1 v2 v3 v4 v5 v6 v7 v8 v9 v10 v11 v12 v13 v14 v15 : Option Value} {r : xLoc} {x : Int32} (q : Nat) (h0 : decode M.2.1 pc = .ok (.istore 15, 2)) (hq : pc + 2 = q) (hk : xk v14 = v14) (hn : 15 < M.2.2.1) (k : En z (d + 1) M Q q (v0 :: v1 :: v2 :: v3 :: v4 :: v5 :: v6 :: v7 :: v8 :: v9 :: v10 :: v11 :: v12 :: v13 :: v14 :: some (.int x) :: r) st c L) : En z (d + 1) M Q pc (v0 :: v1 :: v2 :: v3 :: v4 :: v5 :: v6 :: v7 :: v8 :: v9 :: v10 :: v11 :: v12 :: v13 :: v14 :: v15 :: r) (.int x :: st) c L := by
  subst hq
  have e : (v0 :: v1 :: v2 :: v3 :: v4 :: v5 :: v6 :: v7 :: v8 :: v9 :: v10 :: v11 :: v12 :: v13 :: xk v14 :: some (.int x) :: r : xLoc) = v0 :: v1 :: v2 :: v3 :: v4 :: v5 :: v6 :: v7 :: v8 :: v9 :: v10 :: v11 :: v12 :: v13 :: v14 :: some (.int x) :: r := by rw [hk]
  rw [← e] at k; exact e_istore h0 hn k
theorem r_astore15 {z : xZ} {d : Nat} {M : xMI} {Q : tQ} {pc : Nat} {st : List Value} {c : tC} {L : tL} {v0 v1 v2 v3 v4 v5 v6 v7 v8 v9 v10 v11 v12 v13 v14 v15 : Option Value} {r : xLoc} {x : Nat} (q : Nat) (h0 : decode M.2.1 pc = .ok (.astore 15, 2)) (hq : pc + 2 = q) (hk : xk v14 = v14) (hn : 15 < M.2.2.1) (k : En z (d + 1) M Q q (v0 :: v1 :: v2 :: v3 :: v4 :: v5 :: v6 :: v7 :: v8 :: v9 :: v10 :: v11 :: v12 :: v13 :: v14 :: some (.ref x) :: r) st c L) : En z (d + 1) M Q pc (v0 :: v1 :: v2 :: v3 :: v4 :: v5 :: v6 :: v7 :: v8 :: v9 :: v10 :: v11 :: v12 :: v13 :: v14 :: v15 :: r) (.ref x :: st) c L := by
  subst hq
  have e : (v0 :: v1 :: v2 :: v3 :: v4 :: v5 :: v6 :: v7 :: v8 :: v9 :: v10 :: v11 :: v12 :: v13 :: xk v14 :: some (.ref x) :: r : xLoc) = v0 :: v1 :: v2 :: v3 :: v4 :: v5 :: v6 :: v7 :: v8 :: v9 :: v10 :: v11 :: v12 :: v13 :: v14 :: some (.ref x) :: r := by rw [hk]
  rw [← e] at k; exact e_astore h0 hn k
theorem r_iinc15 {z : xZ} {d : Nat} {M : xMI} {Q : tQ} {pc : Nat} {st : List Value} {c : tC} {L : tL} {v0 v1 v2 v3 v4 v5 v6 v7 v8 v9 v10 v11 v12 v13 v14 : Option Value} {r : xLoc} {a n : Int} (q : Nat) (h0 : decode M.2.1 pc = .ok (.iinc 15 n, 3)) (hq : pc + 3 = q) (hk : xk v14 = v14) (hn : 15 < M.2.2.1) (k : En z (d + 1) M Q q (v0 :: v1 :: v2 :: v3 :: v4 :: v5 :: v6 :: v7 :: v8 :: v9 :: v10 :: v11 :: v12 :: v13 :: v14 :: some (.int (iI (a + n))) :: r) st c L) : En z (d + 1) M Q pc (v0 :: v1 :: v2 :: v3 :: v4 :: v5 :: v6 :: v7 :: v8 :: v9 :: v10 :: v11 :: v12 :: v13 :: v14 :: some (.int (iI a)) :: r) st c L := by
  subst hq
  have e : (v0 :: v1 :: v2 :: v3 :: v4 :: v5 :: v6 :: v7 :: v8 :: v9 :: v10 :: v11 :: v12 :: v13 :: xk v14 :: some (.int (iI (a + n))) :: r : xLoc) = v0 :: v1 :: v2 :: v3 :: v4 :: v5 :: v6 :: v7 :: v8 :: v9 :: v10 :: v11 :: v12 :: v13 :: v14 :: some (.int (iI (a + n))) :: r := by rw [hk]
  rw [← e] at k; rw [← iI_add] at k
  exact e_iinc h0 rfl hn k
theorem r_lstore15 {z : xZ} {d : Nat} {M : xMI} {Q : tQ} {pc : Nat} {st : List Value} {c : tC} {L : tL} {v0 v1 v2 v3 v4 v5 v6 v7 v8 v9 v10 v11 v12 v13 v14 v15 u : Option Value} {r : xLoc} {x : Int64} (q : Nat) (h0 : decode M.2.1 pc = .ok (.lstore 15, 2)) (hq : pc + 2 = q) (hk : xk v14 = v14) (hn : 15 + 1 < M.2.2.1) (k : En z (d + 1) M Q q (v0 :: v1 :: v2 :: v3 :: v4 :: v5 :: v6 :: v7 :: v8 :: v9 :: v10 :: v11 :: v12 :: v13 :: v14 :: some (.long x) :: none :: r) st c L) : En z (d + 1) M Q pc (v0 :: v1 :: v2 :: v3 :: v4 :: v5 :: v6 :: v7 :: v8 :: v9 :: v10 :: v11 :: v12 :: v13 :: v14 :: v15 :: u :: r) (.long x :: st) c L := by
  subst hq
  have e : (v0 :: v1 :: v2 :: v3 :: v4 :: v5 :: v6 :: v7 :: v8 :: v9 :: v10 :: v11 :: v12 :: v13 :: xk v14 :: some (.long x) :: none :: r : xLoc) = v0 :: v1 :: v2 :: v3 :: v4 :: v5 :: v6 :: v7 :: v8 :: v9 :: v10 :: v11 :: v12 :: v13 :: v14 :: some (.long x) :: none :: r := by rw [hk]
  rw [← e] at k; exact e_lstore h0 hn k
theorem r_istoreK15 {z : xZ} {d : Nat} {M : xMI} {Q : tQ} {pc : Nat} {st : List Value} {c : tC} {L : tL} {v0 v1 v2 v3 v4 v5 v6 v7 v8 v9 v10 v11 v12 v13 v14 v15 : Option Value} {r : xLoc} {x : Int32} (q : Nat) (h0 : decode M.2.1 pc = .ok (.istore 15, 2)) (hq : pc + 2 = q) (hk : xk v14 = none) (hn : 15 < M.2.2.1) (k : En z (d + 1) M Q q (v0 :: v1 :: v2 :: v3 :: v4 :: v5 :: v6 :: v7 :: v8 :: v9 :: v10 :: v11 :: v12 :: v13 :: none :: some (.int x) :: r) st c L) : En z (d + 1) M Q pc (v0 :: v1 :: v2 :: v3 :: v4 :: v5 :: v6 :: v7 :: v8 :: v9 :: v10 :: v11 :: v12 :: v13 :: v14 :: v15 :: r) (.int x :: st) c L := by
  subst hq
  have e : (v0 :: v1 :: v2 :: v3 :: v4 :: v5 :: v6 :: v7 :: v8 :: v9 :: v10 :: v11 :: v12 :: v13 :: xk v14 :: some (.int x) :: r : xLoc) = v0 :: v1 :: v2 :: v3 :: v4 :: v5 :: v6 :: v7 :: v8 :: v9 :: v10 :: v11 :: v12 :: v13 :: none :: some (.int x) :: r := by rw [hk]
  rw [← e] at k; exact e_istore h0 hn k
theorem r_astoreK15 {z : xZ} {d : Nat} {M : xMI} {Q : tQ} {pc : Nat} {st : List Value} {c : tC} {L : tL} {v0 v1 v2 v3 v4 v5 v6 v7 v8 v9 v10 v11 v12 v13 v14 v15 : Option Value} {r : xLoc} {x : Nat} (q : Nat) (h0 : decode M.2.1 pc = .ok (.astore 15, 2)) (hq : pc + 2 = q) (hk : xk v14 = none) (hn : 15 < M.2.2.1) (k : En z (d + 1) M Q q (v0 :: v1 :: v2 :: v3 :: v4 :: v5 :: v6 :: v7 :: v8 :: v9 :: v10 :: v11 :: v12 :: v13 :: none :: some (.ref x) :: r) st c L) : En z (d + 1) M Q pc (v0 :: v1 :: v2 :: v3 :: v4 :: v5 :: v6 :: v7 :: v8 :: v9 :: v10 :: v11 :: v12 :: v13 :: v14 :: v15 :: r) (.ref x :: st) c L := by
  subst hq
  have e : (v0 :: v1 :: v2 :: v3 :: v4 :: v5 :: v6 :: v7 :: v8 :: v9 :: v10 :: v11 :: v12 :: v13 :: xk v14 :: some (.ref x) :: r : xLoc) = v0 :: v1 :: v2 :: v3 :: v4 :: v5 :: v6 :: v7 :: v8 :: v9 :: v10 :: v11 :: v12 :: v13 :: none :: some (.ref x) :: r := by rw [hk]
  rw [← e] at k; exact e_astore h0 hn k
theorem r_iincK15 {z : xZ} {d : Nat} {M : xMI} {Q : tQ} {pc : Nat} {st : List Value} {c : tC} {L : tL} {v0 v1 v2 v3 v4 v5 v6 v7 v8 v9 v10 v11 v12 v13 v14 : Option Value} {r : xLoc} {a n : Int} (q : Nat) (h0 : decode M.2.1 pc = .ok (.iinc 15 n, 3)) (hq : pc + 3 = q) (hk : xk v14 = none) (hn : 15 < M.2.2.1) (k : En z (d + 1) M Q q (v0 :: v1 :: v2 :: v3 :: v4 :: v5 :: v6 :: v7 :: v8 :: v9 :: v10 :: v11 :: v12 :: v13 :: none :: some (.int (iI (a + n))) :: r) st c L) : En z (d + 1) M Q pc (v0 :: v1 :: v2 :: v3 :: v4 :: v5 :: v6 :: v7 :: v8 :: v9 :: v10 :: v11 :: v12 :: v13 :: v14 :: some (.int (iI a)) :: r) st c L := by
  subst hq
  have e : (v0 :: v1 :: v2 :: v3 :: v4 :: v5 :: v6 :: v7 :: v8 :: v9 :: v10 :: v11 :: v12 :: v13 :: xk v14 :: some (.int (iI (a + n))) :: r : xLoc) = v0 :: v1 :: v2 :: v3 :: v4 :: v5 :: v6 :: v7 :: v8 :: v9 :: v10 :: v11 :: v12 :: v13 :: none :: some (.int (iI (a + n))) :: r := by rw [hk]
  rw [← e] at k; rw [← iI_add] at k
  exact e_iinc h0 rfl hn k
theorem r_lstoreK15 {z : xZ} {d : Nat} {M : xMI} {Q : tQ} {pc : Nat} {st : List Value} {c : tC} {L : tL} {v0 v1 v2 v3 v4 v5 v6 v7 v8 v9 v10 v11 v12 v13 v14 v15 u : Option Value} {r : xLoc} {x : Int64} (q : Nat) (h0 : decode M.2.1 pc = .ok (.lstore 15, 2)) (hq : pc + 2 = q) (hk : xk v14 = none) (hn : 15 + 1 < M.2.2.1) (k : En z (d + 1) M Q q (v0 :: v1 :: v2 :: v3 :: v4 :: v5 :: v6 :: v7 :: v8 :: v9 :: v10 :: v11 :: v12 :: v13 :: none :: some (.long x) :: none :: r) st c L) : En z (d + 1) M Q pc (v0 :: v1 :: v2 :: v3 :: v4 :: v5 :: v6 :: v7 :: v8 :: v9 :: v10 :: v11 :: v12 :: v13 :: v14 :: v15 :: u :: r) (.long x :: st) c L := by
  subst hq
  have e : (v0 :: v1 :: v2 :: v3 :: v4 :: v5 :: v6 :: v7 :: v8 :: v9 :: v10 :: v11 :: v12 :: v13 :: xk v14 :: some (.long x) :: none :: r : xLoc) = v0 :: v1 :: v2 :: v3 :: v4 :: v5 :: v6 :: v7 :: v8 :: v9 :: v10 :: v11 :: v12 :: v13 :: none :: some (.long x) :: none :: r := by rw [hk]
  rw [← e] at k; exact e_lstore h0 hn k
theorem r_istore16 {z : xZ} {d : Nat} {M : xMI} {Q : tQ} {pc : Nat} {st : List Value} {c : tC} {L : tL} {v0 v1 v2 v3 v4 v5 v6 v7 v8 v9 v10 v11 v12 v13 v14 v15 v16 : Option Value} {r : xLoc} {x : Int32} (q : Nat) (h0 : decode M.2.1 pc = .ok (.istore 16, 2)) (hq : pc + 2 = q) (hk : xk v15 = v15) (hn : 16 < M.2.2.1) (k : En z (d + 1) M Q q (v0 :: v1 :: v2 :: v3 :: v4 :: v5 :: v6 :: v7 :: v8 :: v9 :: v10 :: v11 :: v12 :: v13 :: v14 :: v15 :: some (.int x) :: r) st c L) : En z (d + 1) M Q pc (v0 :: v1 :: v2 :: v3 :: v4 :: v5 :: v6 :: v7 :: v8 :: v9 :: v10 :: v11 :: v12 :: v13 :: v14 :: v15 :: v16 :: r) (.int x :: st) c L := by
  subst hq
  have e : (v0 :: v1 :: v2 :: v3 :: v4 :: v5 :: v6 :: v7 :: v8 :: v9 :: v10 :: v11 :: v12 :: v13 :: v14 :: xk v15 :: some (.int x) :: r : xLoc) = v0 :: v1 :: v2 :: v3 :: v4 :: v5 :: v6 :: v7 :: v8 :: v9 :: v10 :: v11 :: v12 :: v13 :: v14 :: v15 :: some (.int x) :: r := by rw [hk]
  rw [← e] at k; exact e_istore h0 hn k
theorem r_astore16 {z : xZ} {d : Nat} {M : xMI} {Q : tQ} {pc : Nat} {st : List Value} {c : tC} {L : tL} {v0 v1 v2 v3 v4 v5 v6 v7 v8 v9 v10 v11 v12 v13 v14 v15 v16 : Option Value} {r : xLoc} {x : Nat} (q : Nat) (h0 : decode M.2.1 pc = .ok (.astore 16, 2)) (hq : pc + 2 = q) (hk : xk v15 = v15) (hn : 16 < M.2.2.1) (k : En z (d + 1) M Q q (v0 :: v1 :: v2 :: v3 :: v4 :: v5 :: v6 :: v7 :: v8 :: v9 :: v10 :: v11 :: v12 :: v13 :: v14 :: v15 :: some (.ref x) :: r) st c L) : En z (d + 1) M Q pc (v0 :: v1 :: v2 :: v3 :: v4 :: v5 :: v6 :: v7 :: v8 :: v9 :: v10 :: v11 :: v12 :: v13 :: v14 :: v15 :: v16 :: r) (.ref x :: st) c L := by
  subst hq
  have e : (v0 :: v1 :: v2 :: v3 :: v4 :: v5 :: v6 :: v7 :: v8 :: v9 :: v10 :: v11 :: v12 :: v13 :: v14 :: xk v15 :: some (.ref x) :: r : xLoc) = v0 :: v1 :: v2 :: v3 :: v4 :: v5 :: v6 :: v7 :: v8 :: v9 :: v10 :: v11 :: v12 :: v13 :: v14 :: v15 :: some (.ref x) :: r := by rw [hk]
  rw [← e] at k; exact e_astore h0 hn k
theorem r_iinc16 {z : xZ} {d : Nat} {M : xMI} {Q : tQ} {pc : Nat} {st : List Value} {c : tC} {L : tL} {v0 v1 v2 v3 v4 v5 v6 v7 v8 v9 v10 v11 v12 v13 v14 v15 : Option Value} {r : xLoc} {a n : Int} (q : Nat) (h0 : decode M.2.1 pc = .ok (.iinc 16 n, 3)) (hq : pc + 3 = q) (hk : xk v15 = v15) (hn : 16 < M.2.2.1) (k : En z (d + 1) M Q q (v0 :: v1 :: v2 :: v3 :: v4 :: v5 :: v6 :: v7 :: v8 :: v9 :: v10 :: v11 :: v12 :: v13 :: v14 :: v15 :: some (.int (iI (a + n))) :: r) st c L) : En z (d + 1) M Q pc (v0 :: v1 :: v2 :: v3 :: v4 :: v5 :: v6 :: v7 :: v8 :: v9 :: v10 :: v11 :: v12 :: v13 :: v14 :: v15 :: some (.int (iI a)) :: r) st c L := by
  subst hq
  have e : (v0 :: v1 :: v2 :: v3 :: v4 :: v5 :: v6 :: v7 :: v8 :: v9 :: v10 :: v11 :: v12 :: v13 :: v14 :: xk v15 :: some (.int (iI (a + n))) :: r : xLoc) = v0 :: v1 :: v2 :: v3 :: v4 :: v5 :: v6 :: v7 :: v8 :: v9 :: v10 :: v11 :: v12 :: v13 :: v14 :: v15 :: some (.int (iI (a + n))) :: r := by rw [hk]
  rw [← e] at k; rw [← iI_add] at k
  exact e_iinc h0 rfl hn k
theorem r_lstore16 {z : xZ} {d : Nat} {M : xMI} {Q : tQ} {pc : Nat} {st : List Value} {c : tC} {L : tL} {v0 v1 v2 v3 v4 v5 v6 v7 v8 v9 v10 v11 v12 v13 v14 v15 v16 u : Option Value} {r : xLoc} {x : Int64} (q : Nat) (h0 : decode M.2.1 pc = .ok (.lstore 16, 2)) (hq : pc + 2 = q) (hk : xk v15 = v15) (hn : 16 + 1 < M.2.2.1) (k : En z (d + 1) M Q q (v0 :: v1 :: v2 :: v3 :: v4 :: v5 :: v6 :: v7 :: v8 :: v9 :: v10 :: v11 :: v12 :: v13 :: v14 :: v15 :: some (.long x) :: none :: r) st c L) : En z (d + 1) M Q pc (v0 :: v1 :: v2 :: v3 :: v4 :: v5 :: v6 :: v7 :: v8 :: v9 :: v10 :: v11 :: v12 :: v13 :: v14 :: v15 :: v16 :: u :: r) (.long x :: st) c L := by
  subst hq
  have e : (v0 :: v1 :: v2 :: v3 :: v4 :: v5 :: v6 :: v7 :: v8 :: v9 :: v10 :: v11 :: v12 :: v13 :: v14 :: xk v15 :: some (.long x) :: none :: r : xLoc) = v0 :: v1 :: v2 :: v3 :: v4 :: v5 :: v6 :: v7 :: v8 :: v9 :: v10 :: v11 :: v12 :: v13 :: v14 :: v15 :: some (.long x) :: none :: r := by rw [hk]
  rw [← e] at k; exact e_lstore h0 hn k
theorem r_istoreK16 {z : xZ} {d : Nat} {M : xMI} {Q : tQ} {pc : Nat} {st : List Value} {c : tC} {L : tL} {v0 v1 v2 v3 v4 v5 v6 v7 v8 v9 v10 v11 v12 v13 v14 v15 v16 : Option Value} {r : xLoc} {x : Int32} (q : Nat) (h0 : decode M.2.1 pc = .ok (.istore 16, 2)) (hq : pc + 2 = q) (hk : xk v15 = none) (hn : 16 < M.2.2.1) (k : En z (d + 1) M Q q (v0 :: v1 :: v2 :: v3 :: v4 :: v5 :: v6 :: v7 :: v8 :: v9 :: v10 :: v11 :: v12 :: v13 :: v14 :: none :: some (.int x) :: r) st c L) : En z (d + 1) M Q pc (v0 :: v1 :: v2 :: v3 :: v4 :: v5 :: v6 :: v7 :: v8 :: v9 :: v10 :: v11 :: v12 :: v13 :: v14 :: v15 :: v16 :: r) (.int x :: st) c L := by
  subst hq
  have e : (v0 :: v1 :: v2 :: v3 :: v4 :: v5 :: v6 :: v7 :: v8 :: v9 :: v10 :: v11 :: v12 :: v13 :: v14 :: xk v15 :: some (.int x) :: r : xLoc) = v0 :: v1 :: v2 :: v3 :: v4 :: v5 :: v6 :: v7 :: v8 :: v9 :: v10 :: v11 :: v12 :: v13 :: v14 :: none :: some (.int x) :: r := by rw [hk]
  rw [← e] at k; exact e_istore h0 hn k
theorem r_astoreK16 {z : xZ} {d : Nat} {M : xMI} {Q : tQ} {pc : Nat} {st : List Value} {c : tC} {L : tL} {v0 v1 v2 v3 v4 v5 v6 v7 v8 v9 v10 v11 v12 v13 v14 v15 v16 : Option Value} {r : xLoc} {x : Nat} (q : Nat) (h0 : decode M.2.1 pc = .ok (.astore 16, 2)) (hq : pc + 2 = q) (hk : xk v15 = none) (hn : 16 < M.2.2.1) (k : En z (d + 1) M Q q (v0 :: v1 :: v2 :: v3 :: v4 :: v5 :: v6 :: v7 :: v8 :: v9 :: v10 :: v11 :: v12 :: v13 :: v14 :: none :: some (.ref x) :: r) st c L) : En z (d + 1) M Q pc (v0 :: v1 :: v2 :: v3 :: v4 :: v5 :: v6 :: v7 :: v8 :: v9 :: v10 :: v11 :: v12 :: v13 :: v14 :: v15 :: v16 :: r) (.ref x :: st) c L := by
  subst hq
  have e : (v0 :: v1 :: v2 :: v3 :: v4 :: v5 :: v6 :: v7 :: v8 :: v9 :: v10 :: v11 :: v12 :: v13 :: v14 :: xk v15 :: some (.ref x) :: r : xLoc) = v0 :: v1 :: v2 :: v3 :: v4 :: v5 :: v6 :: v7 :: v8 :: v9 :: v10 :: v11 :: v12 :: v13 :: v14 :: none :: some (.ref x) :: r := by rw [hk]
  rw [← e] at k; exact e_astore h0 hn k
theorem r_iincK16 {z : xZ} {d : Nat} {M : xMI} {Q : tQ} {pc : Nat} {st : List Value} {c : tC} {L : tL} {v0 v1 v2 v3 v4 v5 v6 v7 v8 v9 v10 v11 v12 v13 v14 v15 : Option Value} {r : xLoc} {a n : Int} (q : Nat) (h0 : decode M.2.1 pc = .ok (.iinc 16 n, 3)) (hq : pc + 3 = q) (hk : xk v15 = none) (hn : 16 < M.2.2.1) (k : En z (d + 1) M Q q (v0 :: v1 :: v2 :: v3 :: v4 :: v5 :: v6 :: v7 :: v8 :: v9 :: v10 :: v11 :: v12 :: v13 :: v14 :: none :: some (.int (iI (a + n))) :: r) st c L) : En z (d + 1) M Q pc (v0 :: v1 :: v2 :: v3 :: v4 :: v5 :: v6 :: v7 :: v8 :: v9 :: v10 :: v11 :: v12 :: v13 :: v14 :: v15 :: some (.int (iI a)) :: r) st c L := by
  subst hq
  have e : (v0 :: v1 :: v2 :: v3 :: v4 :: v5 :: v6 :: v7 :: v8 :: v9 :: v10 :: v11 :: v12 :: v13 :: v14 :: xk v15 :: some (.int (iI (a + n))) :: r : xLoc) = v0 :: v1 :: v2 :: v3 :: v4 :: v5 :: v6 :: v7 :: v8 :: v9 :: v10 :: v11 :: v12 :: v13 :: v14 :: none :: some (.int (iI (a + n))) :: r := by rw [hk]
  rw [← e] at k; rw [← iI_add] at k
  exact e_iinc h0 rfl hn k
theorem r_lstoreK16 {z : xZ} {d : Nat} {M : xMI} {Q : tQ} {pc : Nat} {st : List Value} {c : tC} {L : tL} {v0 v1 v2 v3 v4 v5 v6 v7 v8 v9 v10 v11 v12 v13 v14 v15 v16 u : Option Value} {r : xLoc} {x : Int64} (q : Nat) (h0 : decode M.2.1 pc = .ok (.lstore 16, 2)) (hq : pc + 2 = q) (hk : xk v15 = none) (hn : 16 + 1 < M.2.2.1) (k : En z (d + 1) M Q q (v0 :: v1 :: v2 :: v3 :: v4 :: v5 :: v6 :: v7 :: v8 :: v9 :: v10 :: v11 :: v12 :: v13 :: v14 :: none :: some (.long x) :: none :: r) st c L) : En z (d + 1) M Q pc (v0 :: v1 :: v2 :: v3 :: v4 :: v5 :: v6 :: v7 :: v8 :: v9 :: v10 :: v11 :: v12 :: v13 :: v14 :: v15 :: v16 :: u :: r) (.long x :: st) c L := by
  subst hq
  have e : (v0 :: v1 :: v2 :: v3 :: v4 :: v5 :: v6 :: v7 :: v8 :: v9 :: v10 :: v11 :: v12 :: v13 :: v14 :: xk v15 :: some (.long x) :: none :: r : xLoc) = v0 :: v1 :: v2 :: v3 :: v4 :: v5 :: v6 :: v7 :: v8 :: v9 :: v10 :: v11 :: v12 :: v13 :: v14 :: none :: some (.long x) :: none :: r := by rw [hk]
  rw [← e] at k; exact e_lstore h0 hn k
theorem r_istore17 {z : xZ} {d : Nat} {M : xMI} {Q : tQ} {pc : Nat} {st : List Value} {c : tC} {L : tL} {v0 v1 v2 v3 v4 v5 v6 v7 v8 v9 v10 v11 v12 v13 v14 v15 v16 v17 : Option Value} {r : xLoc} {x : Int32} (q : Nat) (h0 : decode M.2.1 pc = .ok (.istore 17, 2)) (hq : pc + 2 = q) (hk : xk v16 = v16) (hn : 17 < M.2.2.1) (k : En z (d + 1) M Q q (v0 :: v1 :: v2 :: v3 :: v4 :: v5 :: v6 :: v7 :: v8 :: v9 :: v10 :: v11 :: v12 :: v13 :: v14 :: v15 :: v16 :: some (.int x) :: r) st c L) : En z (d + 1) M Q pc (v0 :: v1 :: v2 :: v3 :: v4 :: v5 :: v6 :: v7 :: v8 :: v9 :: v10 :: v11 :: v12 :: v13 :: v14 :: v15 :: v16 :: v17 :: r) (.int x :: st) c L := by
  subst hq
  have e : (v0 :: v1 :: v2 :: v3 :: v4 :: v5 :: v6 :: v7 :: v8 :: v9 :: v10 :: v11 :: v12 :: v13 :: v14 :: v15 :: xk v16 :: some (.int x) :: r : xLoc) = v0 :: v1 :: v2 :: v3 :: v4 :: v5 :: v6 :: v7 :: v8 :: v9 :: v10 :: v11 :: v12 :: v13 :: v14 :: v15 :: v16 :: some (.int x) :: r := by rw [hk]
  rw [← e] at k; exact e_istore h0 hn k
theorem r_astore17 {z : xZ} {d : Nat} {M : xMI} {Q : tQ} {pc : Nat} {st : List Value} {c : tC} {L : tL} {v0 v1 v2 v3 v4 v5 v6 v7 v8 v9 v10 v11 v12 v13 v14 v15 v16 v17 : Option Value} {r : xLoc} {x : Nat} (q : Nat) (h0 : decode M.2.1 pc = .ok (.astore 17, 2)) (hq : pc + 2 = q) (hk : xk v16 = v16) (hn : 17 < M.2.2.1) (k : En z (d + 1) M Q q (v0 :: v1 :: v2 :: v3 :: v4 :: v5 :: v6 :: v7 :: v8 :: v9 :: v10 :: v11 :: v12 :: v13 :: v14 :: v15 :: v16 :: some (.ref x) :: r) st c L) : En z (d + 1) M Q pc (v0 :: v1 :: v2 :: v3 :: v4 :: v5 :: v6 :: v7 :: v8 :: v9 :: v10 :: v11 :: v12 :: v13 :: v14 :: v15 :: v16 :: v17 :: r) (.ref x :: st) c L := by
  subst hq
  have e : (v0 :: v1 :: v2 :: v3 :: v4 :: v5 :: v6 :: v7 :: v8 :: v9 :: v10 :: v11 :: v12 :: v13 :: v14 :: v15 :: xk v16 :: some (.ref x) :: r : xLoc) = v0 :: v1 :: v2 :: v3 :: v4 :: v5 :: v6 :: v7 :: v8 :: v9 :: v10 :: v11 :: v12 :: v13 :: v14 :: v15 :: v16 :: some (.ref x) :: r := by rw [hk]
  rw [← e] at k; exact e_astore h0 hn k
theorem r_iinc17 {z : xZ} {d : Nat} {M : xMI} {Q : tQ} {pc : Nat} {st : List Value} {c : tC} {L : tL} {v0 v1 v2 v3 v4 v5 v6 v7 v8 v9 v10 v11 v12 v13 v14 v15 v16 : Option Value} {r : xLoc} {a n : Int} (q : Nat) (h0 : decode M.2.1 pc = .ok (.iinc 17 n, 3)) (hq : pc + 3 = q) (hk : xk v16 = v16) (hn : 17 < M.2.2.1) (k : En z (d + 1) M Q q (v0 :: v1 :: v2 :: v3 :: v4 :: v5 :: v6 :: v7 :: v8 :: v9 :: v10 :: v11 :: v12 :: v13 :: v14 :: v15 :: v16 :: some (.int (iI (a + n))) :: r) st c L) : En z (d + 1) M Q pc (v0 :: v1 :: v2 :: v3 :: v4 :: v5 :: v6 :: v7 :: v8 :: v9 :: v10 :: v11 :: v12 :: v13 :: v14 :: v15 :: v16 :: some (.int (iI a)) :: r) st c L := by
  subst hq
  have e : (v0 :: v1 :: v2 :: v3 :: v4 :: v5 :: v6 :: v7 :: v8 :: v9 :: v10 :: v11 :: v12 :: v13 :: v14 :: v15 :: xk v16 :: some (.int (iI (a + n))) :: r : xLoc) = v0 :: v1 :: v2 :: v3 :: v4 :: v5 :: v6 :: v7 :: v8 :: v9 :: v10 :: v11 :: v12 :: v13 :: v14 :: v15 :: v16 :: some (.int (iI (a + n))) :: r := by rw [hk]
  rw [← e] at k; rw [← iI_add] at k
  exact e_iinc h0 rfl hn k
theorem r_lstore17 {z : xZ} {d : Nat} {M : xMI} {Q : tQ} {pc : Nat} {st : List Value} {c : tC} {L : tL} {v0 v1 v2 v3 v4 v5 v6 v7 v8 v9 v10 v11 v12 v13 v14 v15 v16 v17 u : Option Value} {r : xLoc} {x : Int64} (q : Nat) (h0 : decode M.2.1 pc = .ok (.lstore 17, 2)) (hq : pc + 2 = q) (hk : xk v16 = v16) (hn : 17 + 1 < M.2.2.1) (k : En z (d + 1) M Q q (v0 :: v1 :: v2 :: v3 :: v4 :: v5 :: v6 :: v7 :: v8 :: v9 :: v10 :: v11 :: v12 :: v13 :: v14 :: v15 :: v16 :: some (.long x) :: none :: r) st c L) : En z (d + 1) M Q pc (v0 :: v1 :: v2 :: v3 :: v4 :: v5 :: v6 :: v7 :: v8 :: v9 :: v10 :: v11 :: v12 :: v13 :: v14 :: v15 :: v16 :: v17 :: u :: r) (.long x :: st) c L := by
  subst hq
  have e : (v0 :: v1 :: v2 :: v3 :: v4 :: v5 :: v6 :: v7 :: v8 :: v9 :: v10 :: v11 :: v12 :: v13 :: v14 :: v15 :: xk v16 :: some (.long x) :: none :: r : xLoc) = v0 :: v1 :: v2 :: v3 :: v4 :: v5 :: v6 :: v7 :: v8 :: v9 :: v10 :: v11 :: v12 :: v13 :: v14 :: v15 :: v16 :: some (.long x) :: none :: r := by rw [hk]
  rw [← e] at k; exact e_lstore h0 hn k
theorem r_istoreK17 {z : xZ} {d : Nat} {M : xMI} {Q : tQ} {pc : Nat} {st : List Value} {c : tC} {L : tL} {v0 v1 v2 v3 v4 v5 v6 v7 v8 v9 v10 v11 v12 v13 v14 v15 v16 v17 : Option Value} {r : xLoc} {x : Int32} (q : Nat) (h0 : decode M.2.1 pc = .ok (.istore 17, 2)) (hq : pc + 2 = q) (hk : xk v16 = none) (hn : 17 < M.2.2.1) (k : En z (d + 1) M Q q (v0 :: v1 :: v2 :: v3 :: v4 :: v5 :: v6 :: v7 :: v8 :: v9 :: v10 :: v11 :: v12 :: v13 :: v14 :: v15 :: none :: some (.int x) :: r) st c L) : En z (d + 1) M Q pc (v0 :: v1 :: v2 :: v3 :: v4 :: v5 :: v6 :: v7 :: v8 :: v9 :: v10 :: v11 :: v12 :: v13 :: v14 :: v15 :: v16 :: v17 :: r) (.int x :: st) c L := by
  subst hq
  have e : (v0 :: v1 :: v2 :: v3 :: v4 :: v5 :: v6 :: v7 :: v8 :: v9 :: v10 :: v11 :: v12 :: v13 :: v14 :: v15 :: xk v16 :: some (.int x) :: r : xLoc) = v0 :: v1 :: v2 :: v3 :: v4 :: v5 :: v6 :: v7 :: v8 :: v9 :: v10 :: v11 :: v12 :: v13 :: v14 :: v15 :: none :: some (.int x) :: r := by rw [hk]
  rw [← e] at k; exact e_istore h0 hn k
theorem r_astoreK17 {z : xZ} {d : Nat} {M : xMI} {Q : tQ} {pc : Nat} {st : List Value} {c : tC} {L : tL} {v0 v1 v2 v3 v4 v5 v6 v7 v8 v9 v10 v11 v12 v13 v14 v15 v16 v17 : Option Value} {r : xLoc} {x : Nat} (q : Nat) (h0 : decode M.2.1 pc = .ok (.astore 17, 2)) (hq : pc + 2 = q) (hk : xk v16 = none) (hn : 17 < M.2.2.1) (k : En z (d + 1) M Q q (v0 :: v1 :: v2 :: v3 :: v4 :: v5 :: v6 :: v7 :: v8 :: v9 :: v10 :: v11 :: v12 :: v13 :: v14 :: v15 :: none :: some (.ref x) :: r) st c L) : En z (d + 1) M Q pc (v0 :: v1 :: v2 :: v3 :: v4 :: v5 :: v6 :: v7 :: v8 :: v9 :: v10 :: v11 :: v12 :: v13 :: v14 :: v15 :: v16 :: v17 :: r) (.ref x :: st) c L := by
  subst hq
  have e : (v0 :: v1 :: v2 :: v3 :: v4 :: v5 :: v6 :: v7 :: v8 :: v9 :: v10 :: v11 :: v12 :: v13 :: v14 :: v15 :: xk v16 :: some (.ref x) :: r : xLoc) = v0 :: v1 :: v2 :: v3 :: v4 :: v5 :: v6 :: v7 :: v8 :: v9 :: v10 :: v11 :: v12 :: v13 :: v14 :: v15 :: none :: some (.ref x) :: r := by rw [hk]
  rw [← e] at k; exact e_astore h0 hn k
theorem r_iincK17 {z : xZ} {d : Nat} {M : xMI} {Q : tQ} {pc : Nat} {st : List Value} {c : tC} {L : tL} {v0 v1 v2 v3 v4 v5 v6 v7 v8 v9 v10 v11 v12 v13 v14 v15 v16 : Option Value} {r : xLoc} {a n : Int} (q : Nat) (h0 : decode M.2.1 pc = .ok (.iinc 17 n, 3)) (hq : pc + 3 = q) (hk : xk v16 = none) (hn : 17 < M.2.2.1) (k : En z (d + 1) M Q q (v0 :: v1 :: v2 :: v3 :: v4 :: v5 :: v6 :: v7 :: v8 :: v9 :: v10 :: v11 :: v12 :: v13 :: v14 :: v15 :: none :: some (.int (iI (a + n))) :: r) st c L) : En z (d + 1) M Q pc (v0 :: v1 :: v2 :: v3 :: v4 :: v5 :: v6 :: v7 :: v8 :: v9 :: v10 :: v11 :: v12 :: v13 :: v14 :: v15 :: v16 :: some (.int (iI a)) :: r) st c L := by
  subst hq
  have e : (v0 :: v1 :: v2 :: v3 :: v4 :: v5 :: v6 :: v7 :: v8 :: v9 :: v10 :: v11 :: v12 :: v13 :: v14 :: v15 :: xk v16 :: some (.int (iI (a + n))) :: r : xLoc) = v0 :: v1 :: v2 :: v3 :: v4 :: v5 :: v6 :: v7 :: v8 :: v9 :: v10 :: v11 :: v12 :: v13 :: v14 :: v15 :: none :: some (.int (iI (a + n))) :: r := by rw [hk]
  rw [← e] at k; rw [← iI_add] at k
  exact e_iinc h0 rfl hn k
theorem r_lstoreK17 {z : xZ} {d : Nat} {M : xMI} {Q : tQ} {pc : Nat} {st : List Value} {c : tC} {L : tL} {v0 v1 v2 v3 v4 v5 v6 v7 v8 v9 v10 v11 v12 v13 v14 v15 v16 v17 u : Option Value} {r : xLoc} {x : Int64} (q : Nat) (h0 : decode M.2.1 pc = .ok (.lstore 17, 2)) (hq : pc + 2 = q) (hk : xk v16 = none) (hn : 17 + 1 < M.2.2.1) (k : En z (d + 1) M Q q (v0 :: v1 :: v2 :: v3 :: v4 :: v5 :: v6 :: v7 :: v8 :: v9 :: v10 :: v11 :: v12 :: v13 :: v14 :: v15 :: none :: some (.long x) :: none :: r) st c L) : En z (d + 1) M Q pc (v0 :: v1 :: v2 :: v3 :: v4 :: v5 :: v6 :: v7 :: v8 :: v9 :: v10 :: v11 :: v12 :: v13 :: v14 :: v15 :: v16 :: v17 :: u :: r) (.long x :: st) c L := by
  subst hq
  have e : (v0 :: v1 :: v2 :: v3 :: v4 :: v5 :: v6 :: v7 :: v8 :: v9 :: v10 :: v11 :: v12 :: v13 :: v14 :: v15 :: xk v16 :: some (.long x) :: none :: r : xLoc) = v0 :: v1 :: v2 :: v3 :: v4 :: v5 :: v6 :: v7 :: v8 :: v9 :: v10 :: v11 :: v12 :: v13 :: v14 :: v15 :: none :: some (.long x) :: none :: r := by rw [hk]
  rw [← e] at k; exact e_lstore h0 hn k
theorem r_ifeq {z : xZ} {d : Nat} {M : xMI} {Q : tQ} {pc : Nat} {lo : xLoc} {st : List Value} {c : tC} {L : tL} {a : Int} {off : Int} (tgt : Nat) (q : Nat) (h0 : decode M.2.1 pc = .ok (.ifCond .eq off, 3)) (hq : pc + 3 = q) (ht : (pc : Int) + off = (tgt : Int)) (ha : inR a) (k1 : a = 0 → En z (d + 1) M Q tgt lo st c L) (k2 : ¬ a = 0 → En z (d + 1) M Q q lo st c L) : En z (d + 1) M Q pc lo (.int (iI a) :: st) c L := by
  subst hq
  refine e_ifeq h0 ht (fun e => k1 ?_) (fun e => k2 ?_) <;> rw [show (0 : Int32) = iI 0 from rfl, iI_inj] at e <;> first | assumption | omega | exact ha | exact inR_lit0
theorem r_iceq {z : xZ} {d : Nat} {M : xMI} {Q : tQ} {pc : Nat} {lo : xLoc} {st : List Value} {c : tC} {L : tL} {a b : Int} {off : Int} (tgt : Nat) (q : Nat) (h0 : decode M.2.1 pc = .ok (.if_icmp .eq off, 3)) (hq : pc + 3 = q) (ht : (pc : Int) + off = (tgt : Int)) (ha : inR a) (hb : inR b) (k1 : a = b → En z (d + 1) M Q tgt lo st c L) (k2 : ¬ a = b → En z (d + 1) M Q q lo st c L) : En z (d + 1) M Q pc lo (.int (iI b) :: .int (iI a) :: st) c L := by
  subst hq
  refine e_iceq h0 ht (fun e => k1 ?_) (fun e => k2 ?_) <;> rw [iI_inj] at e <;> first | assumption | omega
theorem r_ifeqT {z : xZ} {d : Nat} {M : xMI} {Q : tQ} {pc : Nat} {lo : xLoc} {st : List Value} {c : tC} {L : tL} {a : Int} {off : Int} (tgt : Nat) (q : Nat) (h0 : decode M.2.1 pc = .ok (.ifCond .eq off, 3)) (ht : (pc : Int) + off = (tgt : Int)) (ha : inR a) (h : a = 0) (k1 : En z (d + 1) M Q tgt lo st c L) : En z (d + 1) M Q pc lo (.int (iI a) :: st) c L := by
  exact r_ifeq tgt (pc + 3) h0 rfl ht ha (fun _ => k1) (fun e => by omega)
theorem r_ifeqF {z : xZ} {d : Nat} {M : xMI} {Q : tQ} {pc : Nat} {lo : xLoc} {st : List Value} {c : tC} {L : tL} {a : Int} {off : Int} (q : Nat) (h0 : decode M.2.1 pc = .ok (.ifCond .eq off, 3)) (hq : pc + 3 = q) (tgt : Nat) (ht : (pc : Int) + off = (tgt : Int)) (ha : inR a) (h : ¬ a = 0) (k2 : En z (d + 1) M Q q lo st c L) : En z (d + 1) M Q pc lo (.int (iI a) :: st) c L := by
  exact r_ifeq tgt q h0 hq ht ha (fun e => by omega) (fun _ => k2)
theorem r_ifne {z : xZ} {d : Nat} {M : xMI} {Q : tQ} {pc : Nat} {lo : xLoc} {st : List Value} {c : tC} {L : tL} {a : Int} {off : Int} (tgt : Nat) (q : Nat) (h0 : decode M.2.1 pc = .ok (.ifCond .ne off, 3)) (hq : pc + 3 = q) (ht : (pc : Int) + off = (tgt : Int)) (ha : inR a) (k1 : ¬ a = 0 → En z (d + 1) M Q tgt lo st c L) (k2 : a = 0 → En z (d + 1) M Q q lo st c L) : En z (d + 1) M Q pc lo (.int (iI a) :: st) c L := by
  subst hq
  refine e_ifne h0 ht (fun e => k1 ?_) (fun e => k2 ?_) <;> rw [show (0 : Int32) = iI 0 from rfl, iI_inj] at e <;> first | assumption | omega | exact ha | exact inR_lit0
theorem r_icne {z : xZ} {d : Nat} {M : xMI} {Q : tQ} {pc : Nat} {lo : xLoc} {st : List Value} {c : tC} {L : tL} {a b : Int} {off : Int} (tgt : Nat) (q : Nat) (h0 : decode M.2.1 pc = .ok (.if_icmp .ne off, 3)) (hq : pc + 3 = q) (ht : (pc : Int) + off = (tgt : Int)) (ha : inR a) (hb : inR b) (k1 : ¬ a = b → En z (d + 1) M Q tgt lo st c L) (k2 : a = b → En z (d + 1) M Q q lo st c L) : En z (d + 1) M Q pc lo (.int (iI b) :: .int (iI a) :: st) c L := by
  subst hq
  refine e_icne h0 ht (fun e => k1 ?_) (fun e => k2 ?_) <;> rw [iI_inj] at e <;> first | assumption | omega
theorem r_ifneT {z : xZ} {d : Nat} {M : xMI} {Q : tQ} {pc : Nat} {lo : xLoc} {st : List Value} {c : tC} {L : tL} {a : Int} {off : Int} (tgt : Nat) (q : Nat) (h0 : decode M.2.1 pc = .ok (.ifCond .ne off, 3)) (ht : (pc : Int) + off = (tgt : Int)) (ha : inR a) (h : ¬ a = 0) (k1 : En z (d + 1) M Q tgt lo st c L) : En z (d + 1) M Q pc lo (.int (iI a) :: st) c L := by
  exact r_ifne tgt (pc + 3) h0 rfl ht ha (fun _ => k1) (fun e => by omega)
theorem r_ifneF {z : xZ} {d : Nat} {M : xMI} {Q : tQ} {pc : Nat} {lo : xLoc} {st : List Value} {c : tC} {L : tL} {a : Int} {off : Int} (q : Nat) (h0 : decode M.2.1 pc = .ok (.ifCond .ne off, 3)) (hq : pc + 3 = q) (tgt : Nat) (ht : (pc : Int) + off = (tgt : Int)) (ha : inR a) (h : a = 0) (k2 : En z (d + 1) M Q q lo st c L) : En z (d + 1) M Q pc lo (.int (iI a) :: st) c L := by
  exact r_ifne tgt q h0 hq ht ha (fun e => by omega) (fun _ => k2)
theorem r_iflt {z : xZ} {d : Nat} {M : xMI} {Q : tQ} {pc : Nat} {lo : xLoc} {st : List Value} {c : tC} {L : tL} {a : Int} {off : Int} (tgt : Nat) (q : Nat) (h0 : decode M.2.1 pc = .ok (.ifCond .lt off, 3)) (hq : pc + 3 = q) (ht : (pc : Int) + off = (tgt : Int)) (ha : inR a) (k1 : a < 0 → En z (d + 1) M Q tgt lo st c L) (k2 : 0 ≤ a → En z (d + 1) M Q q lo st c L) : En z (d + 1) M Q pc lo (.int (iI a) :: st) c L := by
  subst hq
  refine e_iflt h0 ht (fun e => k1 ?_) (fun e => k2 ?_) <;> rw [show (0 : Int32) = iI 0 from rfl, iI_lt] at e <;> first | assumption | omega | exact ha | exact inR_lit0
theorem r_iclt {z : xZ} {d : Nat} {M : xMI} {Q : tQ} {pc : Nat} {lo : xLoc} {st : List Value} {c : tC} {L : tL} {a b : Int} {off : Int} (tgt : Nat) (q : Nat) (h0 : decode M.2.1 pc = .ok (.if_icmp .lt off, 3)) (hq : pc + 3 = q) (ht : (pc : Int) + off = (tgt : Int)) (ha : inR a) (hb : inR b) (k1 : a < b → En z (d + 1) M Q tgt lo st c L) (k2 : b ≤ a → En z (d + 1) M Q q lo st c L) : En z (d + 1) M Q pc lo (.int (iI b) :: .int (iI a) :: st) c L := by
  subst hq
  refine e_iclt h0 ht (fun e => k1 ?_) (fun e => k2 ?_) <;> rw [iI_lt] at e <;> first | assumption | omega
theorem r_ifltT {z : xZ} {d : Nat} {M : xMI} {Q : tQ} {pc : Nat} {lo : xLoc} {st : List Value} {c : tC} {L : tL} {a : Int} {off : Int} (tgt : Nat) (q : Nat) (h0 : decode M.2.1 pc = .ok (.ifCond .lt off, 3)) (ht : (pc : Int) + off = (tgt : Int)) (ha : inR a) (h : a < 0) (k1 : En z (d + 1) M Q tgt lo st c L) : En z (d + 1) M Q pc lo (.int (iI a) :: st) c L := by
  exact r_iflt tgt (pc + 3) h0 rfl ht ha (fun _ => k1) (fun e => by omega)
theorem r_ifltF {z : xZ} {d : Nat} {M : xMI} {Q : tQ} {pc : Nat} {lo : xLoc} {st : List Value} {c : tC} {L : tL} {a : Int} {off : Int} (q : Nat) (h0 : decode M.2.1 pc = .ok (.ifCond .lt off, 3)) (hq : pc + 3 = q) (tgt : Nat) (ht : (pc : Int) + off = (tgt : Int)) (ha : inR a) (h : 0 ≤ a) (k2 : En z (d + 1) M Q q lo st c L) : En z (d + 1) M Q pc lo (.int (iI a) :: st) c L := by
  exact r_iflt tgt q h0 hq ht ha (fun e => by omega) (fun _ => k2)
theorem r_ifge {z : xZ} {d : Nat} {M : xMI} {Q : tQ} {pc : Nat} {lo : xLoc} {st : List Value} {c : tC} {L : tL} {a : Int} {off : Int} (tgt : Nat) (q : Nat) (h0 : decode M.2.1 pc = .ok (.ifCond .ge off, 3)) (hq : pc + 3 = q) (ht : (pc : Int) + off = (tgt : Int)) (ha : inR a) (k1 : 0 ≤ a → En z (d + 1) M Q tgt lo st c L) (k2 : a < 0 → En z (d + 1) M Q q lo st c L) : En z (d + 1) M Q pc lo (.int (iI a) :: st) c L := by
  subst hq
  refine e_ifge h0 ht (fun e => k1 ?_) (fun e => k2 ?_) <;> rw [show (0 : Int32) = iI 0 from rfl, iI_le] at e <;> first | assumption | omega | exact ha | exact inR_lit0
theorem r_icge {z : xZ} {d : Nat} {M : xMI} {Q : tQ} {pc : Nat} {lo : xLoc} {st : List Value} {c : tC} {L : tL} {a b : Int} {off : Int} (tgt : Nat) (q : Nat) (h0 : decode M.2.1 pc = .ok (.if_icmp .ge off, 3)) (hq : pc + 3 = q) (ht : (pc : Int) + off = (tgt : Int)) (ha : inR a) (hb : inR b) (k1 : b ≤ a → En z (d + 1) M Q tgt lo st c L) (k2 : a < b → En z (d + 1) M Q q lo st c L) : En z (d + 1) M Q pc lo (.int (iI b) :: .int (iI a) :: st) c L := by
  subst hq
  refine e_icge h0 ht (fun e => k1 ?_) (fun e => k2 ?_) <;> rw [iI_le] at e <;> first | assumption | omega
theorem r_ifgeT {z : xZ} {d : Nat} {M : xMI} {Q : tQ} {pc : Nat} {lo : xLoc} {st : List Value} {c : tC} {L : tL} {a : Int} {off : Int} (tgt : Nat) (q : Nat) (h0 : decode M.2.1 pc = .ok (.ifCond .ge off, 3)) (ht : (pc : Int) + off = (tgt : Int)) (ha : inR a) (h : 0 ≤ a) (k1 : En z (d + 1) M Q tgt lo st c L) : En z (d + 1) M Q pc lo (.int (iI a) :: st) c L := by
  exact r_ifge tgt (pc + 3) h0 rfl ht ha (fun _ => k1) (fun e => by omega)
theorem r_ifgeF {z : xZ} {d : Nat} {M : xMI} {Q : tQ} {pc : Nat} {lo : xLoc} {st : List Value} {c : tC} {L : tL} {a : Int} {off : Int} (q : Nat) (h0 : decode M.2.1 pc = .ok (.ifCond .ge off, 3)) (hq : pc + 3 = q) (tgt : Nat) (ht : (pc : Int) + off = (tgt : Int)) (ha : inR a) (h : a < 0) (k2 : En z (d + 1) M Q q lo st c L) : En z (d + 1) M Q pc lo (.int (iI a) :: st) c L := by
  exact r_ifge tgt q h0 hq ht ha (fun e => by omega) (fun _ => k2)
theorem r_ifgt {z : xZ} {d : Nat} {M : xMI} {Q : tQ} {pc : Nat} {lo : xLoc} {st : List Value} {c : tC} {L : tL} {a : Int} {off : Int} (tgt : Nat) (q : Nat) (h0 : decode M.2.1 pc = .ok (.ifCond .gt off, 3)) (hq : pc + 3 = q) (ht : (pc : Int) + off = (tgt : Int)) (ha : inR a) (k1 : 0 < a → En z (d + 1) M Q tgt lo st c L) (k2 : a ≤ 0 → En z (d + 1) M Q q lo st c L) : En z (d + 1) M Q pc lo (.int (iI a) :: st) c L := by
  subst hq
  refine e_ifgt h0 ht (fun e => k1 ?_) (fun e => k2 ?_) <;> rw [show (0 : Int32) = iI 0 from rfl, iI_lt] at e <;> first | assumption | omega | exact ha | exact inR_lit0
theorem r_icgt {z : xZ} {d : Nat} {M : xMI} {Q : tQ} {pc : Nat} {lo : xLoc} {st : List Value} {c : tC} {L : tL} {a b : Int} {off : Int} (tgt : Nat) (q : Nat) (h0 : decode M.2.1 pc = .ok (.if_icmp .gt off, 3)) (hq : pc + 3 = q) (ht : (pc : Int) + off = (tgt : Int)) (ha : inR a) (hb : inR b) (k1 : b < a → En z (d + 1) M Q tgt lo st c L) (k2 : a ≤ b → En z (d + 1) M Q q lo st c L) : En z (d + 1) M Q pc lo (.int (iI b) :: .int (iI a) :: st) c L := by
  subst hq
  refine e_icgt h0 ht (fun e => k1 ?_) (fun e => k2 ?_) <;> rw [iI_lt] at e <;> first | assumption | omega
theorem r_ifgtT {z : xZ} {d : Nat} {M : xMI} {Q : tQ} {pc : Nat} {lo : xLoc} {st : List Value} {c : tC} {L : tL} {a : Int} {off : Int} (tgt : Nat) (q : Nat) (h0 : decode M.2.1 pc = .ok (.ifCond .gt off, 3)) (ht : (pc : Int) + off = (tgt : Int)) (ha : inR a) (h : 0 < a) (k1 : En z (d + 1) M Q tgt lo st c L) : En z (d + 1) M Q pc lo (.int (iI a) :: st) c L := by
  exact r_ifgt tgt (pc + 3) h0 rfl ht ha (fun _ => k1) (fun e => by omega)
theorem r_ifgtF {z : xZ} {d : Nat} {M : xMI} {Q : tQ} {pc : Nat} {lo : xLoc} {st : List Value} {c : tC} {L : tL} {a : Int} {off : Int} (q : Nat) (h0 : decode M.2.1 pc = .ok (.ifCond .gt off, 3)) (hq : pc + 3 = q) (tgt : Nat) (ht : (pc : Int) + off = (tgt : Int)) (ha : inR a) (h : a ≤ 0) (k2 : En z (d + 1) M Q q lo st c L) : En z (d + 1) M Q pc lo (.int (iI a) :: st) c L := by
  exact r_ifgt tgt q h0 hq ht ha (fun e => by omega) (fun _ => k2)
theorem r_ifle {z : xZ} {d : Nat} {M : xMI} {Q : tQ} {pc : Nat} {lo : xLoc} {st : List Value} {c : tC} {L : tL} {a : Int} {off : Int} (tgt : Nat) (q : Nat) (h0 : decode M.2.1 pc = .ok (.ifCond .le off, 3)) (hq : pc + 3 = q) (ht : (pc : Int) + off = (tgt : Int)) (ha : inR a) (k1 : a ≤ 0 → En z (d + 1) M Q tgt lo st c L) (k2 : 0 < a → En z (d + 1) M Q q lo st c L) : En z (d + 1) M Q pc lo (.int (iI a) :: st) c L := by
  subst hq
  refine e_ifle h0 ht (fun e => k1 ?_) (fun e => k2 ?_) <;> rw [show (0 : Int32) = iI 0 from rfl, iI_le] at e <;> first | assumption | omega | exact ha | exact inR_lit0
theorem r_icle {z : xZ} {d : Nat} {M : xMI} {Q : tQ} {pc : Nat} {lo : xLoc} {st : List Value} {c : tC} {L : tL} {a b : Int} {off : Int} (tgt : Nat) (q : Nat) (h0 : decode M.2.1 pc = .ok (.if_icmp .le off, 3)) (hq : pc + 3 = q) (ht : (pc : Int) + off = (tgt : Int)) (ha : inR a) (hb : inR b) (k1 : a ≤ b → En z (d + 1) M Q tgt lo st c L) (k2 : b < a → En z (d + 1) M Q q lo st c L) : En z (d + 1) M Q pc lo (.int (iI b) :: .int (iI a) :: st) c L := by
  subst hq
  refine e_icle h0 ht (fun e => k1 ?_) (fun e => k2 ?_) <;> rw [iI_le] at e <;> first | assumption | omega
theorem r_ifleT {z : xZ} {d : Nat} {M : xMI} {Q : tQ} {pc : Nat} {lo : xLoc} {st : List Value} {c : tC} {L : tL} {a : Int} {off : Int} (tgt : Nat) (q : Nat) (h0 : decode M.2.1 pc = .ok (.ifCond .le off, 3)) (ht : (pc : Int) + off = (tgt : Int)) (ha : inR a) (h : a ≤ 0) (k1 : En z (d + 1) M Q tgt lo st c L) : En z (d + 1) M Q pc lo (.int (iI a) :: st) c L := by
  exact r_ifle tgt (pc + 3) h0 rfl ht ha (fun _ => k1) (fun e => by omega)
theorem r_ifleF {z : xZ} {d : Nat} {M : xMI} {Q : tQ} {pc : Nat} {lo : xLoc} {st : List Value} {c : tC} {L : tL} {a : Int} {off : Int} (q : Nat) (h0 : decode M.2.1 pc = .ok (.ifCond .le off, 3)) (hq : pc + 3 = q) (tgt : Nat) (ht : (pc : Int) + off = (tgt : Int)) (ha : inR a) (h : 0 < a) (k2 : En z (d + 1) M Q q lo st c L) : En z (d + 1) M Q pc lo (.int (iI a) :: st) c L := by
  exact r_ifle tgt q h0 hq ht ha (fun e => by omega) (fun _ => k2)
theorem r_goto {z : xZ} {d : Nat} {M : xMI} {Q : tQ} {pc : Nat} {lo : xLoc} {st : List Value} {c : tC} {L : tL} {off : Int} (q : Nat) (h0 : decode M.2.1 pc = .ok (.goto off, 3)) (ht : (pc : Int) + off = (q : Int)) (k : En z (d + 1) M Q q lo st c L) : En z (d + 1) M Q pc lo st c L := by
  exact e_goto h0 ht k
theorem r_tin {z : xZ} {d : Nat} {M : xMI} {Q : tQ} {pc : Nat} {lo : xLoc} {st : List Value} {c : tC} {L : tL} {a dflt lo0 hi0 : Int} {offs : Array Int} {n : Nat} (off : Int) (q : Nat) (h0 : decode M.2.1 pc = .ok (.tableswitch dflt lo0 hi0 offs, n)) (ha : inR a) (h1 : lo0 ≤ a) (h2 : a ≤ hi0) (h3 : offs[(a - lo0).toNat]? = some off) (ht : (pc : Int) + off = (q : Int)) (k : En z (d + 1) M Q q lo st c L) : En z (d + 1) M Q pc lo (.int (iI a) :: st) c L := by
  exact e_tin h0 (by rw [iI_toInt ha]; omega) (by rw [iI_toInt ha]; omega) (by rw [iI_toInt ha]; exact h3) ht k
theorem r_tout {z : xZ} {d : Nat} {M : xMI} {Q : tQ} {pc : Nat} {lo : xLoc} {st : List Value} {c : tC} {L : tL} {a dflt lo0 hi0 : Int} {offs : Array Int} {n : Nat} (q : Nat) (h0 : decode M.2.1 pc = .ok (.tableswitch dflt lo0 hi0 offs, n)) (ha : inR a) (h1 : a < lo0 ∨ hi0 < a) (ht : (pc : Int) + dflt = (q : Int)) (k : En z (d + 1) M Q q lo st c L) : En z (d + 1) M Q pc lo (.int (iI a) :: st) c L := by
  exact e_tout h0 (by rw [iI_toInt ha]; exact h1) ht k
theorem r_look {z : xZ} {d : Nat} {M : xMI} {Q : tQ} {pc : Nat} {lo : xLoc} {st : List Value} {c : tC} {L : tL} {a dflt : Int} {ps : Array (Int × Int)} {n : Nat} (off : Int) (q : Nat) (h0 : decode M.2.1 pc = .ok (.lookupswitch dflt ps, n)) (ha : inR a) (h1 : (ps.toList.zip (ps.toList.drop 1)).all (fun (a, next) => a.1 < next.1) = true) (h2 : Op.lookupswitch.offset ps.toList dflt a = off) (ht : (pc : Int) + off = (q : Int)) (k : En z (d + 1) M Q q lo st c L) : En z (d + 1) M Q pc lo (.int (iI a) :: st) c L := by
  exact e_look h0 h1 (by rw [iI_toInt ha]; exact h2) ht k
theorem r_geti {z : xZ} {d : Nat} {M : xMI} {Q : tQ} {pc : Nat} {lo : xLoc} {st : List Value} {c : tC} {L : tL} {i ci j gg p : Nat} {f : List (Option Nat)} (q : Nat) (h0 : decode M.2.1 pc = .ok (.getfield i, 3)) (hq : pc + 3 = q) (hf : ∀ z, xFd (Cf z) M.1.cls i ci j) (hp : p < tcnt gg) (hs : tsh z gg p = .inl (ci, f)) (hj : f[j]? = some none) (k : En z (d + 1) M Q q lo (.int (iI (c gg p j)) :: st) c L) : En z (d + 1) M Q pc lo (.ref (xad z gg p) :: st) c L := by
  subst hq
  refine e_getf h0 (hf z) (by rw [tm_at (tokO hp hs), hs]; rfl) (v := .int (iI (c gg p j))) (by rw [tfl_at, hj]; simp) k
theorem r_getq {z : xZ} {d : Nat} {M : xMI} {Q : tQ} {pc : Nat} {lo : xLoc} {st : List Value} {c : tC} {L : tL} {i ci j gg p a : Nat} {f : List (Option Nat)} (q : Nat) (h0 : decode M.2.1 pc = .ok (.getfield i, 3)) (hq : pc + 3 = q) (hf : ∀ z, xFd (Cf z) M.1.cls i ci j) (hp : p < tcnt gg) (hs : tsh z gg p = .inl (ci, f)) (hj : f[j]? = some (some a)) (k : En z (d + 1) M Q q lo (.ref a :: st) c L) : En z (d + 1) M Q pc lo (.ref (xad z gg p) :: st) c L := by
  subst hq
  refine e_getf h0 (hf z) (by rw [tm_at (tokO hp hs), hs]; rfl) (v := .ref a) (by rw [tfl_at, hj]; simp) k
theorem r_getr {z : xZ} {d : Nat} {M : xMI} {Q : tQ} {pc : Nat} {lo : xLoc} {st : List Value} {c : tC} {L : tL} {i a : Nat} {o n t : String} {v : Value} (q : Nat) (h0 : decode M.2.1 pc = .ok (.getfield i, 3)) (hq : pc + 3 = q) (h1 : ∀ z, Cond.fieldLink M.1.cls i o n t ∈ (Cf z).1) (h2 : (a, o, n, t, v) ∈ (Cf z).2.2.2.2.2.2.1) (k : En z (d + 1) M Q q lo (v :: st) c L) : En z (d + 1) M Q pc lo (.ref a :: st) c L := by
  subst hq; exact e_getr h0 (h1 z) h2 k
theorem tm_puti {z : xZ} {c : tC} {L : tL} {g i j ci : Nat} {f : List (Option Nat)} (hp : i < tcnt g) (hs : tsh z g i = .inl (ci, f)) (hj : f[j]? = some none) (v : Int) : xup (tm z c L) (xad z g i) (.inr (ci, (tfl (c g i) 0 f).set j (.int (iI v)))) = tm z (cu c g i j v) L := by
  have h := tm_up (z := z) (c := c) (L := L) (tokO hp hs) (fun k => if k = j then v else c g i k) (L g i)
  rw [hs, Lset_id, ← cu_set] at h
  rw [← h, tfl_set _ _ _ _ hj]
  rfl
theorem tm_asti {z : xZ} {c : tC} {L : tL} {g i n : Nat} (hp : i < tcnt g) (hs : tsh z g i = .inr (.inl n)) (hz : n ≠ 0) (f : Nat → Int) : xup (tm z c L) (xad z g i) (.inl (z.1 0, n, .inl (fun j => iI (f j)))) = tm z (cset c g i f) L := by
  have h := tm_up (z := z) (c := c) (L := L) (tokI hp hs hz) f (L g i)
  rw [hs, Lset_id] at h
  exact h
theorem tm_astl {z : xZ} {c : tC} {L : tL} {g i n : Nat} (hp : i < tcnt g) (hs : tsh z g i = .inr (.inr (.inl n))) (hz : n ≠ 0) (f : Nat → Int64) : xup (tm z c L) (xad z g i) (.inl (z.1 1, n, .inr (.inl f))) = tm z c (Lset L g i f) := by
  have h := tm_up (z := z) (c := c) (L := L) (tokL hp hs hz) (c g i) f
  rw [hs, cset_id] at h
  exact h
theorem upd_iI (f : Nat → Int) (j : Nat) (v : Int) : upd (fun j => iI (f j)) j (iI v) = fun k => iI (if k = j then v else f k) := by
  funext k
  unfold upd
  by_cases h : k = j <;> simp [h]
theorem cpy_iI (f g : Nat → Int) (a b n : Nat) : va_cpy (fun j => iI (f j)) (fun j => iI (g j)) a b n = fun k => iI (va_cpy f g a b n k) := by
  funext k
  unfold va_cpy
  by_cases h : b ≤ k ∧ k < b + n <;> simp [h]
theorem r_puti {z : xZ} {d : Nat} {M : xMI} {Q : tQ} {pc : Nat} {lo : xLoc} {st : List Value} {c : tC} {L : tL} {i ci j gg p : Nat} {f : List (Option Nat)} {v : Int} (q : Nat) (h0 : decode M.2.1 pc = .ok (.putfield i, 3)) (hq : pc + 3 = q) (hf : ∀ z, xFp (Cf z) M.1.cls i ci j .int) (hp : p < tcnt gg) (hs : tsh z gg p = .inl (ci, f)) (hj : f[j]? = some none) (k : En z (d + 1) M Q q lo st (cu c gg p j v) L) : En z (d + 1) M Q pc lo (.int (iI v) :: .ref (xad z gg p) :: st) c L := by
  subst hq
  refine e_putf h0 (hf z) rfl rfl (fs := tfl (c gg p) 0 f) (by rw [tm_at (tokO hp hs), hs]; rfl) (by rw [tfl_len]; exact (List.getElem?_eq_some_iff.mp hj).1) ?_
  rw [tm_puti hp hs hj]
  exact k
theorem r_putz {z : xZ} {d : Nat} {M : xMI} {Q : tQ} {pc : Nat} {lo : xLoc} {st : List Value} {c : tC} {L : tL} {i ci j gg p : Nat} {f : List (Option Nat)} {v : Int} (q : Nat) (h0 : decode M.2.1 pc = .ok (.putfield i, 3)) (hq : pc + 3 = q) (hf : ∀ z, xFp (Cf z) M.1.cls i ci j .boolean) (hp : p < tcnt gg) (hs : tsh z gg p = .inl (ci, f)) (hj : f[j]? = some none) (hv : v = 0 ∨ v = 1) (k : En z (d + 1) M Q q lo st (cu c gg p j v) L) : En z (d + 1) M Q pc lo (.int (iI v) :: .ref (xad z gg p) :: st) c L := by
  subst hq
  refine e_putf h0 (hf z) (by rcases hv with rfl | rfl <;> rfl) (by rcases hv with rfl | rfl <;> rfl) (fs := tfl (c gg p) 0 f) (by rw [tm_at (tokO hp hs), hs]; rfl) (by rw [tfl_len]; exact (List.getElem?_eq_some_iff.mp hj).1) ?_
  rw [tm_puti hp hs hj]
  exact k
theorem r_iald {z : xZ} {d : Nat} {M : xMI} {Q : tQ} {pc : Nat} {lo : xLoc} {st : List Value} {c : tC} {L : tL} {n gg p : Nat} {a : Int} (q : Nat) (h0 : decode M.2.1 pc = .ok (.iaload, 1)) (j : Nat) (hq : pc + 1 = q) (hj : a.toNat = j) (hp : p < tcnt gg) (hs : tsh z gg p = .inr (.inl n)) (hb : n ≤ 2147483647) (ha : 0 ≤ a) (han : a < n) (k : En z (d + 1) M Q q lo (.int (iI (c gg p j)) :: st) c L) : En z (d + 1) M Q pc lo (.int (iI a) :: .ref (xad z gg p) :: st) c L := by
  subst hq; subst hj
  refine e_iald (t := 0) (cA := z.1 0) (n := n) (f := fun j => iI (c gg p j)) h0 rfl (by rw [tm_at (tokI hp hs (by omega)), hs]; rfl) (iI_in ha han hb) ?_
  rw [iI_nat ha (by omega)]
  exact k
theorem r_lald {z : xZ} {d : Nat} {M : xMI} {Q : tQ} {pc : Nat} {lo : xLoc} {st : List Value} {c : tC} {L : tL} {n gg p : Nat} {a : Int} (q : Nat) (h0 : decode M.2.1 pc = .ok (.laload, 1)) (j : Nat) (hq : pc + 1 = q) (hj : a.toNat = j) (hp : p < tcnt gg) (hs : tsh z gg p = .inr (.inr (.inl n))) (hb : n ≤ 2147483647) (ha : 0 ≤ a) (han : a < n) (k : En z (d + 1) M Q q lo (.long (L gg p j) :: st) c L) : En z (d + 1) M Q pc lo (.int (iI a) :: .ref (xad z gg p) :: st) c L := by
  subst hq; subst hj
  refine e_lald (t := 1) (cA := z.1 1) (n := n) (f := L gg p) h0 rfl (by rw [tm_at (tokL hp hs (by omega)), hs]; rfl) (iI_in ha han hb) ?_
  rw [iI_nat ha (by omega)]
  exact k
theorem r_aald {z : xZ} {d : Nat} {M : xMI} {Q : tQ} {pc : Nat} {lo : xLoc} {st : List Value} {c : tC} {L : tL} {n gg p t : Nat} {C : String} {r : Nat → Nat} {a : Int} (q : Nat) (h0 : decode M.2.1 pc = .ok (.aaload, 1)) (j : Nat) (hq : pc + 1 = q) (hj : a.toNat = j) (hp : p < tcnt gg) (hs : tsh z gg p = .inr (.inr (.inr (t, n, r)))) (ht : (xtys z)[t]? = some (z.1 t, .object C)) (hb : n ≤ 2147483647) (ha : 0 ≤ a) (han : a < n) (k : En z (d + 1) M Q q lo (.ref (r j) :: st) c L) : En z (d + 1) M Q pc lo (.int (iI a) :: .ref (xad z gg p) :: st) c L := by
  subst hq; subst hj
  refine e_aald (t := t) (cA := z.1 t) (C := C) (n := n) (f := fun j => some (r j)) h0 ht (by rw [tm_at (tokR hp hs), hs]; rfl) (iI_in ha han hb) ?_
  rw [iI_nat ha (by omega)]
  exact k
theorem r_ialr {z : xZ} {d : Nat} {M : xMI} {Q : tQ} {pc : Nat} {lo : xLoc} {st : List Value} {c : tC} {L : tL} {n s : Nat} {f : Nat → Int32} {a : Int} (q : Nat) (h0 : decode M.2.1 pc = .ok (.iaload, 1)) (j : Nat) (hq : pc + 1 = q) (hj : a.toNat = j) (h1 : (s, .int, n, f) ∈ (Cf z).2.2.2.2.1) (hb : n ≤ 2147483647) (ha : 0 ≤ a) (han : a < n) (k : En z (d + 1) M Q q lo (.int (iI (f j).toInt) :: st) c L) : En z (d + 1) M Q pc lo (.int (iI a) :: .ref s :: st) c L := by
  subst hq; subst hj
  refine e_ialr h0 h1 (iI_in ha han hb) ?_
  rw [iI_nat ha (by omega)]
  rw [iI_of] at k
  exact k
theorem r_balr {z : xZ} {d : Nat} {M : xMI} {Q : tQ} {pc : Nat} {lo : xLoc} {st : List Value} {c : tC} {L : tL} {n s : Nat} {f : Nat → Int32} {a : Int} (q : Nat) (h0 : decode M.2.1 pc = .ok (.baload, 1)) (j : Nat) (hq : pc + 1 = q) (hj : a.toNat = j) (h1 : (s, .byte, n, f) ∈ (Cf z).2.2.2.2.1) (hb : n ≤ 2147483647) (ha : 0 ≤ a) (han : a < n) (k : En z (d + 1) M Q q lo (.int (iI (f j).toInt) :: st) c L) : En z (d + 1) M Q pc lo (.int (iI a) :: .ref s :: st) c L := by
  subst hq; subst hj
  refine e_balr h0 h1 (iI_in ha han hb) ?_
  rw [iI_nat ha (by omega)]
  rw [iI_of] at k
  exact k
theorem r_iast {z : xZ} {d : Nat} {M : xMI} {Q : tQ} {pc : Nat} {lo : xLoc} {st : List Value} {c : tC} {L : tL} {n gg p : Nat} {a v : Int} (q : Nat) (h0 : decode M.2.1 pc = .ok (.iastore, 1)) (j : Nat) (hq : pc + 1 = q) (hj : a.toNat = j) (hp : p < tcnt gg) (hs : tsh z gg p = .inr (.inl n)) (hb : n ≤ 2147483647) (ha : 0 ≤ a) (han : a < n) (k : En z (d + 1) M Q q lo st (cu c gg p j v) L) : En z (d + 1) M Q pc lo (.int (iI v) :: .int (iI a) :: .ref (xad z gg p) :: st) c L := by
  subst hq; subst hj
  refine e_iast (t := 0) (cA := z.1 0) (n := n) (f := fun j => iI (c gg p j)) h0 rfl (by rw [tm_at (tokI hp hs (by omega)), hs]; rfl) (iI_in ha han hb) ?_
  rw [iI_nat ha (by omega), upd_iI, tm_asti hp hs (by omega), ← cu_set]
  exact k
theorem r_last {z : xZ} {d : Nat} {M : xMI} {Q : tQ} {pc : Nat} {lo : xLoc} {st : List Value} {c : tC} {L : tL} {n gg p : Nat} {a : Int} {x : Int64} (q : Nat) (h0 : decode M.2.1 pc = .ok (.lastore, 1)) (j : Nat) (hq : pc + 1 = q) (hj : a.toNat = j) (hp : p < tcnt gg) (hs : tsh z gg p = .inr (.inr (.inl n))) (hb : n ≤ 2147483647) (ha : 0 ≤ a) (han : a < n) (k : En z (d + 1) M Q q lo st c (Lu L gg p j x)) : En z (d + 1) M Q pc lo (.long x :: .int (iI a) :: .ref (xad z gg p) :: st) c L := by
  subst hq; subst hj
  refine e_last (t := 1) (cA := z.1 1) (n := n) (f := L gg p) h0 rfl (by rw [tm_at (tokL hp hs (by omega)), hs]; rfl) (iI_in ha han hb) ?_
  rw [iI_nat ha (by omega), tm_astl hp hs (by omega)]
  rw [Lu_set] at k
  exact k
theorem r_alen {z : xZ} {d : Nat} {M : xMI} {Q : tQ} {pc : Nat} {lo : xLoc} {st : List Value} {c : tC} {L : tL} {n gg p : Nat} (q : Nat) (h0 : decode M.2.1 pc = .ok (.arraylength, 1)) (hq : pc + 1 = q) (hp : p < tcnt gg) (hs : tsh z gg p = .inr (.inl n)) (hz : n ≠ 0) (k : En z (d + 1) M Q q lo (.int (iI n) :: st) c L) : En z (d + 1) M Q pc lo (.ref (xad z gg p) :: st) c L := by
  subst hq
  refine e_alen (t := 0) (cA := z.1 0) (x := (n, .inl (fun j => iI (c gg p j)))) h0 rfl (by rw [tm_at (tokI hp hs hz), hs]; rfl) ?_
  rw [show Int32.ofNat n = iI n from Int32.ofInt_eq_ofNat.symm]
  exact k
theorem r_alnr {z : xZ} {d : Nat} {M : xMI} {Q : tQ} {pc : Nat} {lo : xLoc} {st : List Value} {c : tC} {L : tL} {n s : Nat} {ty : FieldType} {f : Nat → Int32} (q : Nat) (h0 : decode M.2.1 pc = .ok (.arraylength, 1)) (hq : pc + 1 = q) (h1 : (s, ty, n, f) ∈ (Cf z).2.2.2.2.1) (k : En z (d + 1) M Q q lo (.int (iI n) :: st) c L) : En z (d + 1) M Q pc lo (.ref s :: st) c L := by
  subst hq
  refine e_alnr h0 h1 ?_
  rw [show Int32.ofNat n = iI n from Int32.ofInt_eq_ofNat.symm]
  exact k
theorem r_gets {z : xZ} {d : Nat} {M : xMI} {Q : tQ} {pc : Nat} {lo : xLoc} {st : List Value} {c : tC} {L : tL} {i : Nat} {C n t : String} {v : Value} (q : Nat) (h0 : decode M.2.1 pc = .ok (.getstatic i, 3)) (hq : pc + 3 = q) (h1 : ∀ z, Cond.fieldLink M.1.cls i C n t ∈ (Cf z).1) (h2 : (C, n, t, v) ∈ (Cf z).2.2.2.2.2.2.2.1) (k : En z (d + 1) M Q q lo (v :: st) c L) : En z (d + 1) M Q pc lo st c L := by
  subst hq; exact e_gets h0 (h1 z) h2 k
theorem r_getsN {z : xZ} {d : Nat} {M : xMI} {Q : tQ} {pc : Nat} {lo : xLoc} {st : List Value} {c : tC} {L : tL} {i : Nat} {C n t h : String} {v : Value} (q : Nat) (h0 : decode M.2.1 pc = .ok (.getstatic i, 3)) (hq : pc + 3 = q) (h1 : ∀ z, Cond.fieldLinkNest M.1.cls i C n t h ∈ (Cf z).2.1) (h2 : (C, n, t, v) ∈ (Cf z).2.2.2.2.2.2.2.1) (k : En z (d + 1) M Q q lo (v :: st) c L) : En z (d + 1) M Q pc lo st c L := by
  subst hq; exact e_getsN h0 (h1 z) h2 k
theorem r_cpyi {z : xZ} {d : Nat} {M : xMI} {Q : tQ} {pc : Nat} {lo : xLoc} {st : List Value} {c : tC} {L : tL} {i n0 n1 g0 p0 gg p : Nat} {sp dp n : Int} (q : Nat) (h0 : decode M.2.1 pc = .ok (.invokestatic i, 3)) (hq : pc + 3 = q) (h1 : ∀ z, xCp (Cf z) M.1.cls i) (hp0 : p0 < tcnt g0) (hs0 : tsh z g0 p0 = .inr (.inl n0)) (hp : p < tcnt gg) (hs : tsh z gg p = .inr (.inl n1)) (hw : (st.map fun v => v.category).sum ≤ 8) (ha : 0 ≤ sp ∧ sp < 100000) (hb : 0 ≤ dp ∧ dp < 100000) (hc : 0 ≤ n ∧ n < 100000) (hd : sp + n ≤ n0) (he : dp + n ≤ n1) (k : En z (d + 1) M Q q lo st (cset c gg p (va_cpy (c g0 p0) (c gg p) sp.toNat dp.toNat n.toNat)) L) (hz0 : n0 ≠ 0 := by first | decide | assumption) (hz1 : n1 ≠ 0 := by first | decide | assumption) : En z (d + 1) M Q pc lo (.int (iI n) :: .int (iI dp) :: .ref (xad z gg p) :: .int (iI sp) :: .ref (xad z g0 p0) :: st) c L := by
  subst hq
  refine e_cpyi (t := 0) (cA := z.1 0) (n0 := n0) (n1 := n1) (f := fun j => iI (c g0 p0 j)) (g := fun j => iI (c gg p j)) h0 (h1 z) hw rfl (by rw [tm_at (tokI hp0 hs0 hz0), hs0]; rfl) (by rw [tm_at (tokI hp hs hz1), hs]; rfl) (iI_neg0 ha.1 (by omega)) (iI_neg0 hb.1 (by omega)) (iI_neg0 hc.1 (by omega)) (by rw [iI_nat ha.1 (by omega), iI_nat hc.1 (by omega)]; omega) (by rw [iI_nat hb.1 (by omega), iI_nat hc.1 (by omega)]; omega) ?_
  rw [iI_nat ha.1 (by omega), iI_nat hb.1 (by omega), iI_nat hc.1 (by omega), cpy_iI, tm_asti hp hs hz1]
  exact k
theorem r_cpyl {z : xZ} {d : Nat} {M : xMI} {Q : tQ} {pc : Nat} {lo : xLoc} {st : List Value} {c : tC} {L : tL} {i n0 n1 g0 p0 gg p : Nat} {sp dp n : Int} (q : Nat) (h0 : decode M.2.1 pc = .ok (.invokestatic i, 3)) (hq : pc + 3 = q) (h1 : ∀ z, xCp (Cf z) M.1.cls i) (hp0 : p0 < tcnt g0) (hs0 : tsh z g0 p0 = .inr (.inr (.inl n0))) (hp : p < tcnt gg) (hs : tsh z gg p = .inr (.inr (.inl n1))) (hw : (st.map fun v => v.category).sum ≤ 8) (ha : 0 ≤ sp ∧ sp < 100000) (hb : 0 ≤ dp ∧ dp < 100000) (hc : 0 ≤ n ∧ n < 100000) (hd : sp + n ≤ n0) (he : dp + n ≤ n1) (k : En z (d + 1) M Q q lo st c (Lset L gg p (va_cpy (L g0 p0) (L gg p) sp.toNat dp.toNat n.toNat))) (hz0 : n0 ≠ 0 := by first | decide | assumption) (hz1 : n1 ≠ 0 := by first | decide | assumption) : En z (d + 1) M Q pc lo (.int (iI n) :: .int (iI dp) :: .ref (xad z gg p) :: .int (iI sp) :: .ref (xad z g0 p0) :: st) c L := by
  subst hq
  refine e_cpyl (t := 1) (cA := z.1 1) (n0 := n0) (n1 := n1) (f := L g0 p0) (g := L gg p) h0 (h1 z) hw rfl (by rw [tm_at (tokL hp0 hs0 hz0), hs0]; rfl) (by rw [tm_at (tokL hp hs hz1), hs]; rfl) (iI_neg0 ha.1 (by omega)) (iI_neg0 hb.1 (by omega)) (iI_neg0 hc.1 (by omega)) (by rw [iI_nat ha.1 (by omega), iI_nat hc.1 (by omega)]; omega) (by rw [iI_nat hb.1 (by omega), iI_nat hc.1 (by omega)]; omega) ?_
  rw [iI_nat ha.1 (by omega), iI_nat hb.1 (by omega), iI_nat hc.1 (by omega), tm_astl hp hs hz1]
  exact k
theorem r_abs {z : xZ} {d : Nat} {M : xMI} {Q : tQ} {pc : Nat} {lo : xLoc} {st : List Value} {c : tC} {L : tL} {i : Nat} {a : Int} (q : Nat) (h0 : decode M.2.1 pc = .ok (.invokestatic i, 3)) (hq : pc + 3 = q) (h1 : ∀ z, xMp (Cf z) M.1.cls i Lib.Math.abs.name Lib.Math.abs.code 1) (hw : (st.map fun v => v.category).sum ≤ 8) (ha : -2147483648 < a ∧ a < 2147483648) (k : En z (d + 1) M Q q lo (.int (iI (max a (-a))) :: st) c L) : En z (d + 1) M Q pc lo (.int (iI a) :: st) c L := by
  subst hq
  refine e_mabs h0 (h1 z) hw (Nat.le_refl _) (Nat.le_refl _) ?_
  have e : (if 0 ≤ iI a then iI a else 0 - iI a) = iI (max a (-a)) := by
    rw [show (0 : Int32) = iI 0 from rfl, iI_sub]
    have q : iI 0 ≤ iI a ↔ 0 ≤ a := iI_le inR_lit0 ⟨by omega, ha.2⟩
    by_cases h : 0 ≤ a
    · rw [if_pos (q.mpr h), show max a (-a) = a by omega]
    · rw [if_neg (fun z => h (q.mp z)), show max a (-a) = 0 - a by omega]
  rw [show (0 : Int32) = iI 0 from rfl] at e ⊢
  rw [e]
  exact k
theorem r_max {z : xZ} {d : Nat} {M : xMI} {Q : tQ} {pc : Nat} {lo : xLoc} {st : List Value} {c : tC} {L : tL} {i : Nat} {a b : Int} (q : Nat) (h0 : decode M.2.1 pc = .ok (.invokestatic i, 3)) (hq : pc + 3 = q) (h1 : ∀ z, xMp (Cf z) M.1.cls i Lib.Math.max.name Lib.Math.max.code 2) (hw : (st.map fun v => v.category).sum ≤ 8) (ha : inR a) (hb : inR b) (k : En z (d + 1) M Q q lo (.int (iI (max a b)) :: st) c L) : En z (d + 1) M Q pc lo (.int (iI b) :: .int (iI a) :: st) c L := by
  subst hq
  refine e_mmax h0 (h1 z) hw (Nat.le_refl _) (Nat.le_refl _) ?_
  by_cases h : a < b
  · rw [if_pos ((iI_lt ha hb).mpr h)]; rw [show max a b = b by omega] at k; exact k
  · rw [if_neg (fun z => h ((iI_lt ha hb).mp z))]; rw [show max a b = a by omega] at k; exact k
theorem r_min {z : xZ} {d : Nat} {M : xMI} {Q : tQ} {pc : Nat} {lo : xLoc} {st : List Value} {c : tC} {L : tL} {i : Nat} {a b : Int} (q : Nat) (h0 : decode M.2.1 pc = .ok (.invokestatic i, 3)) (hq : pc + 3 = q) (h1 : ∀ z, xMp (Cf z) M.1.cls i Lib.Math.min.name Lib.Math.min.code 2) (hw : (st.map fun v => v.category).sum ≤ 8) (ha : inR a) (hb : inR b) (k : En z (d + 1) M Q q lo (.int (iI (min a b)) :: st) c L) : En z (d + 1) M Q pc lo (.int (iI b) :: .int (iI a) :: st) c L := by
  subst hq
  refine e_mmin h0 (h1 z) hw (Nat.le_refl _) (Nat.le_refl _) ?_
  by_cases h : b < a
  · rw [if_pos ((iI_lt hb ha).mpr h)]; rw [show min a b = b by omega] at k; exact k
  · rw [if_neg (fun z => h ((iI_lt hb ha).mp z))]; rw [show min a b = a by omega] at k; exact k
theorem r_ret {z : xZ} {d : Nat} {M : xMI} {Q : tQ} {pc : Nat} {lo : xLoc} {c : tC} {L : tL} {v : Int} (h0 : decode M.2.1 pc = .ok (.ireturn, 1)) (h1 : M.2.2.2 = some .int) (hq : Q (some (.int (iI v))) c L) : En z (d + 1) M Q pc lo [.int (iI v)] c L := e_ret h0 h1 rfl (Nat.le_refl _) (Nat.le_refl _) ⟨c, L, rfl, hq⟩
theorem r_zret {z : xZ} {d : Nat} {M : xMI} {Q : tQ} {pc : Nat} {lo : xLoc} {c : tC} {L : tL} {v : Int} (h0 : decode M.2.1 pc = .ok (.ireturn, 1)) (h1 : M.2.2.2 = some .boolean) (hv : v = 0 ∨ v = 1) (hq : Q (some (.int (iI v))) c L) : En z (d + 1) M Q pc lo [.int (iI v)] c L := e_ret h0 h1 (by rcases hv with rfl | rfl <;> rfl) (Nat.le_refl _) (Nat.le_refl _) ⟨c, L, rfl, hq⟩
theorem r_nret {z : xZ} {d : Nat} {M : xMI} {Q : tQ} {pc : Nat} {lo : xLoc} {c : tC} {L : tL} {ty : FieldType} {x : Int32} (h0 : decode M.2.1 pc = .ok (.ireturn, 1)) (h1 : M.2.2.2 = some ty) (hv : narrow ty (.int x) = .int x) (hq : Q (some (.int x)) c L) : En z (d + 1) M Q pc lo [.int x] c L := e_ret h0 h1 hv (Nat.le_refl _) (Nat.le_refl _) ⟨c, L, rfl, hq⟩
theorem r_lret {z : xZ} {d : Nat} {M : xMI} {Q : tQ} {pc : Nat} {lo : xLoc} {c : tC} {L : tL} {x : Int64} (h0 : decode M.2.1 pc = .ok (.lreturn, 1)) (h1 : M.2.2.2 = some .long) (hq : Q (some (.long x)) c L) : En z (d + 1) M Q pc lo [.long x] c L := e_lret h0 h1 (Nat.le_refl _) (Nat.le_refl _) ⟨c, L, rfl, hq⟩
theorem r_aret {z : xZ} {d : Nat} {M : xMI} {Q : tQ} {pc : Nat} {lo : xLoc} {c : tC} {L : tL} {C : String} {x : Nat} (h0 : decode M.2.1 pc = .ok (.areturn, 1)) (h1 : M.2.2.2 = some (.object C)) (hq : Q (some (.ref x)) c L) : En z (d + 1) M Q pc lo [.ref x] c L := e_aret h0 h1 (Nat.le_refl _) (Nat.le_refl _) ⟨c, L, rfl, hq⟩
theorem r_vret {z : xZ} {d : Nat} {M : xMI} {Q : tQ} {pc : Nat} {lo : xLoc} {c : tC} {L : tL} (h0 : decode M.2.1 pc = .ok (.return_, 1)) (h1 : M.2.2.2 = none) (hq : Q none c L) : En z (d + 1) M Q pc lo [] c L := e_vret h0 h1 (Nat.le_refl _) (Nat.le_refl _) ⟨c, L, rfl, hq⟩
theorem r_cv0 {z : xZ} {d : Nat} {M : xMI} {Q : tQ} {pc : Nat} {lo : xLoc} {st : List Value} {c : tC} {L : tL} {i gg r p ci : Nat} {f : List (Option Nat)} {N : xMI} {q2 : vw_C} {lo2 : xLoc} (q : Nat) (h0 : decode M.2.1 pc = .ok (.invokevirtual i, 3)) (hq : pc + 3 = q) (h1 : ∀ z, xCv (Cf z) M.1.cls i N 0) (hr : r = xad z gg p) (hp : p < tcnt gg) (hs : tsh z gg p = .inl (ci, f)) (hc : xcl[ci]? = some q2) (hn : q2.1 = N.1.cls) (hw : (st.map fun v => v.category).sum ≤ 8) (hl : (lg_sl (.ref r :: [])).length ≤ N.2.2.1) (he : xbeg N.2.2.1 (.ref r :: []) = lo2)
    (k : En z d N (fun r c L => En z (d + 1) M Q q lo (xpush r st) c L) 0 lo2 [] c L) : En z (d + 1) M Q pc lo (.ref r :: st) c L := by
  subst hq; subst he; subst hr
  refine e_callv (As := []) (rest := st) (mc2 := 0) (ms2 := 0) h0 (h1 z) rfl (Or.inl ⟨ci, _, q2, (by rw [tm_at (tokO hp hs), hs]; rfl), hc, hn⟩) hw (Nat.le_refl _) (Nat.le_refl _) hl rfl ?_
  exact Ex_mono k (fun r μ ⟨c, L, h1, h2⟩ => by rw [h1]; exact h2)
theorem r_cs0 {z : xZ} {d : Nat} {M : xMI} {Q : tQ} {pc : Nat} {lo : xLoc} {st : List Value} {c : tC} {L : tL} {i : Nat} {N : xMI} {lo2 : xLoc} (q : Nat) (h0 : decode M.2.1 pc = .ok (.invokestatic i, 3)) (hq : pc + 3 = q) (h1 : ∀ z, xCs (Cf z) M.1.cls i N 0 ∨ ∃ h, xCsN (Cf z) M.1.cls i N 0 h) (hw : (st.map fun v => v.category).sum ≤ 8) (hl : (lg_sl []).length ≤ N.2.2.1) (he : xbeg N.2.2.1 [] = lo2)
    (k : En z d N (fun r c L => En z (d + 1) M Q q lo (xpush r st) c L) 0 lo2 [] c L) : En z (d + 1) M Q pc lo st c L := by
  subst hq; subst he
  refine e_calls (As := []) (rest := st) (mc2 := 0) (ms2 := 0) h0 (h1 z) rfl hw (Nat.le_refl _) (Nat.le_refl _) hl rfl ?_
  exact Ex_mono k (fun r μ ⟨c, L, h1, h2⟩ => by rw [h1]; exact h2)
theorem r_cv1 {z : xZ} {d : Nat} {M : xMI} {Q : tQ} {pc : Nat} {lo : xLoc} {st : List Value} {c : tC} {L : tL} {a0 : Value} {i gg r p ci : Nat} {f : List (Option Nat)} {N : xMI} {q2 : vw_C} {lo2 : xLoc} (q : Nat) (h0 : decode M.2.1 pc = .ok (.invokevirtual i, 3)) (hq : pc + 3 = q) (h1 : ∀ z, xCv (Cf z) M.1.cls i N 1) (hr : r = xad z gg p) (hp : p < tcnt gg) (hs : tsh z gg p = .inl (ci, f)) (hc : xcl[ci]? = some q2) (hn : q2.1 = N.1.cls) (hw : (st.map fun v => v.category).sum ≤ 8) (hl : (lg_sl (.ref r :: [a0])).length ≤ N.2.2.1) (he : xbeg N.2.2.1 (.ref r :: [a0]) = lo2)
    (k : En z d N (fun r c L => En z (d + 1) M Q q lo (xpush r st) c L) 0 lo2 [] c L) : En z (d + 1) M Q pc lo (a0 :: .ref r :: st) c L := by
  subst hq; subst he; subst hr
  refine e_callv (As := [a0]) (rest := st) (mc2 := 0) (ms2 := 0) h0 (h1 z) rfl (Or.inl ⟨ci, _, q2, (by rw [tm_at (tokO hp hs), hs]; rfl), hc, hn⟩) hw (Nat.le_refl _) (Nat.le_refl _) hl rfl ?_
  exact Ex_mono k (fun r μ ⟨c, L, h1, h2⟩ => by rw [h1]; exact h2)
theorem r_cs1 {z : xZ} {d : Nat} {M : xMI} {Q : tQ} {pc : Nat} {lo : xLoc} {st : List Value} {c : tC} {L : tL} {a0 : Value} {i : Nat} {N : xMI} {lo2 : xLoc} (q : Nat) (h0 : decode M.2.1 pc = .ok (.invokestatic i, 3)) (hq : pc + 3 = q) (h1 : ∀ z, xCs (Cf z) M.1.cls i N 1 ∨ ∃ h, xCsN (Cf z) M.1.cls i N 1 h) (hw : (st.map fun v => v.category).sum ≤ 8) (hl : (lg_sl [a0]).length ≤ N.2.2.1) (he : xbeg N.2.2.1 [a0] = lo2)
    (k : En z d N (fun r c L => En z (d + 1) M Q q lo (xpush r st) c L) 0 lo2 [] c L) : En z (d + 1) M Q pc lo (a0 :: st) c L := by
  subst hq; subst he
  refine e_calls (As := [a0]) (rest := st) (mc2 := 0) (ms2 := 0) h0 (h1 z) rfl hw (Nat.le_refl _) (Nat.le_refl _) hl rfl ?_
  exact Ex_mono k (fun r μ ⟨c, L, h1, h2⟩ => by rw [h1]; exact h2)
theorem r_cv2 {z : xZ} {d : Nat} {M : xMI} {Q : tQ} {pc : Nat} {lo : xLoc} {st : List Value} {c : tC} {L : tL} {a0 a1 : Value} {i gg r p ci : Nat} {f : List (Option Nat)} {N : xMI} {q2 : vw_C} {lo2 : xLoc} (q : Nat) (h0 : decode M.2.1 pc = .ok (.invokevirtual i, 3)) (hq : pc + 3 = q) (h1 : ∀ z, xCv (Cf z) M.1.cls i N 2) (hr : r = xad z gg p) (hp : p < tcnt gg) (hs : tsh z gg p = .inl (ci, f)) (hc : xcl[ci]? = some q2) (hn : q2.1 = N.1.cls) (hw : (st.map fun v => v.category).sum ≤ 8) (hl : (lg_sl (.ref r :: [a0, a1])).length ≤ N.2.2.1) (he : xbeg N.2.2.1 (.ref r :: [a0, a1]) = lo2)
    (k : En z d N (fun r c L => En z (d + 1) M Q q lo (xpush r st) c L) 0 lo2 [] c L) : En z (d + 1) M Q pc lo (a1 :: a0 :: .ref r :: st) c L := by
  subst hq; subst he; subst hr
  refine e_callv (As := [a0, a1]) (rest := st) (mc2 := 0) (ms2 := 0) h0 (h1 z) rfl (Or.inl ⟨ci, _, q2, (by rw [tm_at (tokO hp hs), hs]; rfl), hc, hn⟩) hw (Nat.le_refl _) (Nat.le_refl _) hl rfl ?_
  exact Ex_mono k (fun r μ ⟨c, L, h1, h2⟩ => by rw [h1]; exact h2)
theorem r_cs2 {z : xZ} {d : Nat} {M : xMI} {Q : tQ} {pc : Nat} {lo : xLoc} {st : List Value} {c : tC} {L : tL} {a0 a1 : Value} {i : Nat} {N : xMI} {lo2 : xLoc} (q : Nat) (h0 : decode M.2.1 pc = .ok (.invokestatic i, 3)) (hq : pc + 3 = q) (h1 : ∀ z, xCs (Cf z) M.1.cls i N 2 ∨ ∃ h, xCsN (Cf z) M.1.cls i N 2 h) (hw : (st.map fun v => v.category).sum ≤ 8) (hl : (lg_sl [a0, a1]).length ≤ N.2.2.1) (he : xbeg N.2.2.1 [a0, a1] = lo2)
    (k : En z d N (fun r c L => En z (d + 1) M Q q lo (xpush r st) c L) 0 lo2 [] c L) : En z (d + 1) M Q pc lo (a1 :: a0 :: st) c L := by
  subst hq; subst he
  refine e_calls (As := [a0, a1]) (rest := st) (mc2 := 0) (ms2 := 0) h0 (h1 z) rfl hw (Nat.le_refl _) (Nat.le_refl _) hl rfl ?_
  exact Ex_mono k (fun r μ ⟨c, L, h1, h2⟩ => by rw [h1]; exact h2)
theorem r_cv3 {z : xZ} {d : Nat} {M : xMI} {Q : tQ} {pc : Nat} {lo : xLoc} {st : List Value} {c : tC} {L : tL} {a0 a1 a2 : Value} {i gg r p ci : Nat} {f : List (Option Nat)} {N : xMI} {q2 : vw_C} {lo2 : xLoc} (q : Nat) (h0 : decode M.2.1 pc = .ok (.invokevirtual i, 3)) (hq : pc + 3 = q) (h1 : ∀ z, xCv (Cf z) M.1.cls i N 3) (hr : r = xad z gg p) (hp : p < tcnt gg) (hs : tsh z gg p = .inl (ci, f)) (hc : xcl[ci]? = some q2) (hn : q2.1 = N.1.cls) (hw : (st.map fun v => v.category).sum ≤ 8) (hl : (lg_sl (.ref r :: [a0, a1, a2])).length ≤ N.2.2.1) (he : xbeg N.2.2.1 (.ref r :: [a0, a1, a2]) = lo2)
    (k : En z d N (fun r c L => En z (d + 1) M Q q lo (xpush r st) c L) 0 lo2 [] c L) : En z (d + 1) M Q pc lo (a2 :: a1 :: a0 :: .ref r :: st) c L := by
  subst hq; subst he; subst hr
  refine e_callv (As := [a0, a1, a2]) (rest := st) (mc2 := 0) (ms2 := 0) h0 (h1 z) rfl (Or.inl ⟨ci, _, q2, (by rw [tm_at (tokO hp hs), hs]; rfl), hc, hn⟩) hw (Nat.le_refl _) (Nat.le_refl _) hl rfl ?_
  exact Ex_mono k (fun r μ ⟨c, L, h1, h2⟩ => by rw [h1]; exact h2)
theorem r_cs3 {z : xZ} {d : Nat} {M : xMI} {Q : tQ} {pc : Nat} {lo : xLoc} {st : List Value} {c : tC} {L : tL} {a0 a1 a2 : Value} {i : Nat} {N : xMI} {lo2 : xLoc} (q : Nat) (h0 : decode M.2.1 pc = .ok (.invokestatic i, 3)) (hq : pc + 3 = q) (h1 : ∀ z, xCs (Cf z) M.1.cls i N 3 ∨ ∃ h, xCsN (Cf z) M.1.cls i N 3 h) (hw : (st.map fun v => v.category).sum ≤ 8) (hl : (lg_sl [a0, a1, a2]).length ≤ N.2.2.1) (he : xbeg N.2.2.1 [a0, a1, a2] = lo2)
    (k : En z d N (fun r c L => En z (d + 1) M Q q lo (xpush r st) c L) 0 lo2 [] c L) : En z (d + 1) M Q pc lo (a2 :: a1 :: a0 :: st) c L := by
  subst hq; subst he
  refine e_calls (As := [a0, a1, a2]) (rest := st) (mc2 := 0) (ms2 := 0) h0 (h1 z) rfl hw (Nat.le_refl _) (Nat.le_refl _) hl rfl ?_
  exact Ex_mono k (fun r μ ⟨c, L, h1, h2⟩ => by rw [h1]; exact h2)
theorem r_cv4 {z : xZ} {d : Nat} {M : xMI} {Q : tQ} {pc : Nat} {lo : xLoc} {st : List Value} {c : tC} {L : tL} {a0 a1 a2 a3 : Value} {i gg r p ci : Nat} {f : List (Option Nat)} {N : xMI} {q2 : vw_C} {lo2 : xLoc} (q : Nat) (h0 : decode M.2.1 pc = .ok (.invokevirtual i, 3)) (hq : pc + 3 = q) (h1 : ∀ z, xCv (Cf z) M.1.cls i N 4) (hr : r = xad z gg p) (hp : p < tcnt gg) (hs : tsh z gg p = .inl (ci, f)) (hc : xcl[ci]? = some q2) (hn : q2.1 = N.1.cls) (hw : (st.map fun v => v.category).sum ≤ 8) (hl : (lg_sl (.ref r :: [a0, a1, a2, a3])).length ≤ N.2.2.1) (he : xbeg N.2.2.1 (.ref r :: [a0, a1, a2, a3]) = lo2)
    (k : En z d N (fun r c L => En z (d + 1) M Q q lo (xpush r st) c L) 0 lo2 [] c L) : En z (d + 1) M Q pc lo (a3 :: a2 :: a1 :: a0 :: .ref r :: st) c L := by
  subst hq; subst he; subst hr
  refine e_callv (As := [a0, a1, a2, a3]) (rest := st) (mc2 := 0) (ms2 := 0) h0 (h1 z) rfl (Or.inl ⟨ci, _, q2, (by rw [tm_at (tokO hp hs), hs]; rfl), hc, hn⟩) hw (Nat.le_refl _) (Nat.le_refl _) hl rfl ?_
  exact Ex_mono k (fun r μ ⟨c, L, h1, h2⟩ => by rw [h1]; exact h2)
theorem r_cs4 {z : xZ} {d : Nat} {M : xMI} {Q : tQ} {pc : Nat} {lo : xLoc} {st : List Value} {c : tC} {L : tL} {a0 a1 a2 a3 : Value} {i : Nat} {N : xMI} {lo2 : xLoc} (q : Nat) (h0 : decode M.2.1 pc = .ok (.invokestatic i, 3)) (hq : pc + 3 = q) (h1 : ∀ z, xCs (Cf z) M.1.cls i N 4 ∨ ∃ h, xCsN (Cf z) M.1.cls i N 4 h) (hw : (st.map fun v => v.category).sum ≤ 8) (hl : (lg_sl [a0, a1, a2, a3]).length ≤ N.2.2.1) (he : xbeg N.2.2.1 [a0, a1, a2, a3] = lo2)
    (k : En z d N (fun r c L => En z (d + 1) M Q q lo (xpush r st) c L) 0 lo2 [] c L) : En z (d + 1) M Q pc lo (a3 :: a2 :: a1 :: a0 :: st) c L := by
  subst hq; subst he
  refine e_calls (As := [a0, a1, a2, a3]) (rest := st) (mc2 := 0) (ms2 := 0) h0 (h1 z) rfl hw (Nat.le_refl _) (Nat.le_refl _) hl rfl ?_
  exact Ex_mono k (fun r μ ⟨c, L, h1, h2⟩ => by rw [h1]; exact h2)
theorem r_cv5 {z : xZ} {d : Nat} {M : xMI} {Q : tQ} {pc : Nat} {lo : xLoc} {st : List Value} {c : tC} {L : tL} {a0 a1 a2 a3 a4 : Value} {i gg r p ci : Nat} {f : List (Option Nat)} {N : xMI} {q2 : vw_C} {lo2 : xLoc} (q : Nat) (h0 : decode M.2.1 pc = .ok (.invokevirtual i, 3)) (hq : pc + 3 = q) (h1 : ∀ z, xCv (Cf z) M.1.cls i N 5) (hr : r = xad z gg p) (hp : p < tcnt gg) (hs : tsh z gg p = .inl (ci, f)) (hc : xcl[ci]? = some q2) (hn : q2.1 = N.1.cls) (hw : (st.map fun v => v.category).sum ≤ 8) (hl : (lg_sl (.ref r :: [a0, a1, a2, a3, a4])).length ≤ N.2.2.1) (he : xbeg N.2.2.1 (.ref r :: [a0, a1, a2, a3, a4]) = lo2)
    (k : En z d N (fun r c L => En z (d + 1) M Q q lo (xpush r st) c L) 0 lo2 [] c L) : En z (d + 1) M Q pc lo (a4 :: a3 :: a2 :: a1 :: a0 :: .ref r :: st) c L := by
  subst hq; subst he; subst hr
  refine e_callv (As := [a0, a1, a2, a3, a4]) (rest := st) (mc2 := 0) (ms2 := 0) h0 (h1 z) rfl (Or.inl ⟨ci, _, q2, (by rw [tm_at (tokO hp hs), hs]; rfl), hc, hn⟩) hw (Nat.le_refl _) (Nat.le_refl _) hl rfl ?_
  exact Ex_mono k (fun r μ ⟨c, L, h1, h2⟩ => by rw [h1]; exact h2)
theorem r_cs5 {z : xZ} {d : Nat} {M : xMI} {Q : tQ} {pc : Nat} {lo : xLoc} {st : List Value} {c : tC} {L : tL} {a0 a1 a2 a3 a4 : Value} {i : Nat} {N : xMI} {lo2 : xLoc} (q : Nat) (h0 : decode M.2.1 pc = .ok (.invokestatic i, 3)) (hq : pc + 3 = q) (h1 : ∀ z, xCs (Cf z) M.1.cls i N 5 ∨ ∃ h, xCsN (Cf z) M.1.cls i N 5 h) (hw : (st.map fun v => v.category).sum ≤ 8) (hl : (lg_sl [a0, a1, a2, a3, a4]).length ≤ N.2.2.1) (he : xbeg N.2.2.1 [a0, a1, a2, a3, a4] = lo2)
    (k : En z d N (fun r c L => En z (d + 1) M Q q lo (xpush r st) c L) 0 lo2 [] c L) : En z (d + 1) M Q pc lo (a4 :: a3 :: a2 :: a1 :: a0 :: st) c L := by
  subst hq; subst he
  refine e_calls (As := [a0, a1, a2, a3, a4]) (rest := st) (mc2 := 0) (ms2 := 0) h0 (h1 z) rfl hw (Nat.le_refl _) (Nat.le_refl _) hl rfl ?_
  exact Ex_mono k (fun r μ ⟨c, L, h1, h2⟩ => by rw [h1]; exact h2)
theorem r_cv6 {z : xZ} {d : Nat} {M : xMI} {Q : tQ} {pc : Nat} {lo : xLoc} {st : List Value} {c : tC} {L : tL} {a0 a1 a2 a3 a4 a5 : Value} {i gg r p ci : Nat} {f : List (Option Nat)} {N : xMI} {q2 : vw_C} {lo2 : xLoc} (q : Nat) (h0 : decode M.2.1 pc = .ok (.invokevirtual i, 3)) (hq : pc + 3 = q) (h1 : ∀ z, xCv (Cf z) M.1.cls i N 6) (hr : r = xad z gg p) (hp : p < tcnt gg) (hs : tsh z gg p = .inl (ci, f)) (hc : xcl[ci]? = some q2) (hn : q2.1 = N.1.cls) (hw : (st.map fun v => v.category).sum ≤ 8) (hl : (lg_sl (.ref r :: [a0, a1, a2, a3, a4, a5])).length ≤ N.2.2.1) (he : xbeg N.2.2.1 (.ref r :: [a0, a1, a2, a3, a4, a5]) = lo2)
    (k : En z d N (fun r c L => En z (d + 1) M Q q lo (xpush r st) c L) 0 lo2 [] c L) : En z (d + 1) M Q pc lo (a5 :: a4 :: a3 :: a2 :: a1 :: a0 :: .ref r :: st) c L := by
  subst hq; subst he; subst hr
  refine e_callv (As := [a0, a1, a2, a3, a4, a5]) (rest := st) (mc2 := 0) (ms2 := 0) h0 (h1 z) rfl (Or.inl ⟨ci, _, q2, (by rw [tm_at (tokO hp hs), hs]; rfl), hc, hn⟩) hw (Nat.le_refl _) (Nat.le_refl _) hl rfl ?_
  exact Ex_mono k (fun r μ ⟨c, L, h1, h2⟩ => by rw [h1]; exact h2)
theorem r_cs6 {z : xZ} {d : Nat} {M : xMI} {Q : tQ} {pc : Nat} {lo : xLoc} {st : List Value} {c : tC} {L : tL} {a0 a1 a2 a3 a4 a5 : Value} {i : Nat} {N : xMI} {lo2 : xLoc} (q : Nat) (h0 : decode M.2.1 pc = .ok (.invokestatic i, 3)) (hq : pc + 3 = q) (h1 : ∀ z, xCs (Cf z) M.1.cls i N 6 ∨ ∃ h, xCsN (Cf z) M.1.cls i N 6 h) (hw : (st.map fun v => v.category).sum ≤ 8) (hl : (lg_sl [a0, a1, a2, a3, a4, a5]).length ≤ N.2.2.1) (he : xbeg N.2.2.1 [a0, a1, a2, a3, a4, a5] = lo2)
    (k : En z d N (fun r c L => En z (d + 1) M Q q lo (xpush r st) c L) 0 lo2 [] c L) : En z (d + 1) M Q pc lo (a5 :: a4 :: a3 :: a2 :: a1 :: a0 :: st) c L := by
  subst hq; subst he
  refine e_calls (As := [a0, a1, a2, a3, a4, a5]) (rest := st) (mc2 := 0) (ms2 := 0) h0 (h1 z) rfl hw (Nat.le_refl _) (Nat.le_refl _) hl rfl ?_
  exact Ex_mono k (fun r μ ⟨c, L, h1, h2⟩ => by rw [h1]; exact h2)
theorem r_cr1 {z : xZ} {d : Nat} {M : xMI} {Q : tQ} {pc : Nat} {lo : xLoc} {st : List Value} {c : tC} {L : tL} {a0 : Value} {i r : Nat} {N : xMI} {lo2 : xLoc} (q : Nat) (h0 : decode M.2.1 pc = .ok (.invokevirtual i, 3)) (hq : pc + 3 = q) (h1 : ∀ z, xCv (Cf z) M.1.cls i N 1) (hr : (r, N.1.cls) ∈ (Cf z).2.2.2.2.2.1) (hw : (st.map fun v => v.category).sum ≤ 8) (hl : (lg_sl (.ref r :: [a0])).length ≤ N.2.2.1) (he : xbeg N.2.2.1 (.ref r :: [a0]) = lo2)
    (k : En z d N (fun r c L => En z (d + 1) M Q q lo (xpush r st) c L) 0 lo2 [] c L) : En z (d + 1) M Q pc lo (a0 :: .ref r :: st) c L := by
  subst hq; subst he
  refine e_callv (As := [a0]) (rest := st) (mc2 := 0) (ms2 := 0) h0 (h1 z) rfl (Or.inr hr) hw (Nat.le_refl _) (Nat.le_refl _) hl rfl ?_
  exact Ex_mono k (fun r μ ⟨c, L, h1, h2⟩ => by rw [h1]; exact h2)
theorem r_cr0 {z : xZ} {d : Nat} {M : xMI} {Q : tQ} {pc : Nat} {lo : xLoc} {st : List Value} {c : tC} {L : tL} {i r : Nat} {N : xMI} {lo2 : xLoc} (q : Nat) (h0 : decode M.2.1 pc = .ok (.invokevirtual i, 3)) (hq : pc + 3 = q) (h1 : ∀ z, xCv (Cf z) M.1.cls i N 0) (hr : (r, N.1.cls) ∈ (Cf z).2.2.2.2.2.1) (hw : (st.map fun v => v.category).sum ≤ 8) (hl : (lg_sl (.ref r :: [])).length ≤ N.2.2.1) (he : xbeg N.2.2.1 (.ref r :: []) = lo2)
    (k : En z d N (fun r c L => En z (d + 1) M Q q lo (xpush r st) c L) 0 lo2 [] c L) : En z (d + 1) M Q pc lo (.ref r :: st) c L := by
  subst hq; subst he
  refine e_callv (As := []) (rest := st) (mc2 := 0) (ms2 := 0) h0 (h1 z) rfl (Or.inr hr) hw (Nat.le_refl _) (Nat.le_refl _) hl rfl ?_
  exact Ex_mono k (fun r μ ⟨c, L, h1, h2⟩ => by rw [h1]; exact h2)
theorem sh_0 (z : xZ) (i : Nat) : tsh z 0 i = .inl (10, [some (xad z 1 0), some (xad z 5 0), some (xad z 8 0), some (xad z 8 1), some (xad z 30 0), some (xad z 33 0), some (xad z 35 0), none]) := rfl
theorem sh_1 (z : xZ) (i : Nat) : tsh z 1 i = .inr (.inr (.inr (2, 8, fun j => xad z 2 j))) := rfl
theorem sh_2 (z : xZ) (i : Nat) : tsh z 2 i = .inl (7, [none, none, some (xad z 3 i)]) := rfl
theorem sh_3 (z : xZ) (i : Nat) : tsh z 3 i = .inr (.inr (.inl 60)) := rfl
theorem sh_5 (z : xZ) (i : Nat) : tsh z 5 i = .inl (6, [some (xad z 8 0), some (xad z 6 0), some (xad z 7 0), none, none, none, none, none]) := rfl
theorem sh_6 (z : xZ) (i : Nat) : tsh z 6 i = .inr (.inr (.inl 14)) := rfl
theorem sh_7 (z : xZ) (i : Nat) : tsh z 7 i = .inr (.inl 12) := rfl
theorem sh_8 (z : xZ) (i : Nat) : tsh z 8 i = .inl (9, [none, none, none, none, none, none, some (xad z 9 i), some (xad z 10 i), some (xad z 11 i), some (xad z 16 i), some (xad z 21 i), some (xad z 25 i), some (xad z 26 i), some (xad z 27 i)]) := rfl
theorem sh_9 (z : xZ) (i : Nat) : tsh z 9 i = .inr (.inr (.inr (3, 12, if i = 0 then fun j => xad z 12 j else fun j => xad z 12 (12 + j)))) := rfl
theorem sh_9a (z : xZ) : tsh z 9 0 = .inr (.inr (.inr (3, 12, fun j => xad z 12 j))) := rfl
theorem sh_10 (z : xZ) (i : Nat) : tsh z 10 i = .inr (.inr (.inr (4, 14, if i = 0 then fun j => xad z 13 j else fun j => xad z 13 (14 + j)))) := rfl
theorem sh_10a (z : xZ) : tsh z 10 0 = .inr (.inr (.inr (4, 14, fun j => xad z 13 j))) := rfl
theorem sh_11 (z : xZ) (i : Nat) : tsh z 11 i = .inr (.inr (.inr (5, 8, if i = 0 then fun j => xad z 14 j else fun j => xad z 14 (8 + j)))) := rfl
theorem sh_11a (z : xZ) : tsh z 11 0 = .inr (.inr (.inr (5, 8, fun j => xad z 14 j))) := rfl
theorem sh_12 (z : xZ) (i : Nat) : tsh z 12 i = .inl (3, [none, none, none, none, none]) := rfl
theorem sh_13 (z : xZ) (i : Nat) : tsh z 13 i = .inl (8, [none, none, none, none, none, none, none, none]) := rfl
theorem sh_14 (z : xZ) (i : Nat) : tsh z 14 i = .inl (4, [none, some (xad z 41 i), some (xad z 42 i), some (xad z 43 i), some (xad z 44 i), some (xad z 45 i)]) := rfl
theorem sh_16 (z : xZ) (i : Nat) : tsh z 16 i = .inl (1, [none, none, none, some (xad z 17 i), some (xad z 18 i), some (xad z 19 i), some (xad z 20 i)]) := rfl
theorem sh_17 (z : xZ) (i : Nat) : tsh z 17 i = .inr (.inl 80) := rfl
theorem sh_18 (z : xZ) (i : Nat) : tsh z 18 i = .inr (.inl 80) := rfl
theorem sh_19 (z : xZ) (i : Nat) : tsh z 19 i = .inr (.inl 80) := rfl
theorem sh_20 (z : xZ) (i : Nat) : tsh z 20 i = .inr (.inl 80) := rfl
theorem sh_21 (z : xZ) (i : Nat) : tsh z 21 i = .inl (2, [none, some (xad z 22 i), some (xad z 23 i), some (xad z 24 i)]) := rfl
theorem sh_22 (z : xZ) (i : Nat) : tsh z 22 i = .inr (.inl 30) := rfl
theorem sh_23 (z : xZ) (i : Nat) : tsh z 23 i = .inr (.inl 30) := rfl
theorem sh_24 (z : xZ) (i : Nat) : tsh z 24 i = .inr (.inl 30) := rfl
theorem sh_25 (z : xZ) (i : Nat) : tsh z 25 i = .inr (.inl 64) := rfl
theorem sh_26 (z : xZ) (i : Nat) : tsh z 26 i = .inr (.inl 10) := rfl
theorem sh_27 (z : xZ) (i : Nat) : tsh z 27 i = .inr (.inl 6) := rfl
theorem sh_30 (z : xZ) (i : Nat) : tsh z 30 i = .inl (5, [some (xad z 31 0), none, none, none, none, none, some (xad z 32 0), some (xad z 14 16)]) := rfl
theorem sh_31 (z : xZ) (i : Nat) : tsh z 31 i = .inr (.inl 60) := rfl
theorem sh_32 (z : xZ) (i : Nat) : tsh z 32 i = .inr (.inl 6) := rfl
theorem sh_33 (z : xZ) (i : Nat) : tsh z 33 i = .inl (0, [some (xad z 34 0), none, none, none, none]) := rfl
theorem sh_34 (z : xZ) (i : Nat) : tsh z 34 i = .inr (.inl 20) := rfl
theorem sh_35 (z : xZ) (i : Nat) : tsh z 35 i = .inr (.inl 8) := rfl
theorem sh_41 (z : xZ) (i : Nat) : tsh z 41 i = .inr (.inl 8) := rfl
theorem sh_42 (z : xZ) (i : Nat) : tsh z 42 i = .inr (.inl 8) := rfl
theorem sh_43 (z : xZ) (i : Nat) : tsh z 43 i = .inr (.inl 8) := rfl
theorem sh_44 (z : xZ) (i : Nat) : tsh z 44 i = .inr (.inl 8) := rfl
theorem sh_45 (z : xZ) (i : Nat) : tsh z 45 i = .inr (.inl 8) := rfl
theorem sh_50 (z : xZ) (i : Nat) : tsh z 50 i = .inl (11, [none, none, none, none, none, none, none, none, none, none, some (xad z 51 10), some (xad z 51 11), some (xad z 51 12), some (xad z 51 13), some (xad z 51 14), some (xad z 51 15), some (xad z 51 16), some (xad z 51 17), some (xad z 51 18), some (xad z 51 19), some (xad z 51 20), some (xad z 51 21), some (xad z 51 22), some (xad z 51 23), some (xad z 51 24), some (xad z 51 25), some (xad z 51 26), some (xad z 51 27), some (xad z 51 28), some (xad z 51 29), some (xad z 51 30), some (xad z 51 31), some (xad z 51 32), some (xad z 51 33), some (xad z 51 34), some (xad z 51 35), some (xad z 51 36), some (xad z 51 37), some (xad z 51 38), some (xad z 51 39), some (xad z 51 40), some (xad z 51 41), some (xad z 51 42), some (xad z 51 43), some (xad z 51 44), some (xad z 51 45), some (xad z 51 46), some (xad z 51 47), some (xad z 52 48), some (xad z 52 49), none, none, none, none, none, none, none, some (xad z 51 57), some (xad z 51 58), some (xad z 51 59), some (xad z 51 60), some (xad z 51 61), some (xad z 51 62), some (xad z 51 63), some (xad z 51 64), some (xad z 51 65), none, none, none, none, none, none, none, none, none, none, some (xad z 51 76)]) := rfl
theorem sh_51 (z : xZ) (i : Nat) : tsh z 51 i = .inr (.inl (tml.getD i 0)) := rfl
theorem sh_52 (z : xZ) (i : Nat) : tsh z 52 i = .inr (.inr (.inl (tll.getD i 0))) := rfl
theorem ct_0 {i : Nat} (h : i < 1) : i < tcnt 0 := h
theorem ct_1 {i : Nat} (h : i < 1) : i < tcnt 1 := h
theorem ct_2 {i : Nat} (h : i < 8) : i < tcnt 2 := h
theorem ct_3 {i : Nat} (h : i < 8) : i < tcnt 3 := h
theorem ct_5 {i : Nat} (h : i < 1) : i < tcnt 5 := h
theorem ct_6 {i : Nat} (h : i < 1) : i < tcnt 6 := h
theorem ct_7 {i : Nat} (h : i < 1) : i < tcnt 7 := h
theorem ct_8 {i : Nat} (h : i < 2) : i < tcnt 8 := h
theorem ct_9 {i : Nat} (h : i < 2) : i < tcnt 9 := h
theorem ct_10 {i : Nat} (h : i < 2) : i < tcnt 10 := h
theorem ct_11 {i : Nat} (h : i < 2) : i < tcnt 11 := h
theorem ct_12 {i : Nat} (h : i < 24) : i < tcnt 12 := h
theorem ct_13 {i : Nat} (h : i < 28) : i < tcnt 13 := h
theorem ct_14 {i : Nat} (h : i < 17) : i < tcnt 14 := h
theorem ct_16 {i : Nat} (h : i < 2) : i < tcnt 16 := h
theorem ct_17 {i : Nat} (h : i < 2) : i < tcnt 17 := h
theorem ct_18 {i : Nat} (h : i < 2) : i < tcnt 18 := h
theorem ct_19 {i : Nat} (h : i < 2) : i < tcnt 19 := h
theorem ct_20 {i : Nat} (h : i < 2) : i < tcnt 20 := h
theorem ct_21 {i : Nat} (h : i < 2) : i < tcnt 21 := h
theorem ct_22 {i : Nat} (h : i < 2) : i < tcnt 22 := h
theorem ct_23 {i : Nat} (h : i < 2) : i < tcnt 23 := h
theorem ct_24 {i : Nat} (h : i < 2) : i < tcnt 24 := h
theorem ct_25 {i : Nat} (h : i < 2) : i < tcnt 25 := h
theorem ct_26 {i : Nat} (h : i < 2) : i < tcnt 26 := h
theorem ct_27 {i : Nat} (h : i < 2) : i < tcnt 27 := h
theorem ct_30 {i : Nat} (h : i < 1) : i < tcnt 30 := h
theorem ct_31 {i : Nat} (h : i < 1) : i < tcnt 31 := h
theorem ct_32 {i : Nat} (h : i < 1) : i < tcnt 32 := h
theorem ct_33 {i : Nat} (h : i < 1) : i < tcnt 33 := h
theorem ct_34 {i : Nat} (h : i < 1) : i < tcnt 34 := h
theorem ct_35 {i : Nat} (h : i < 1) : i < tcnt 35 := h
theorem ct_41 {i : Nat} (h : i < 17) : i < tcnt 41 := h
theorem ct_42 {i : Nat} (h : i < 17) : i < tcnt 42 := h
theorem ct_43 {i : Nat} (h : i < 17) : i < tcnt 43 := h
theorem ct_44 {i : Nat} (h : i < 17) : i < tcnt 44 := h
theorem ct_45 {i : Nat} (h : i < 17) : i < tcnt 45 := h
theorem ct_50 {i : Nat} (h : i < 1) : i < tcnt 50 := h
theorem ct_51 {i : Nat} (h : i < 77) : i < tcnt 51 := h
theorem ct_52 {i : Nat} (h : i < 77) : i < tcnt 52 := h
theorem inRo {a : Int} (h : -2147483648 ≤ a ∧ a < 2147483648) : inR a := h
theorem inLo {a : Int} (h : -9223372036854775808 ≤ a ∧ a < 9223372036854775808) : inL a := h
