/-! ===== what each cell holds at the beginning; the cells that a construction adds ===== -/
def pFst (j : Nat) : Int := [5, 10, 4, 1, 2, 0].getD j 0
def pfL : List (Nat → pD) := [fun _ => .inl (10, [.inr (some (1, 0)), .inr (some (5, 0)), .inr (some (8, 0)), .inr (some (8, 1)), .inr (some (30, 0)), .inr (some (33, 0)), .inr (some (35, 0)), .inl 0]),
  fun _ => .inr (.inr (.inr (2, 8, fun j => if j < 8 then some (2, j) else none))),
  fun i => .inl (7, [.inl (-1), .inl 0, .inr (some (3, i))]),
  fun _ => .inr (.inr (.inl 60)),
  fun _ => .inl (99, []),
  fun _ => .inl (6, [.inr (some (8, 0)), .inr (some (6, 0)), .inr (some (7, 0)), .inl 0, .inl 0, .inl 0, .inl 0, .inl 0]),
  fun _ => .inr (.inr (.inl 14)),
  fun _ => .inr (.inl (12, fun _ => 0)),
  fun i => .inl (9, [.inl 0, .inl 0, .inl 0, .inl 0, .inl (-1), .inl 0, .inr (some (9, i)), .inr (some (10, i)), .inr (some (11, i)), .inr (some (16, i)), .inr (some (21, i)), .inr (some (25, i)), .inr (some (26, i)), .inr (some (27, i))]),
  fun i => .inr (.inr (.inr (3, 12, fun j => if j < 12 then some (12, 12 * i + j) else none))),
  fun i => .inr (.inr (.inr (4, 14, fun j => if j < 14 then some (13, 14 * i + j) else none))),
  fun i => .inr (.inr (.inr (5, 8, fun j => if j < 8 then some (14, 8 * i + j) else none))),
  fun _ => .inl (3, [.inl 0, .inl 0, .inl 0, .inl 0, .inl 0]),
  fun _ => .inl (8, [.inl 0, .inl 0, .inl 0, .inl 0, .inl 0, .inl 0, .inl 0, .inl 0]),
  fun i => .inl (4, [.inl 0, .inr (some (41, i)), .inr (some (42, i)), .inr (some (43, i)), .inr (some (44, i)), .inr (some (45, i))]),
  fun _ => .inl (99, []),
  fun i => .inl (1, [.inl 0, .inl 0, .inl 0, .inr (some (17, i)), .inr (some (18, i)), .inr (some (19, i)), .inr (some (20, i))]),
  fun _ => .inr (.inl (80, fun _ => 0)),
  fun _ => .inr (.inl (80, fun _ => 0)),
  fun _ => .inr (.inl (80, fun _ => 0)),
  fun _ => .inr (.inl (80, fun _ => 0)),
  fun i => .inl (2, [.inl 0, .inr (some (22, i)), .inr (some (23, i)), .inr (some (24, i))]),
  fun _ => .inr (.inl (30, fun _ => 0)),
  fun _ => .inr (.inl (30, fun _ => 0)),
  fun _ => .inr (.inl (30, fun _ => 0)),
  fun _ => .inr (.inl (64, fun _ => 0)),
  fun _ => .inr (.inl (10, fun _ => 0)),
  fun _ => .inr (.inl (6, pFst)),
  fun _ => .inl (99, []),
  fun _ => .inl (99, []),
  fun _ => .inl (5, [.inr (some (31, 0)), .inl 0, .inl 0, .inl 0, .inl (-1), .inl 0, .inr (some (32, 0)), .inr (some (14, 16))]),
  fun _ => .inr (.inl (60, fun _ => 0)),
  fun _ => .inr (.inl (6, fun _ => 0)),
  fun _ => .inl (0, [.inr (some (34, 0)), .inl 0, .inl 0, .inl 0, .inl 0]),
  fun _ => .inr (.inl (20, fun _ => 0)),
  fun _ => .inr (.inl (8, fun _ => 0)),
  fun _ => .inl (99, []),
  fun _ => .inl (99, []),
  fun _ => .inl (99, []),
  fun _ => .inl (99, []),
  fun _ => .inl (99, []),
  fun _ => .inr (.inl (8, fun _ => 0)),
  fun _ => .inr (.inl (8, fun _ => 0)),
  fun _ => .inr (.inl (8, fun _ => 0)),
  fun _ => .inr (.inl (8, fun _ => 0)),
  fun _ => .inr (.inl (8, fun _ => 0)),
  fun _ => .inl (99, []),
  fun _ => .inl (99, []),
  fun _ => .inl (99, []),
  fun _ => .inl (99, []),
  fun _ => .inl (11, [.inl 0, .inl 0, .inl 0, .inl 0, .inl 0, .inl 0, .inl 0, .inl (-1), .inl (-1), .inl 0, .inr (some (51, 10)), .inr (some (51, 11)), .inr (some (51, 12)), .inr (some (51, 13)), .inr (some (51, 14)), .inr (some (51, 15)), .inr (some (51, 16)), .inr (some (51, 17)), .inr (some (51, 18)), .inr (some (51, 19)), .inr (some (51, 20)), .inr (some (51, 21)), .inr (some (51, 22)), .inr (some (51, 23)), .inr (some (51, 24)), .inr (some (51, 25)), .inr (some (51, 26)), .inr (some (51, 27)), .inr (some (51, 28)), .inr (some (51, 29)), .inr (some (51, 30)), .inr (some (51, 31)), .inr (some (51, 32)), .inr (some (51, 33)), .inr (some (51, 34)), .inr (some (51, 35)), .inr (some (51, 36)), .inr (some (51, 37)), .inr (some (51, 38)), .inr (some (51, 39)), .inr (some (51, 40)), .inr (some (51, 41)), .inr (some (51, 42)), .inr (some (51, 43)), .inr (some (51, 44)), .inr (some (51, 45)), .inr (some (51, 46)), .inr (some (51, 47)), .inr (some (52, 48)), .inr (some (52, 49)), .inl 0, .inl 0, .inl 0, .inl 0, .inl 0, .inl 0, .inl 0, .inr (some (51, 57)), .inr (some (51, 58)), .inr (some (51, 59)), .inr (some (51, 60)), .inr (some (51, 61)), .inr (some (51, 62)), .inr (some (51, 63)), .inr (some (51, 64)), .inr (some (51, 65)), .inl 0, .inl (-1), .inl 0, .inl 0, .inl 0, .inl 0, .inl 0, .inl 0, .inl 0, .inl 0, .inr (some (51, 76))]),
  fun i => .inr (.inl (tml.getD i 0, if i = 11 then pFst else fun _ => 0)),
  fun i => .inr (.inr (.inl (tll.getD i 0)))]
def pfin (g i : Nat) : pD := (pfL.getD g (fun _ => .inl (99, []))) i
abbrev pW : Type := Nat → Nat → Prop
noncomputable def uw (F : Nat → Nat → pD) (W : pW) (U : pU) : pU := fun g j => @ite _ (W g j) (Classical.propDecidable _) (some (F g j)) (U g j)
theorem uw_y {F : Nat → Nat → pD} {W : pW} {U : pU} {g j : Nat} (h : W g j) : uw F W U g j = some (F g j) := by unfold uw; rw [if_pos h]
theorem uw_n {F : Nat → Nat → pD} {W : pW} {U : pU} {g j : Nat} (h : ¬ W g j) : uw F W U g j = U g j := by unfold uw; rw [if_neg h]
theorem uw_p {F : Nat → Nat → pD} {W : pW} {U : pU} {g j : Nat} (h : U g j ≠ none) : uw F W U g j ≠ none := by
  by_cases w : W g j
  · rw [uw_y w]; exact sn_ne
  · rw [uw_n w]; exact h
theorem uw_0 {F : Nat → Nat → pD} {W : pW} {U : pU} (h : ∀ x y, ¬ W x y) : uw F W U = U := by
  funext x y
  exact uw_n (h x y)
theorem uw_us {F : Nat → Nat → pD} {W W2 : pW} {U : pU} {g i : Nat} {D : pD} (hD : D = F g i) (h : ∀ x y, W2 x y ↔ W x y ∨ (x = g ∧ y = i)) : us (uw F W U) g i D = uw F W2 U := by
  funext x y
  by_cases q : x = g ∧ y = i
  · rw [uw_y ((h x y).mpr (Or.inr q)), q.1, q.2, us_self, hD]
  · rw [us_ne q]
    by_cases w : W x y
    · rw [uw_y w, uw_y ((h x y).mpr (Or.inl w))]
    · rw [uw_n w, uw_n (fun e => by rcases (h x y).mp e with a | a; exact w a; exact q a)]
theorem uw_uw {F : Nat → Nat → pD} {W V W2 : pW} {U : pU} (h : ∀ x y, W2 x y ↔ W x y ∨ V x y) : uw F W (uw F V U) = uw F W2 U := by
  funext x y
  by_cases w : W x y
  · rw [uw_y w, uw_y ((h x y).mpr (Or.inl w))]
  · rw [uw_n w]
    by_cases v : V x y
    · rw [uw_y v, uw_y ((h x y).mpr (Or.inr v))]
    · rw [uw_n v, uw_n (fun e => by rcases (h x y).mp e with a | a; exact w a; exact v a)]
/-- an object made whole beneath one still in making -/
theorem uw_sub {F : Nat → Nat → pD} {Wx W W2 : pW} {U : pU} {g0 i0 g i : Nat} {D Dd : pD} (hWx : Wx g i) (hx0 : ¬ Wx g0 i0) (h : ∀ x y, W2 x y ↔ W x y ∨ Wx x y) : uw F Wx (us (us (uw F W U) g0 i0 D) g i Dd) = us (uw F W2 U) g0 i0 D := by
  funext x y
  by_cases w : Wx x y
  · have q : ¬ (x = g0 ∧ y = i0) := fun e => hx0 (by rw [← e.1, ← e.2]; exact w)
    rw [uw_y w, us_ne q, uw_y ((h x y).mpr (Or.inr w))]
  · have q2 : ¬ (x = g ∧ y = i) := fun e => w (by rw [e.1, e.2]; exact hWx)
    rw [uw_n w, us_ne q2]
    by_cases q : x = g0 ∧ y = i0
    · rw [q.1, q.2, us_self, us_self]
    · rw [us_ne q, us_ne q]
      by_cases v : W x y
      · rw [uw_y v, uw_y ((h x y).mpr (Or.inl v))]
      · rw [uw_n v, uw_n (fun e => by rcases (h x y).mp e with a | a; exact v a; exact w a)]
theorem uw_pr {F G : Nat → Nat → pD} {W : pW} {U : pU} (h : ∀ x y, W x y → F x y = G x y) : uw F W U = uw G W U := by
  funext x y
  by_cases w : W x y
  · rw [uw_y w, uw_y w, h x y w]
  · rw [uw_n w, uw_n w]
theorem ag_us {F : Nat → Nat → pD} {W : pW} {U : pU} {g0 i0 : Nat} {D : pD} {a0 a1 a2 : Nat → Nat → Nat} (h1 : pAg U a0 a1) (h2 : pAg (us (uw F W U) g0 i0 D) a1 a2) : pAg U a0 a2 := pAg_tr h1 h2 (fun _ _ q => us_p (uw_p q))
/-! rows for an object in making at g0, i0 -/
theorem c_int {z : xZ} {d : Nat} {M : xMI} {mc ms : Nat} {Q : xQ} {pc : Nat} {lo : xLoc} {st : List Value} {μ : xMem} {b : Nat × Nat} {F : Nat → Nat → pD} {W : pW} {U : pU} {ad0 ad : Nat → Nat → Nat} {g i j ix ci : Nat} {fs fs2 : List pV} {v : Int} {ty : FieldType} (q : Nat) (h0 : decode M.2.1 pc = .ok (.putfield ix, 3)) (hq : pc + 3 = q) (hx : ∀ z, xFp (Cf z) M.1.cls ix ci j ty) (hB : PB z.1 μ ad (us (uw F W U) g i (.inl (ci, fs)))) (hA : pAg U ad0 ad) (hU : U g i ≠ none) (hj : j < fs.length) (hv : narrow ty (.int (iI v)) = .int (iI v)) (hf : fits ty (.int (iI v)) = true) (hs : fs.set j (.inl v) = fs2) (k : ∀ μ2, PB z.1 μ2 ad (us (uw F W U) g i (.inl (ci, fs2))) → Ex (Cf z) (d + 1) M mc ms Q q lo st μ2 b) : Ex (Cf z) (d + 1) M mc ms Q pc lo (.int (iI v) :: .ref (ad0 g i) :: st) μ b := by
  subst hs
  exact p_putI q h0 hq hx hv hf hB (hA g i hU) hj k
theorem c_ref {z : xZ} {d : Nat} {M : xMI} {mc ms : Nat} {Q : xQ} {pc : Nat} {lo : xLoc} {st : List Value} {μ : xMem} {b : Nat × Nat} {F : Nat → Nat → pD} {W : pW} {U : pU} {ad0 ad : Nat → Nat → Nat} {g i j ix ci g1 i1 : Nat} {fs fs2 : List pV} {ty : FieldType} (q : Nat) (h0 : decode M.2.1 pc = .ok (.putfield ix, 3)) (hq : pc + 3 = q) (hx : ∀ z, xFf (Cf z) M.1.cls ix ci j ty) (hm : M.1.name = "<init>") (hB : PB z.1 μ ad (us (uw F W U) g i (.inl (ci, fs)))) (hA : pAg U ad0 ad) (hU : U g i ≠ none) (hp : uw F W U g1 i1 ≠ none) (hj : j < fs.length) (hv : ∀ a, narrow ty (.ref a) = .ref a) (hf : ∀ a, fits ty (.ref a) = true) (hs : fs.set j (.inr (some (g1, i1))) = fs2) (k : ∀ μ2, PB z.1 μ2 ad (us (uw F W U) g i (.inl (ci, fs2))) → Ex (Cf z) (d + 1) M mc ms Q q lo st μ2 b) : Ex (Cf z) (d + 1) M mc ms Q pc lo (.ref (ad g1 i1) :: .ref (ad0 g i) :: st) μ b := by
  subst hs
  exact p_putR q h0 hq hx hm hv hf hB (hA g i hU) rfl hp hj k

theorem c_newi {z : xZ} {d : Nat} {M : xMI} {mc ms : Nat} {Q : xQ} {pc : Nat} {lo : xLoc} {st : List Value} {μ : xMem} {b : Nat × Nat} {F : Nat → Nat → pD} {W : pW} {U : pU} {ad0 ad : Nat → Nat → Nat} {g0 i0 : Nat} {D : pD} {n : Int}  (W2 : pW) (g i N : Nat) (b2 : Nat × Nat) (q : Nat) (h0 : decode M.2.1 pc = .ok (.newarray .int, 2)) (hq : pc + 2 = q) (hn : n = (N : Int)) (hN : N ≤ 4096) (h6 : b.1 + 1 ≤ mc) (h7 : b.2 + N ≤ ms) (hB : PB z.1 μ ad (us (uw F W U) g0 i0 D)) (hA : pAg U ad0 ad) (hne : ¬ (g = g0 ∧ i = i0)) (hU : U g i = none) (hW : ¬ W g i) (hF : .inr (.inl (N, fun _ => 0)) = F g i) (hW2 : ∀ x y, W2 x y ↔ W x y ∨ (x = g ∧ y = i)) (hb : (b.1 + 1, b.2 + N) = b2) (k : ∀ μ2 ad2, PB z.1 μ2 ad2 (us (uw F W2 U) g0 i0 D) → pAg U ad0 ad2 → Ex (Cf z) (d + 1) M mc ms Q q lo (.ref (ad2 g i) :: st) μ2 b2) : Ex (Cf z) (d + 1) M mc ms Q pc lo (.int (iI n) :: st) μ b := by
  subst hb
  refine p_newi g i N q h0 hq hn hN h6 h7 hB (by rw [us_ne hne, uw_n hW]; exact hU) (fun μ2 ad2 b1 a1 => k μ2 ad2 ?_ (ag_us hA a1))
  rw [us_cm hne, uw_us hF hW2] at b1
  exact b1
theorem c_newl {z : xZ} {d : Nat} {M : xMI} {mc ms : Nat} {Q : xQ} {pc : Nat} {lo : xLoc} {st : List Value} {μ : xMem} {b : Nat × Nat} {F : Nat → Nat → pD} {W : pW} {U : pU} {ad0 ad : Nat → Nat → Nat} {g0 i0 : Nat} {D : pD} {n : Int}  (W2 : pW) (g i N : Nat) (b2 : Nat × Nat) (q : Nat) (h0 : decode M.2.1 pc = .ok (.newarray .long, 2)) (hq : pc + 2 = q) (hn : n = (N : Int)) (hN : N ≤ 4096) (h6 : b.1 + 1 ≤ mc) (h7 : b.2 + N ≤ ms) (hB : PB z.1 μ ad (us (uw F W U) g0 i0 D)) (hA : pAg U ad0 ad) (hne : ¬ (g = g0 ∧ i = i0)) (hU : U g i = none) (hW : ¬ W g i) (hF : .inr (.inr (.inl N)) = F g i) (hW2 : ∀ x y, W2 x y ↔ W x y ∨ (x = g ∧ y = i)) (hb : (b.1 + 1, b.2 + N) = b2) (k : ∀ μ2 ad2, PB z.1 μ2 ad2 (us (uw F W2 U) g0 i0 D) → pAg U ad0 ad2 → Ex (Cf z) (d + 1) M mc ms Q q lo (.ref (ad2 g i) :: st) μ2 b2) : Ex (Cf z) (d + 1) M mc ms Q pc lo (.int (iI n) :: st) μ b := by
  subst hb
  refine p_newl g i N q h0 hq hn hN h6 h7 hB (by rw [us_ne hne, uw_n hW]; exact hU) (fun μ2 ad2 b1 a1 => k μ2 ad2 ?_ (ag_us hA a1))
  rw [us_cm hne, uw_us hF hW2] at b1
  exact b1
theorem c_newq {z : xZ} {d : Nat} {M : xMI} {mc ms : Nat} {Q : xQ} {pc : Nat} {lo : xLoc} {st : List Value} {μ : xMem} {b : Nat × Nat} {F : Nat → Nat → pD} {W : pW} {U : pU} {ad0 ad : Nat → Nat → Nat} {g0 i0 : Nat} {D : pD} {n : Int} {ix : Nat} {C : String} (W2 : pW) (g i t N : Nat) (b2 : Nat × Nat) (q : Nat) (h0 : decode M.2.1 pc = .ok (.anewarray ix, 3)) (hq : pc + 3 = q) (h1 : ∀ z, Cond.classLink M.1.cls ix C ∈ (Cf z).1 ∧ Cond.arrayOver (.object C) ∈ (Cf z).2.1) (ht : (xtys z)[t]? = some (z.1 t, .object C)) (hn : n = (N : Int)) (hN : N ≤ 4096) (h6 : b.1 + 1 ≤ mc) (h7 : b.2 + N ≤ ms) (hB : PB z.1 μ ad (us (uw F W U) g0 i0 D)) (hA : pAg U ad0 ad) (hne : ¬ (g = g0 ∧ i = i0)) (hU : U g i = none) (hW : ¬ W g i) (hF : .inr (.inr (.inr (t, N, fun _ => none))) = F g i) (hW2 : ∀ x y, W2 x y ↔ W x y ∨ (x = g ∧ y = i)) (hb : (b.1 + 1, b.2 + N) = b2) (k : ∀ μ2 ad2, PB z.1 μ2 ad2 (us (uw F W2 U) g0 i0 D) → pAg U ad0 ad2 → Ex (Cf z) (d + 1) M mc ms Q q lo (.ref (ad2 g i) :: st) μ2 b2) : Ex (Cf z) (d + 1) M mc ms Q pc lo (.int (iI n) :: st) μ b := by
  subst hb
  refine p_newq g i t N q h0 hq h1 ht hn hN h6 h7 hB (by rw [us_ne hne, uw_n hW]; exact hU) (fun μ2 ad2 b1 a1 => k μ2 ad2 ?_ (ag_us hA a1))
  rw [us_cm hne, uw_us hF hW2] at b1
  exact b1
/-- new, dup, its constructor -/
theorem c_sub {z : xZ} {d : Nat} {M : xMI} {mc ms : Nat} {Q : xQ} {pc : Nat} {lo : xLoc} {st : List Value} {μ : xMem} {b : Nat × Nat} {V : pU} {ad : Nat → Nat → Nat} {ix ix2 ci : Nat} {r : vw_C} {ty : Nat → FieldType} {N : xMI} (Wx : pW) (g i : Nat) (fs : List pV) (mc2 ms2 : Nat) (b2 : Nat × Nat) (q q1 q2 : Nat) (h0 : decode M.2.1 pc = .ok (.new ix, 3)) (hq1 : pc + 3 = q1) (h1 : decode M.2.1 q1 = .ok (.dup, 1)) (hq2 : q1 + 1 = q2) (h2 : decode M.2.1 q2 = .ok (.invokespecial ix2, 3)) (hq : q2 + 3 = q) (n1 : ∀ z, Cond.classLink M.1.cls ix r.1 ∈ (Cf z).1 ∧ Cond.instantiable r.1 r.2.2 ∈ (Cf z).1 ∧ Cond.initialized r.1 ∈ (Cf z).1) (hc : xcl[ci]? = some r) (h5 : ∀ k, k < r.2.2 → parseFieldDescriptor (r.2.1 k).2.2.1 = some (ty k)) (h6 : ∀ j, j < r.2.2 → defaultValue (ty j) = vp_V (fs.map (pfv (fun _ _ => 0))) j) (hr : ∀ v ∈ fs, v = .inl 0 ∨ v = .inr none) (n2 : ∀ z, xCi (Cf z) M.1.cls ix2 N 0 ∨ ∃ h, xCiN (Cf z) M.1.cls ix2 N 0 h) (hw : (st.map fun v => v.category).sum ≤ 7) (hN : 1 ≤ N.2.2.1) (hm : b.1 + 1 + mc2 ≤ mc) (hs : b.2 + r.2.2 + ms2 ≤ ms) (hb : (b.1 + 1 + mc2, b.2 + r.2.2 + ms2) = b2) (hB : PB z.1 μ ad V) (hV : V g i = none) (hk : ∀ (Q2 : xQ) μ1 ad1, PB z.1 μ1 ad1 (us V g i (.inl (ci, fs))) → (∀ μ2 ad2, PB z.1 μ2 ad2 (uw pfin Wx (us V g i (.inl (ci, fs)))) → pAg (us V g i (.inl (ci, fs))) ad1 ad2 → Q2 none μ2) → Ex (Cf z) d N mc2 ms2 Q2 0 (xbeg N.2.2.1 (.ref (ad1 g i) :: [])) [] μ1 (0, 0)) (k : ∀ μ2 ad2, PB z.1 μ2 ad2 (uw pfin Wx (us V g i (.inl (ci, fs)))) → pAg V ad ad2 → Ex (Cf z) (d + 1) M mc ms Q q lo (.ref (ad2 g i) :: st) μ2 b2) : Ex (Cf z) (d + 1) M mc ms Q pc lo st μ b := by
  subst hb
  refine p_new g i fs q1 h0 hq1 n1 hc h5 h6 hr (by omega) (by omega) hB hV (fun μ1 ad1 b1 a1 => ?_)
  refine p_dup q2 h1 hq2 ?_
  refine p_calli mc2 ms2 q h2 hq n2 ?_ hm hs hN rfl ?_
  · rw [List.map_cons, List.sum_cons]
    exact Nat.add_le_add (Nat.le_refl 1) hw
  · refine hk _ μ1 ad1 b1 (fun μ2 ad2 b3 a3 => ?_)
    rw [← a3 g i (by rw [us_self]; exact sn_ne)]
    exact k μ2 ad2 b3 (pAg_tr a1 a3 (fun _ _ q => us_p q))
theorem uw_sub2 {F G : Nat → Nat → pD} {Wx W W2 : pW} {U : pU} {g0 i0 g i : Nat} {D Dd : pD} (hFG : ∀ x y, Wx x y → G x y = F x y) (hWx : Wx g i) (hx0 : ¬ Wx g0 i0) (h : ∀ x y, W2 x y ↔ W x y ∨ Wx x y) : uw G Wx (us (us (uw F W U) g0 i0 D) g i Dd) = us (uw F W2 U) g0 i0 D := by
  rw [uw_pr hFG]
  exact uw_sub hWx hx0 h
theorem p_iload {z : xZ} {d : Nat} {M : xMI} {mc ms : Nat} {Q : xQ} {pc : Nat} {lo : xLoc} {st : List Value} {μ : xMem} {b : Nat × Nat} {i : Fin 4} {x : Int32} (q : Nat) (h0 : decode M.2.1 pc = .ok (.iload_n i, 1)) (hq : pc + 1 = q) (h1 : lo[(i : Nat)]? = some (some (.int x))) (k : Ex (Cf z) (d + 1) M mc ms Q q lo (.int x :: st) μ b) : Ex (Cf z) (d + 1) M mc ms Q pc lo st μ b := by
  subst hq
  exact e_iloadN h0 h1 k
theorem p_istore1 {z : xZ} {d : Nat} {M : xMI} {mc ms : Nat} {Q : xQ} {pc : Nat} {st : List Value} {μ : xMem} {b : Nat × Nat} {v0 v1 : Option Value} {r : xLoc} {x : Int32} (q : Nat) (h0 : decode M.2.1 pc = .ok (.istore_n 1, 1)) (hq : pc + 1 = q) (hk : xk v0 = v0) (hn : 1 < M.2.2.1) (k : Ex (Cf z) (d + 1) M mc ms Q q (v0 :: some (.int x) :: r) st μ b) : Ex (Cf z) (d + 1) M mc ms Q pc (v0 :: v1 :: r) (.int x :: st) μ b := by
  subst hq
  have e : (xk v0 :: some (.int x) :: r : xLoc) = v0 :: some (.int x) :: r := by rw [hk]
  rw [← e] at k; exact e_istoreN h0 hn k
theorem p_iinc1 {z : xZ} {d : Nat} {M : xMI} {mc ms : Nat} {Q : xQ} {pc : Nat} {st : List Value} {μ : xMem} {b : Nat × Nat} {v0 : Option Value} {r : xLoc} {a n : Int} (q : Nat) (h0 : decode M.2.1 pc = .ok (.iinc 1 n, 3)) (hq : pc + 3 = q) (hk : xk v0 = v0) (hn : 1 < M.2.2.1) (k : Ex (Cf z) (d + 1) M mc ms Q q (v0 :: some (.int (iI (a + n))) :: r) st μ b) : Ex (Cf z) (d + 1) M mc ms Q pc (v0 :: some (.int (iI a)) :: r) st μ b := by
  subst hq
  have e : (xk v0 :: some (.int (iI (a + n))) :: r : xLoc) = v0 :: some (.int (iI (a + n))) :: r := by rw [hk]
  rw [← e] at k; rw [← iI_add] at k
  exact e_iinc h0 rfl hn k
theorem p_icge {z : xZ} {d : Nat} {M : xMI} {mc ms : Nat} {Q : xQ} {pc : Nat} {lo : xLoc} {st : List Value} {μ : xMem} {b : Nat × Nat} {a a2 : Int} {off : Int} (tgt : Nat) (q : Nat) (h0 : decode M.2.1 pc = .ok (.if_icmp .ge off, 3)) (hq : pc + 3 = q) (ht : (pc : Int) + off = (tgt : Int)) (ha : inR a) (hb : inR a2) (k1 : a2 ≤ a → Ex (Cf z) (d + 1) M mc ms Q tgt lo st μ b) (k2 : a < a2 → Ex (Cf z) (d + 1) M mc ms Q q lo st μ b) : Ex (Cf z) (d + 1) M mc ms Q pc lo (.int (iI a2) :: .int (iI a) :: st) μ b := by
  subst hq
  refine e_icge h0 ht (fun e => k1 ?_) (fun e => k2 ?_) <;> rw [iI_le] at e <;> first | assumption | omega
theorem p_goto {z : xZ} {d : Nat} {M : xMI} {mc ms : Nat} {Q : xQ} {pc : Nat} {lo : xLoc} {st : List Value} {μ : xMem} {b : Nat × Nat} {off : Int} (tgt : Nat) (h0 : decode M.2.1 pc = .ok (.goto off, 3)) (ht : (pc : Int) + off = (tgt : Int)) (k : Ex (Cf z) (d + 1) M mc ms Q tgt lo st μ b) : Ex (Cf z) (d + 1) M mc ms Q pc lo st μ b := e_goto h0 ht k
theorem p_getf {z : xZ} {d : Nat} {M : xMI} {mc ms : Nat} {Q : xQ} {pc : Nat} {lo : xLoc} {st : List Value} {μ : xMem} {b : Nat × Nat} {U : pU} {ad : Nat → Nat → Nat} {g i j ix ci o : Nat} {fs : List pV} {v : pV} (q : Nat) (h0 : decode M.2.1 pc = .ok (.getfield ix, 3)) (hq : pc + 3 = q) (hx : ∀ z, xFd (Cf z) M.1.cls ix ci j) (hB : PB z.1 μ ad U) (hU : U g i = some (.inl (ci, fs))) (ho : ad g i = o) (hj : fs[j]? = some v) (k : Ex (Cf z) (d + 1) M mc ms Q q lo (pfv ad v :: st) μ b) : Ex (Cf z) (d + 1) M mc ms Q pc lo (.ref o :: st) μ b := by
  subst hq; subst ho
  exact e_getf h0 (hx z) (PB_at hB hU) (by rw [List.getElem?_map, hj]; rfl) k
theorem p_aast {z : xZ} {d : Nat} {M : xMI} {mc ms : Nat} {Q : xQ} {pc : Nat} {lo : xLoc} {st : List Value} {μ : xMem} {b : Nat × Nat} {U : pU} {ad : Nat → Nat → Nat} {g i t n gv iv ci : Nat} {r : vw_C} {f : Nat → Option (Nat × Nat)} {vs : List pV} {j : Nat} (q : Nat) (h0 : decode M.2.1 pc = .ok (.aastore, 1)) (hq : pc + 1 = q) (hc : xcl[ci]? = some r) (ht : (xtys z)[t]? = some (z.1 t, .object r.1)) (hB : PB z.1 μ ad U) (hU : U g i = some (.inr (.inr (.inr (t, n, f))))) (hv : U gv iv = some (.inl (ci, vs))) (hj : j < n) (hn : n ≤ 4096) (k : ∀ μ2, PB z.1 μ2 ad (us U g i (.inr (.inr (.inr (t, n, fun x => if x = j then some (gv, iv) else f x))))) → Ex (Cf z) (d + 1) M mc ms Q q lo st μ2 b) : Ex (Cf z) (d + 1) M mc ms Q pc lo (.ref (ad gv iv) :: .int (iI (j : Int)) :: .ref (ad g i) :: st) μ b := by
  subst hq
  refine e_aast (t := t) (cA := z.1 t) (n := n) (r := r) h0 hc ht (PB_at hB hU) (PB_at hB hv) (iI_in (by omega) (by omega) (by omega)) (k _ ?_)
  refine PB_set hB (sm_ne hU) (fun ad2 hg => ?_)
  have e1 := hB.1 g i _ hU ad2 hg
  rw [PB_at hB hU] at e1
  have e2 : (fun x => (f x).map (fun y => ad y.1 y.2)) = fun x => (f x).map (fun y => ad2 y.1 y.2) := Sum.inr.inj (Sum.inr.inj (Sum.inr.inj (Sum.inr.inj (congrArg Prod.snd (congrArg Prod.snd (Sum.inl.inj (Option.some.inj e1)))))))
  rw [iI_nat (by omega) (by omega), Int.toNat_natCast]
  unfold pev
  refine congrArg (fun h => Sum.inl (z.1 t, n, Sum.inr (Sum.inr (Sum.inr (Sum.inr h))))) ?_
  funext x
  unfold va_up
  show (if x = j then some (gv, iv) else f x : Option (Nat × Nat)).map (fun y => ad2 y.1 y.2) = if x = j then some (ad gv iv) else (f x).map (fun y => ad y.1 y.2)
  by_cases q : x = j
  · rw [if_pos q, if_pos q, Option.map_some, hg gv iv (sm_ne hv)]
  · rw [if_neg q, if_neg q]
    exact (congrFun e2 x).symm
