/-! ===== the memory while it is made: cells placed so far, what each holds ===== -/
theorem wAI (z : xZ) : Cond.arrayClass .int ∈ (Cf z).1 := bw 162 (by decide +kernel) rfl
theorem wAL (z : xZ) : Cond.arrayClass .long ∈ (Cf z).1 := bw 372 (by decide +kernel) rfl
theorem wOI (z : xZ) : Cond.instanceMethod objectInit ∈ (Cf z).1 := bw 105 (by decide +kernel) rfl
theorem wOC (z : xZ) : Cond.code objectInit ⟨#[0xb1]⟩ 1 none ∈ (Cf z).1 := bw 106 (by decide +kernel) rfl
abbrev pV : Type := Int ⊕ Option (Nat × Nat)
/-- object; ints; longs (all 0); refs -/
abbrev pD : Type := (Nat × List pV) ⊕ ((Nat × (Nat → Int)) ⊕ (Nat ⊕ (Nat × Nat × (Nat → Option (Nat × Nat)))))
abbrev pU : Type := Nat → Nat → Option pD
def pfv (ad : Nat → Nat → Nat) : pV → Value
  | .inl n => .int (iI n)
  | .inr none => .null
  | .inr (some q) => .ref (ad q.1 q.2)
def pev (k : Nat → ClassId) (ad : Nat → Nat → Nat) : pD → va_E
  | .inl q => .inr (q.1, q.2.map (pfv ad))
  | .inr (.inl q) => .inl (k 0, q.1, .inl (fun j => iI (q.2 j)))
  | .inr (.inr (.inl n)) => .inl (k 1, n, .inr (.inl (fun _ => 0)))
  | .inr (.inr (.inr q)) => .inl (k q.1, q.2.1, .inr (.inr (.inr (.inr (fun j => (q.2.2 j).map (fun x => ad x.1 x.2))))))
def pAg (U : pU) (ad ad2 : Nat → Nat → Nat) : Prop := ∀ g i, U g i ≠ none → ad2 g i = ad g i
def PB (k : Nat → ClassId) (μ : xMem) (ad : Nat → Nat → Nat) (U : pU) : Prop := (∀ g i D, U g i = some D → ∀ ad2, pAg U ad ad2 → μ (ad g i) = some (pev k ad2 D)) ∧ (∀ g i g2 i2, U g i ≠ none → U g2 i2 ≠ none → ad g i = ad g2 i2 → g = g2 ∧ i = i2) ∧ ∀ a, μ a ≠ none → ∃ g i, U g i ≠ none ∧ ad g i = a
def us (U : pU) (g i : Nat) (D : pD) : pU := fun g2 i2 => if g2 = g ∧ i2 = i then some D else U g2 i2
def ua (ad : Nat → Nat → Nat) (g i a : Nat) : Nat → Nat → Nat := fun g2 i2 => if g2 = g ∧ i2 = i then a else ad g2 i2
theorem sn_ne {α : Type} {x : α} : some x ≠ none := by simp
theorem us_self (U : pU) (g i : Nat) (D : pD) : us U g i D g i = some D := by unfold us; rw [if_pos ⟨rfl, rfl⟩]
theorem us_ne {U : pU} {g i g2 i2 : Nat} {D : pD} (h : ¬ (g2 = g ∧ i2 = i)) : us U g i D g2 i2 = U g2 i2 := by unfold us; rw [if_neg h]
theorem us_us (U : pU) (g i : Nat) (D D2 : pD) : us (us U g i D) g i D2 = us U g i D2 := by
  funext g2 i2
  unfold us
  by_cases h : g2 = g ∧ i2 = i
  · rw [if_pos h, if_pos h]
  · rw [if_neg h, if_neg h, if_neg h]
theorem us_cm {U : pU} {g i g2 i2 : Nat} {D D2 : pD} (h : ¬ (g2 = g ∧ i2 = i)) : us (us U g i D) g2 i2 D2 = us (us U g2 i2 D2) g i D := by
  funext x y
  unfold us
  by_cases h1 : x = g2 ∧ y = i2
  · rw [if_pos h1, if_neg (by omega), if_pos h1]
  · rw [if_neg h1]
    by_cases h2 : x = g ∧ y = i
    · rw [if_pos h2, if_pos h2]
    · rw [if_neg h2, if_neg h2, if_neg h1]
theorem us_p {U : pU} {g i g2 i2 : Nat} {D : pD} (h : U g2 i2 ≠ none) : us U g i D g2 i2 ≠ none := by
  unfold us
  by_cases q : g2 = g ∧ i2 = i
  · rw [if_pos q]; exact sn_ne
  · rw [if_neg q]; exact h
theorem PB_none {k : Nat → ClassId} {ad : Nat → Nat → Nat} : PB k (fun _ => none) ad (fun _ _ => none) := ⟨fun _ _ _ h => absurd h.symm sn_ne, fun _ _ _ _ h => absurd rfl h, fun _ h => absurd rfl h⟩
theorem PB_at {k : Nat → ClassId} {μ : xMem} {ad : Nat → Nat → Nat} {U : pU} {g i : Nat} {D : pD} (h : PB k μ ad U) (hU : U g i = some D) : μ (ad g i) = some (pev k ad D) := h.1 g i D hU ad (fun _ _ _ => rfl)
theorem sm_ne {α : Type} {o : Option α} {x : α} (h : o = some x) : o ≠ none := by rw [h]; exact sn_ne
theorem PB_new {k : Nat → ClassId} {μ : xMem} {ad : Nat → Nat → Nat} {U : pU} {g i a : Nat} {D : pD} {e : va_E} (h : PB k μ ad U) (hn : U g i = none) (ha : μ a = none) (hD : ∀ ad2, pev k ad2 D = e) : PB k (xup μ a e) (ua ad g i a) (us U g i D) ∧ pAg U ad (ua ad g i a) ∧ ua ad g i a g i = a := by
  have hne : ∀ g2 i2, U g2 i2 ≠ none → ¬ (g2 = g ∧ i2 = i) := fun g2 i2 h2 e => h2 (by rw [e.1, e.2]; exact hn)
  have hag : pAg U ad (ua ad g i a) := fun g2 i2 h2 => by unfold ua; rw [if_neg (hne g2 i2 h2)]
  have hs : ua ad g i a g i = a := by unfold ua; rw [if_pos ⟨rfl, rfl⟩]
  have hx : ∀ g2 i2, U g2 i2 ≠ none → ad g2 i2 ≠ a := fun g2 i2 h2 e => by
    obtain ⟨D2, hD2⟩ := Option.ne_none_iff_exists'.mp h2
    have := PB_at h hD2
    rw [e, ha] at this
    exact sn_ne this.symm
  refine ⟨⟨fun g2 i2 D2 h2 ad2 hg => ?_, fun g2 i2 g3 i3 h2 h3 he => ?_, fun x hx2 => ?_⟩, hag, hs⟩
  · by_cases q : g2 = g ∧ i2 = i
    · obtain ⟨rfl, rfl⟩ := q
      rw [us_self] at h2
      rw [hs, xup_self, ← Option.some.inj h2, hD]
    · rw [us_ne q] at h2
      rw [hag _ _ (sm_ne h2), xup_ne _ _ (hx _ _ (sm_ne h2))]
      exact h.1 g2 i2 D2 h2 ad2 (fun g3 i3 h3 => (hg g3 i3 (us_p h3)).trans (hag _ _ h3))
  · by_cases q : g2 = g ∧ i2 = i
    · by_cases q3 : g3 = g ∧ i3 = i
      · exact ⟨q.1.trans q3.1.symm, q.2.trans q3.2.symm⟩
      · rw [us_ne q3] at h3
        rw [hag _ _ h3, q.1, q.2, hs] at he
        exact absurd he.symm (hx _ _ h3)
    · rw [us_ne q] at h2
      by_cases q3 : g3 = g ∧ i3 = i
      · rw [hag _ _ h2, q3.1, q3.2, hs] at he
        exact absurd he (hx _ _ h2)
      · rw [us_ne q3] at h3
        rw [hag _ _ h2, hag _ _ h3] at he
        exact h.2.1 _ _ _ _ h2 h3 he
  · by_cases q : x = a
    · exact ⟨g, i, by rw [us_self]; exact sn_ne, hs.trans q.symm⟩
    · rw [xup_ne _ _ q] at hx2
      obtain ⟨g2, i2, h2, e2⟩ := h.2.2 x hx2
      exact ⟨g2, i2, us_p h2, (hag _ _ h2).trans e2⟩
theorem PB_set {k : Nat → ClassId} {μ : xMem} {ad : Nat → Nat → Nat} {U : pU} {g i : Nat} {D : pD} {e : va_E} (h : PB k μ ad U) (hU : U g i ≠ none) (hD : ∀ ad2, pAg U ad ad2 → pev k ad2 D = e) : PB k (xup μ (ad g i) e) ad (us U g i D) := by
  have hag : ∀ ad2, pAg (us U g i D) ad ad2 → pAg U ad ad2 := fun ad2 q g2 i2 h2 => q g2 i2 (us_p h2)
  have hpl : ∀ g2 i2, us U g i D g2 i2 ≠ none → U g2 i2 ≠ none := fun g2 i2 h2 => by
    by_cases q : g2 = g ∧ i2 = i
    · rw [q.1, q.2]; exact hU
    · rw [us_ne q] at h2; exact h2
  refine ⟨fun g2 i2 D2 h2 ad2 hg => ?_, fun g2 i2 g3 i3 h2 h3 he => h.2.1 _ _ _ _ (hpl _ _ h2) (hpl _ _ h3) he, fun x hx2 => ?_⟩
  · by_cases q : g2 = g ∧ i2 = i
    · obtain ⟨rfl, rfl⟩ := q
      rw [us_self] at h2
      rw [xup_self, ← Option.some.inj h2, hD _ (hag _ hg)]
    · rw [us_ne q] at h2
      rw [xup_ne _ _ (fun e2 => q (h.2.1 _ _ _ _ (sm_ne h2) hU e2))]
      exact h.1 g2 i2 D2 h2 ad2 (hag _ hg)
  · by_cases q : x = ad g i
    · exact ⟨g, i, by rw [us_self]; exact sn_ne, q.symm⟩
    · rw [xup_ne _ _ q] at hx2
      obtain ⟨g2, i2, h2, e2⟩ := h.2.2 x hx2
      exact ⟨g2, i2, us_p h2, e2⟩
theorem pAg_tr {U V : pU} {a1 a2 a3 : Nat → Nat → Nat} (h1 : pAg U a1 a2) (h2 : pAg V a2 a3) (h : ∀ g i, U g i ≠ none → V g i ≠ none) : pAg U a1 a3 := fun g i q => (h2 g i (h g i q)).trans (h1 g i q)
/-! rows -/
theorem p_iconst {z : xZ} {d : Nat} {M : xMI} {mc ms : Nat} {Q : xQ} {pc : Nat} {lo : xLoc} {st : List Value} {μ : xMem} {b : Nat × Nat} {n : Int} (q : Nat) (h0 : decode M.2.1 pc = .ok (.iconst n, 1)) (hq : pc + 1 = q) (k : Ex (Cf z) (d + 1) M mc ms Q q lo (.int (iI n) :: st) μ b) : Ex (Cf z) (d + 1) M mc ms Q pc lo st μ b := by
  subst hq
  exact e_stk h0 rfl k
theorem p_bipush {z : xZ} {d : Nat} {M : xMI} {mc ms : Nat} {Q : xQ} {pc : Nat} {lo : xLoc} {st : List Value} {μ : xMem} {b : Nat × Nat} {n : Int} (q : Nat) (h0 : decode M.2.1 pc = .ok (.bipush n, 2)) (hq : pc + 2 = q) (h : -128 ≤ n ∧ n < 128) (k : Ex (Cf z) (d + 1) M mc ms Q q lo (.int (iI n) :: st) μ b) : Ex (Cf z) (d + 1) M mc ms Q pc lo st μ b := by
  subst hq
  refine e_stk h0 rfl ?_
  rw [← iI_b n h] at k; exact k
theorem p_sipush {z : xZ} {d : Nat} {M : xMI} {mc ms : Nat} {Q : xQ} {pc : Nat} {lo : xLoc} {st : List Value} {μ : xMem} {b : Nat × Nat} {n : Int} (q : Nat) (h0 : decode M.2.1 pc = .ok (.sipush n, 3)) (hq : pc + 3 = q) (h : -32768 ≤ n ∧ n < 32768) (k : Ex (Cf z) (d + 1) M mc ms Q q lo (.int (iI n) :: st) μ b) : Ex (Cf z) (d + 1) M mc ms Q pc lo st μ b := by
  subst hq
  refine e_stk h0 rfl ?_
  rw [← iI_s n h] at k; exact k
theorem p_aload {z : xZ} {d : Nat} {M : xMI} {mc ms : Nat} {Q : xQ} {pc : Nat} {lo : xLoc} {st : List Value} {μ : xMem} {b : Nat × Nat} {i : Fin 4} {x : Nat} (q : Nat) (h0 : decode M.2.1 pc = .ok (.aload_n i, 1)) (hq : pc + 1 = q) (h1 : lo[(i : Nat)]? = some (some (.ref x))) (k : Ex (Cf z) (d + 1) M mc ms Q q lo (.ref x :: st) μ b) : Ex (Cf z) (d + 1) M mc ms Q pc lo st μ b := by
  subst hq
  exact e_aloadN h0 h1 k
theorem p_dup {z : xZ} {d : Nat} {M : xMI} {mc ms : Nat} {Q : xQ} {pc : Nat} {lo : xLoc} {st : List Value} {μ : xMem} {b : Nat × Nat} {x : Nat} (q : Nat) (h0 : decode M.2.1 pc = .ok (.dup, 1)) (hq : pc + 1 = q) (k : Ex (Cf z) (d + 1) M mc ms Q q lo (.ref x :: .ref x :: st) μ b) : Ex (Cf z) (d + 1) M mc ms Q pc lo (.ref x :: st) μ b := by
  subst hq
  exact e_stk h0 rfl k
theorem p_obj {z : xZ} {d : Nat} {M : xMI} {mc ms : Nat} {Q : xQ} {pc : Nat} {lo : xLoc} {st : List Value} {μ : xMem} {b : Nat × Nat} {i a : Nat} (q : Nat) (h0 : decode M.2.1 pc = .ok (.invokespecial i, 3)) (hq : pc + 3 = q) (h1 : ∀ z, Cond.methodLink M.1.cls i objectInit ∈ (Cf z).1) (h4 : (st.map fun v => v.category).sum ≤ 8) (k : Ex (Cf z) (d + 1) M mc ms Q q lo st μ b) : Ex (Cf z) (d + 1) M mc ms Q pc lo (.ref a :: st) μ b := by
  subst hq
  exact e_obj h0 (h1 z) (wOI z) (wOC z) h4 k
theorem pev_set {k : Nat → ClassId} {ad : Nat → Nat → Nat} {ci j : Nat} {fs : List pV} {v : pV} : pev k ad (.inl (ci, fs.set j v)) = .inr (ci, (fs.map (pfv ad)).set j (pfv ad v)) := by
  unfold pev
  dsimp only
  rw [List.map_set]
theorem p_putI {z : xZ} {d : Nat} {M : xMI} {mc ms : Nat} {Q : xQ} {pc : Nat} {lo : xLoc} {st : List Value} {μ : xMem} {b : Nat × Nat} {U : pU} {ad : Nat → Nat → Nat} {g i j ix ci o : Nat} {fs : List pV} {v : Int} {ty : FieldType} (q : Nat) (h0 : decode M.2.1 pc = .ok (.putfield ix, 3)) (hq : pc + 3 = q) (hx : ∀ z, xFp (Cf z) M.1.cls ix ci j ty) (hv : narrow ty (.int (iI v)) = .int (iI v)) (hf : fits ty (.int (iI v)) = true) (hB : PB z.1 μ ad (us U g i (.inl (ci, fs)))) (ho : ad g i = o) (hj : j < fs.length) (k : ∀ μ2, PB z.1 μ2 ad (us U g i (.inl (ci, fs.set j (.inl v)))) → Ex (Cf z) (d + 1) M mc ms Q q lo st μ2 b) : Ex (Cf z) (d + 1) M mc ms Q pc lo (.int (iI v) :: .ref o :: st) μ b := by
  subst hq; subst ho
  refine e_putf h0 (hx z) hv hf (PB_at hB (us_self _ _ _ _)) (by rw [List.length_map]; exact hj) (k _ ?_)
  rw [← us_us U g i (.inl (ci, fs)) (.inl (ci, fs.set j (.inl v)))]
  refine PB_set hB (sm_ne (us_self _ _ _ _)) (fun ad2 hg => ?_)
  · have e1 := hB.1 g i _ (us_self _ _ _ _) ad2 hg
    rw [PB_at hB (us_self _ _ _ _)] at e1
    have e2 : fs.map (pfv ad) = fs.map (pfv ad2) := congrArg Prod.snd (Sum.inr.inj (Option.some.inj e1))
    rw [pev_set, e2]
    rfl
theorem p_putR {z : xZ} {d : Nat} {M : xMI} {mc ms : Nat} {Q : xQ} {pc : Nat} {lo : xLoc} {st : List Value} {μ : xMem} {b : Nat × Nat} {U : pU} {ad : Nat → Nat → Nat} {g i j ix ci o g1 i1 a : Nat} {fs : List pV} {ty : FieldType} (q : Nat) (h0 : decode M.2.1 pc = .ok (.putfield ix, 3)) (hq : pc + 3 = q) (hx : ∀ z, xFf (Cf z) M.1.cls ix ci j ty) (hm : M.1.name = "<init>") (hv : ∀ a, narrow ty (.ref a) = .ref a) (hf : ∀ a, fits ty (.ref a) = true) (hB : PB z.1 μ ad (us U g i (.inl (ci, fs)))) (ho : ad g i = o) (ha : ad g1 i1 = a) (hp : U g1 i1 ≠ none) (hj : j < fs.length) (k : ∀ μ2, PB z.1 μ2 ad (us U g i (.inl (ci, fs.set j (.inr (some (g1, i1)))))) → Ex (Cf z) (d + 1) M mc ms Q q lo st μ2 b) : Ex (Cf z) (d + 1) M mc ms Q pc lo (.ref a :: .ref o :: st) μ b := by
  subst hq; subst ho; subst ha
  refine e_putF h0 (hx z) hm (hv _) (hf _) (PB_at hB (us_self _ _ _ _)) (by rw [List.length_map]; exact hj) (k _ ?_)
  rw [← us_us U g i (.inl (ci, fs)) (.inl (ci, fs.set j (.inr (some (g1, i1)))))]
  refine PB_set hB (sm_ne (us_self _ _ _ _)) (fun ad2 hg => ?_)
  · have e1 := hB.1 g i _ (us_self _ _ _ _) ad2 hg
    rw [PB_at hB (us_self _ _ _ _)] at e1
    have e2 : fs.map (pfv ad) = fs.map (pfv ad2) := congrArg Prod.snd (Sum.inr.inj (Option.some.inj e1))
    rw [pev_set, e2]
    rw [show pfv ad2 (.inr (some (g1, i1))) = .ref (ad g1 i1) from congrArg Value.ref (hg g1 i1 (us_p hp))]
/-- ints, longs, refs: new -/
theorem p_newi {z : xZ} {d : Nat} {M : xMI} {mc ms : Nat} {Q : xQ} {pc : Nat} {lo : xLoc} {st : List Value} {μ : xMem} {b : Nat × Nat} {U : pU} {ad : Nat → Nat → Nat} {n : Int} (g i N : Nat) (q : Nat) (h0 : decode M.2.1 pc = .ok (.newarray .int, 2)) (hq : pc + 2 = q) (hn : n = (N : Int)) (hN : N ≤ 4096) (h6 : b.1 + 1 ≤ mc) (h7 : b.2 + N ≤ ms) (hB : PB z.1 μ ad U) (hU : U g i = none) (k : ∀ μ2 ad2, PB z.1 μ2 ad2 (us U g i (.inr (.inl (N, fun _ => 0)))) → pAg U ad ad2 → Ex (Cf z) (d + 1) M mc ms Q q lo (.ref (ad2 g i) :: st) μ2 (b.1 + 1, b.2 + N)) : Ex (Cf z) (d + 1) M mc ms Q pc lo (.int (iI n) :: st) μ b := by
  subst hq; subst hn
  have hr : inR (N : Int) := ⟨by omega, by omega⟩
  refine e_newi (t := 0) (cA := z.1 0) (N := N) h0 (wAI z) rfl ?_ ?_ hN h6 h7 (fun a ha => ?_)
  · rw [show (0 : Int32) = iI 0 from rfl, iI_lt hr inR_lit0]; omega
  · rw [iI_nat (by omega) hr.2]; exact Int.toNat_natCast N
  · obtain ⟨h1, h2, h3⟩ := PB_new (D := .inr (.inl (N, fun _ => 0))) (e := .inl (z.1 0, N, .inl (fun _ => 0))) hB hU ha (fun _ => rfl)
    have := k _ _ h1 h2
    rw [h3] at this
    exact this
theorem p_newl {z : xZ} {d : Nat} {M : xMI} {mc ms : Nat} {Q : xQ} {pc : Nat} {lo : xLoc} {st : List Value} {μ : xMem} {b : Nat × Nat} {U : pU} {ad : Nat → Nat → Nat} {n : Int} (g i N : Nat) (q : Nat) (h0 : decode M.2.1 pc = .ok (.newarray .long, 2)) (hq : pc + 2 = q) (hn : n = (N : Int)) (hN : N ≤ 4096) (h6 : b.1 + 1 ≤ mc) (h7 : b.2 + N ≤ ms) (hB : PB z.1 μ ad U) (hU : U g i = none) (k : ∀ μ2 ad2, PB z.1 μ2 ad2 (us U g i (.inr (.inr (.inl N)))) → pAg U ad ad2 → Ex (Cf z) (d + 1) M mc ms Q q lo (.ref (ad2 g i) :: st) μ2 (b.1 + 1, b.2 + N)) : Ex (Cf z) (d + 1) M mc ms Q pc lo (.int (iI n) :: st) μ b := by
  subst hq; subst hn
  have hr : inR (N : Int) := ⟨by omega, by omega⟩
  refine e_newl (t := 1) (cA := z.1 1) (N := N) h0 (wAL z) rfl ?_ ?_ hN h6 h7 (fun a ha => ?_)
  · rw [show (0 : Int32) = iI 0 from rfl, iI_lt hr inR_lit0]; omega
  · rw [iI_nat (by omega) hr.2]; exact Int.toNat_natCast N
  · obtain ⟨h1, h2, h3⟩ := PB_new (D := .inr (.inr (.inl N))) (e := .inl (z.1 1, N, .inr (.inl (fun _ => 0)))) hB hU ha (fun _ => rfl)
    have := k _ _ h1 h2
    rw [h3] at this
    exact this
theorem p_newq {z : xZ} {d : Nat} {M : xMI} {mc ms : Nat} {Q : xQ} {pc : Nat} {lo : xLoc} {st : List Value} {μ : xMem} {b : Nat × Nat} {U : pU} {ad : Nat → Nat → Nat} {n : Int} {ix : Nat} {C : String} (g i t N : Nat) (q : Nat) (h0 : decode M.2.1 pc = .ok (.anewarray ix, 3)) (hq : pc + 3 = q) (h1 : ∀ z, Cond.classLink M.1.cls ix C ∈ (Cf z).1 ∧ Cond.arrayOver (.object C) ∈ (Cf z).2.1) (ht : (xtys z)[t]? = some (z.1 t, .object C)) (hn : n = (N : Int)) (hN : N ≤ 4096) (h6 : b.1 + 1 ≤ mc) (h7 : b.2 + N ≤ ms) (hB : PB z.1 μ ad U) (hU : U g i = none) (k : ∀ μ2 ad2, PB z.1 μ2 ad2 (us U g i (.inr (.inr (.inr (t, N, fun _ => none))))) → pAg U ad ad2 → Ex (Cf z) (d + 1) M mc ms Q q lo (.ref (ad2 g i) :: st) μ2 (b.1 + 1, b.2 + N)) : Ex (Cf z) (d + 1) M mc ms Q pc lo (.int (iI n) :: st) μ b := by
  subst hq; subst hn
  have hr : inR (N : Int) := ⟨by omega, by omega⟩
  refine e_newq (t := t) (cA := z.1 t) (N := N) h0 (h1 z).1 (h1 z).2 ht ?_ ?_ hN h6 h7 (fun a ha => ?_)
  · rw [show (0 : Int32) = iI 0 from rfl, iI_lt hr inR_lit0]; omega
  · rw [iI_nat (by omega) hr.2]; exact Int.toNat_natCast N
  · obtain ⟨h1, h2, h3⟩ := PB_new (D := .inr (.inr (.inr (t, N, fun _ => none)))) (e := .inl (z.1 t, N, .inr (.inr (.inr (.inr (fun _ => none)))))) hB hU ha (fun _ => rfl)
    have := k _ _ h1 h2
    rw [h3] at this
    exact this
/-- a new object, its fields as they begin -/
theorem p_new {z : xZ} {d : Nat} {M : xMI} {mc ms : Nat} {Q : xQ} {pc : Nat} {lo : xLoc} {st : List Value} {μ : xMem} {b : Nat × Nat} {U : pU} {ad : Nat → Nat → Nat} {ix ci : Nat} {r : vw_C} {ty : Nat → FieldType} (g i : Nat) (fs : List pV) (q : Nat) (h0 : decode M.2.1 pc = .ok (.new ix, 3)) (hq : pc + 3 = q) (h1 : ∀ z, Cond.classLink M.1.cls ix r.1 ∈ (Cf z).1 ∧ Cond.instantiable r.1 r.2.2 ∈ (Cf z).1 ∧ Cond.initialized r.1 ∈ (Cf z).1) (hc : xcl[ci]? = some r) (h5 : ∀ k, k < r.2.2 → parseFieldDescriptor (r.2.1 k).2.2.1 = some (ty k)) (h6 : ∀ j, j < r.2.2 → defaultValue (ty j) = vp_V (fs.map (pfv (fun _ _ => 0))) j) (hr : ∀ v ∈ fs, v = .inl 0 ∨ v = .inr none) (h7 : b.1 + 1 ≤ mc) (h8 : b.2 + r.2.2 ≤ ms) (hB : PB z.1 μ ad U) (hU : U g i = none) (k : ∀ μ2 ad2, PB z.1 μ2 ad2 (us U g i (.inl (ci, fs))) → pAg U ad ad2 → Ex (Cf z) (d + 1) M mc ms Q q lo (.ref (ad2 g i) :: st) μ2 (b.1 + 1, b.2 + r.2.2)) : Ex (Cf z) (d + 1) M mc ms Q pc lo st μ b := by
  subst hq
  refine e_new (ci := ci) (q := r) (ty := ty) (fs := fs.map (pfv (fun _ _ => 0))) h0 (h1 z).1 (h1 z).2.1 (h1 z).2.2 hc h5 h6 h7 h8 (fun a ha => ?_)
  obtain ⟨h1, h2, h3⟩ := PB_new (D := .inl (ci, fs)) (e := .inr (ci, fs.map (pfv (fun _ _ => 0)))) hB hU ha (fun ad2 => by
    unfold pev
    dsimp only
    refine congrArg (fun l => Sum.inr (ci, l)) (List.map_congr_left (fun v hv => ?_))
    rcases hr v hv with e | e <;> rw [e] <;> rfl)
  have := k _ _ h1 h2
  rw [h3] at this
  exact this
theorem p_calli {z : xZ} {d : Nat} {M : xMI} {mc ms : Nat} {Q : xQ} {pc : Nat} {lo : xLoc} {st : List Value} {μ : xMem} {b : Nat × Nat} {ix a : Nat} {N : xMI} {lo2 : xLoc} (mc2 ms2 : Nat) (q : Nat) (h0 : decode M.2.1 pc = .ok (.invokespecial ix, 3)) (hq : pc + 3 = q) (h1 : ∀ z, xCi (Cf z) M.1.cls ix N 0 ∨ ∃ h, xCiN (Cf z) M.1.cls ix N 0 h) (h4 : (st.map fun v => v.category).sum ≤ 8) (h5 : b.1 + mc2 ≤ mc) (h6 : b.2 + ms2 ≤ ms) (h7 : (lg_sl (.ref a :: [])).length ≤ N.2.2.1) (he : xbeg N.2.2.1 (.ref a :: []) = lo2) (k : Ex (Cf z) d N mc2 ms2 (fun r μ2 => Ex (Cf z) (d + 1) M mc ms Q q lo (xpush r st) μ2 (b.1 + mc2, b.2 + ms2)) 0 lo2 [] μ (0, 0)) : Ex (Cf z) (d + 1) M mc ms Q pc lo (.ref a :: st) μ b := by
  subst hq; subst he
  exact e_calli (As := []) (rest := st) h0 (h1 z) rfl h4 h5 h6 h7 rfl k

