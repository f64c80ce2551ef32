/-! ===== the made memory is the typed one of the beginning ===== -/
theorem W_c0 {i : Nat} (h : i < 1) : wA0 0 i := by
  obtain rfl : i = 0 := by omega
  exact Or.inl wR0_0
theorem W_c1 {i : Nat} (h : i < 1) : wA0 1 i := by
  obtain rfl : i = 0 := by omega
  exact Or.inl wR0_1
theorem W_sh {g i : Nat} (hg : g = 2 ∨ g = 3) (h : i < 8) : wA0 g i := Or.inr ⟨hg, h⟩
theorem W_se {g i : Nat} (hg : 5 ≤ g ∧ g ≤ 7) (h : i < 1) : wA0 g i := aSe (Or.inl ⟨by omega, hg.1, hg.2⟩)
theorem W_to {g i : Nat} (hg : 8 ≤ g ∧ g ≤ 11 ∨ 16 ≤ g ∧ g ≤ 27) (h : i < 2) : wA0 g i := by
  rcases (show i = 0 ∨ i = 1 by omega) with rfl | rfl
  · exact aSe (Or.inr (Or.inl ⟨rfl, hg⟩))
  · exact aTo (Or.inl ⟨rfl, hg⟩)
theorem W_pe {i : Nat} (h : i < 24) : wA0 12 i := by
  by_cases q : i < 12
  · exact aSe (Or.inr (Or.inr (Or.inl ⟨rfl, by omega, by omega⟩)))
  · exact aTo (Or.inr (Or.inl ⟨rfl, by omega, by omega⟩))
theorem W_so {i : Nat} (h : i < 28) : wA0 13 i := by
  by_cases q : i < 14
  · exact aSe (Or.inr (Or.inr (Or.inr (Or.inl ⟨rfl, by omega, by omega⟩))))
  · exact aTo (Or.inr (Or.inr (Or.inl ⟨rfl, by omega, by omega⟩)))
theorem W_pl {g i : Nat} (hg : g = 14 ∨ 41 ≤ g ∧ g ≤ 45) (h : i < 17) : wA0 g i := by
  by_cases q : i < 8
  · exact aSe (Or.inr (Or.inr (Or.inr (Or.inr ⟨hg, by omega, by omega⟩))))
  · by_cases q2 : i < 16
    · exact aTo (Or.inr (Or.inr (Or.inr ⟨hg, by omega, by omega⟩)))
    · exact aRe (Or.inr ⟨by omega, hg⟩)
theorem W_re {g i : Nat} (hg : 30 ≤ g ∧ g ≤ 32) (h : i < 1) : wA0 g i := aRe (Or.inl ⟨by omega, hg.1, hg.2⟩)
theorem W_ac {g i : Nat} (hg : g = 33 ∨ g = 34) (h : i < 1) : wA0 g i := aAc ⟨by omega, hg⟩
theorem W_rf {i : Nat} (h : i < 1) : wA0 35 i := by
  obtain rfl : i = 0 := by omega
  exact a35_s
theorem W_mo {i : Nat} (h : i < 1) : wMo 50 i := Or.inl ⟨rfl, by omega⟩
theorem tokW_ {g i : Nat} (h1 : i < tcnt g) (h2 : g = 51 → tml.getD i 0 ≠ 0) (h3 : g = 52 → tll.getD i 0 ≠ 0) : wA0 g i ∨ wMo g i := by
  match g, h1, h2, h3 with
  | 0, h1, h2, h3 => exact Or.inl (W_c0 h1)
  | 1, h1, h2, h3 => exact Or.inl (W_c1 h1)
  | 2, h1, h2, h3 => exact Or.inl (W_sh (by omega) h1)
  | 3, h1, h2, h3 => exact Or.inl (W_sh (by omega) h1)
  | 4, h1, h2, h3 => exact absurd h1 (Nat.not_lt_zero i)
  | 5, h1, h2, h3 => exact Or.inl (W_se (by omega) h1)
  | 6, h1, h2, h3 => exact Or.inl (W_se (by omega) h1)
  | 7, h1, h2, h3 => exact Or.inl (W_se (by omega) h1)
  | 8, h1, h2, h3 => exact Or.inl (W_to (by omega) h1)
  | 9, h1, h2, h3 => exact Or.inl (W_to (by omega) h1)
  | 10, h1, h2, h3 => exact Or.inl (W_to (by omega) h1)
  | 11, h1, h2, h3 => exact Or.inl (W_to (by omega) h1)
  | 12, h1, h2, h3 => exact Or.inl (W_pe h1)
  | 13, h1, h2, h3 => exact Or.inl (W_so h1)
  | 14, h1, h2, h3 => exact Or.inl (W_pl (by omega) h1)
  | 15, h1, h2, h3 => exact absurd h1 (Nat.not_lt_zero i)
  | 16, h1, h2, h3 => exact Or.inl (W_to (by omega) h1)
  | 17, h1, h2, h3 => exact Or.inl (W_to (by omega) h1)
  | 18, h1, h2, h3 => exact Or.inl (W_to (by omega) h1)
  | 19, h1, h2, h3 => exact Or.inl (W_to (by omega) h1)
  | 20, h1, h2, h3 => exact Or.inl (W_to (by omega) h1)
  | 21, h1, h2, h3 => exact Or.inl (W_to (by omega) h1)
  | 22, h1, h2, h3 => exact Or.inl (W_to (by omega) h1)
  | 23, h1, h2, h3 => exact Or.inl (W_to (by omega) h1)
  | 24, h1, h2, h3 => exact Or.inl (W_to (by omega) h1)
  | 25, h1, h2, h3 => exact Or.inl (W_to (by omega) h1)
  | 26, h1, h2, h3 => exact Or.inl (W_to (by omega) h1)
  | 27, h1, h2, h3 => exact Or.inl (W_to (by omega) h1)
  | 28, h1, h2, h3 => exact absurd h1 (Nat.not_lt_zero i)
  | 29, h1, h2, h3 => exact absurd h1 (Nat.not_lt_zero i)
  | 30, h1, h2, h3 => exact Or.inl (W_re (by omega) h1)
  | 31, h1, h2, h3 => exact Or.inl (W_re (by omega) h1)
  | 32, h1, h2, h3 => exact Or.inl (W_re (by omega) h1)
  | 33, h1, h2, h3 => exact Or.inl (W_ac (by omega) h1)
  | 34, h1, h2, h3 => exact Or.inl (W_ac (by omega) h1)
  | 35, h1, h2, h3 => exact Or.inl (W_rf h1)
  | 36, h1, h2, h3 => exact absurd h1 (Nat.not_lt_zero i)
  | 37, h1, h2, h3 => exact absurd h1 (Nat.not_lt_zero i)
  | 38, h1, h2, h3 => exact absurd h1 (Nat.not_lt_zero i)
  | 39, h1, h2, h3 => exact absurd h1 (Nat.not_lt_zero i)
  | 40, h1, h2, h3 => exact absurd h1 (Nat.not_lt_zero i)
  | 41, h1, h2, h3 => exact Or.inl (W_pl (by omega) h1)
  | 42, h1, h2, h3 => exact Or.inl (W_pl (by omega) h1)
  | 43, h1, h2, h3 => exact Or.inl (W_pl (by omega) h1)
  | 44, h1, h2, h3 => exact Or.inl (W_pl (by omega) h1)
  | 45, h1, h2, h3 => exact Or.inl (W_pl (by omega) h1)
  | 46, h1, h2, h3 => exact absurd h1 (Nat.not_lt_zero i)
  | 47, h1, h2, h3 => exact absurd h1 (Nat.not_lt_zero i)
  | 48, h1, h2, h3 => exact absurd h1 (Nat.not_lt_zero i)
  | 49, h1, h2, h3 => exact absurd h1 (Nat.not_lt_zero i)
  | 50, h1, h2, h3 => exact Or.inr (W_mo h1)
  | 51, h1, h2, h3 => exact Or.inr (Or.inr ⟨h1, Or.inl ⟨rfl, h2 rfl⟩⟩)
  | 52, h1, h2, h3 => exact Or.inr (Or.inr ⟨h1, Or.inr ⟨rfl, h3 rfl⟩⟩)
  | n + 53, h1, _, _ => exact absurd h1 (Nat.not_lt_zero i)
theorem tokW {g i : Nat} (h : tok g i) : wA0 g i ∨ wMo g i := tokW_ h.1 h.2.1 h.2.2
theorem pU3_at {g i : Nat} (h : tok g i) : pU3 g i = some (pfin g i) := by
  unfold pU3
  by_cases w : wMo g i
  · exact uw_y w
  · rw [uw_n w]
    unfold pU2
    rw [us_ne (fun q => w (Or.inl q))]
    rcases tokW h with q | q
    · exact uw_y q
    · exact absurd q w
def pnt (D : pD) (j : Nat) : Int := match D with
  | .inl q => (match q.2.getD j (.inl 0) with
    | .inl n => n
    | .inr _ => 0)
  | .inr (.inl q) => q.2 j
  | .inr (.inr _) => 0
def bgC : tC := fun g i j => pnt (pfin g i) j
def bgL : tL := fun _ _ _ => 0
theorem ev_eq {z : xZ} (hx : xad z = z.2.2.2.2.2) {g i : Nat} (h : i < tcnt g) (hg : ¬ (g = 1 ∨ (9 ≤ g ∧ g ≤ 11))) : pev z.1 z.2.2.2.2.2 (pfin g i) = tmk z (tsh z g i) (bgC g i) (bgL g i) := by
  unfold tsh tsl
  rw [hx]
  match g, h, hg with
  | 0, _, _ => rfl
  | 1, _, hg => exact absurd (by omega) hg
  | 2, _, _ => rfl
  | 3, _, _ => rfl
  | 4, h, _ => exact absurd h (Nat.not_lt_zero i)
  | 5, _, _ => rfl
  | 6, _, _ => rfl
  | 7, _, _ => rfl
  | 8, _, _ => rfl
  | 9, _, hg => exact absurd (by omega) hg
  | 10, _, hg => exact absurd (by omega) hg
  | 11, _, hg => exact absurd (by omega) hg
  | 12, _, _ => rfl
  | 13, _, _ => rfl
  | 14, _, _ => rfl
  | 15, h, _ => exact absurd h (Nat.not_lt_zero i)
  | 16, _, _ => rfl
  | 17, _, _ => rfl
  | 18, _, _ => rfl
  | 19, _, _ => rfl
  | 20, _, _ => rfl
  | 21, _, _ => rfl
  | 22, _, _ => rfl
  | 23, _, _ => rfl
  | 24, _, _ => rfl
  | 25, _, _ => rfl
  | 26, _, _ => rfl
  | 27, _, _ => rfl
  | 28, h, _ => exact absurd h (Nat.not_lt_zero i)
  | 29, h, _ => exact absurd h (Nat.not_lt_zero i)
  | 30, _, _ => rfl
  | 31, _, _ => rfl
  | 32, _, _ => rfl
  | 33, _, _ => rfl
  | 34, _, _ => rfl
  | 35, _, _ => rfl
  | 36, h, _ => exact absurd h (Nat.not_lt_zero i)
  | 37, h, _ => exact absurd h (Nat.not_lt_zero i)
  | 38, h, _ => exact absurd h (Nat.not_lt_zero i)
  | 39, h, _ => exact absurd h (Nat.not_lt_zero i)
  | 40, h, _ => exact absurd h (Nat.not_lt_zero i)
  | 41, _, _ => rfl
  | 42, _, _ => rfl
  | 43, _, _ => rfl
  | 44, _, _ => rfl
  | 45, _, _ => rfl
  | 46, h, _ => exact absurd h (Nat.not_lt_zero i)
  | 47, h, _ => exact absurd h (Nat.not_lt_zero i)
  | 48, h, _ => exact absurd h (Nat.not_lt_zero i)
  | 49, h, _ => exact absurd h (Nat.not_lt_zero i)
  | 50, _, _ => rfl
  | 51, _, _ => rfl
  | 52, _, _ => rfl
  | n + 53, h, _ => exact absurd h (Nat.not_lt_zero i)
theorem cell_q {cA : ClassId} {n : Nat} {f f2 : Nat → Option Nat} (h : ∀ j, j < n → f j = f2 j) : vp_cell cA (n, .inr (.inr (.inr (.inr f)))) = vp_cell cA (n, .inr (.inr (.inr (.inr f2)))) := by
  show arrV cA n (fun j => va_rf (f j)) = arrV cA n (fun j => va_rf (f2 j))
  unfold arrV
  have e : (Array.ofFn (n := n) fun j => va_rf (f j.val)) = Array.ofFn (n := n) fun j => va_rf (f2 j.val) := congrArg Array.ofFn (funext fun j => by rw [h j.val j.isLt])
  rw [e]
theorem ev_at {D : va_G} {cl : List vw_C} {a n : Nat} {k : ClassId} {f f2 : Nat → Option Nat} {H : Heap} (hf : ∀ j, j < n → f j = f2 j) (h : va_at D cl (a, .inl (k, n, .inr (.inr (.inr (.inr f))))) H) : va_at D cl (a, .inl (k, n, .inr (.inr (.inr (.inr f2))))) H := by
  have q : H[a]? = some (vp_cell k (n, .inr (.inr (.inr (.inr f))))) := h
  rw [cell_q hf] at q
  exact q
theorem ev_same {z : xZ} (hx : xad z = z.2.2.2.2.2) {D : va_G} {cl : List vw_C} {H : Heap} {a g i : Nat} (h : i < tcnt g) (hv : va_at D cl (a, pev z.1 z.2.2.2.2.2 (pfin g i)) H) : va_at D cl (a, tmk z (tsh z g i) (bgC g i) (bgL g i)) H := by
  by_cases hg : g = 1 ∨ (9 ≤ g ∧ g ≤ 11)
  · unfold tsh tsl
    rw [hx]
    rcases (show g = 1 ∨ g = 9 ∨ g = 10 ∨ g = 11 by omega) with rfl | rfl | rfl | rfl
    · exact ev_at (n := 8) (f := fun j => Option.map (fun x : Nat × Nat => z.2.2.2.2.2 x.1 x.2) (if j < 8 then some (2, j) else none)) (f2 := fun j => some (z.2.2.2.2.2 2 j)) (fun j hj => by show Option.map (fun x : Nat × Nat => z.2.2.2.2.2 x.1 x.2) (if j < 8 then some (2, j) else none) = some (z.2.2.2.2.2 2 j); rw [if_pos hj]; rfl) hv
    · rcases (show i = 0 ∨ i = 1 by have : i < 2 := h; omega) with rfl | rfl
      · exact ev_at (n := 12) (f := fun j => Option.map (fun x : Nat × Nat => z.2.2.2.2.2 x.1 x.2) (if j < 12 then some (12, 12 * 0 + j) else none)) (f2 := fun j => some (z.2.2.2.2.2 12 j)) (fun j hj => by show Option.map (fun x : Nat × Nat => z.2.2.2.2.2 x.1 x.2) (if j < 12 then some (12, 12 * 0 + j) else none) = some (z.2.2.2.2.2 12 j); rw [if_pos hj, show 12 * 0 + j = j by omega]; rfl) hv
      · exact ev_at (n := 12) (f := fun j => Option.map (fun x : Nat × Nat => z.2.2.2.2.2 x.1 x.2) (if j < 12 then some (12, 12 * 1 + j) else none)) (f2 := fun j => some (z.2.2.2.2.2 12 (12 + j))) (fun j hj => by show Option.map (fun x : Nat × Nat => z.2.2.2.2.2 x.1 x.2) (if j < 12 then some (12, 12 * 1 + j) else none) = some (z.2.2.2.2.2 12 (12 + j)); rw [if_pos hj]; rfl) hv
    · rcases (show i = 0 ∨ i = 1 by have : i < 2 := h; omega) with rfl | rfl
      · exact ev_at (n := 14) (f := fun j => Option.map (fun x : Nat × Nat => z.2.2.2.2.2 x.1 x.2) (if j < 14 then some (13, 14 * 0 + j) else none)) (f2 := fun j => some (z.2.2.2.2.2 13 j)) (fun j hj => by show Option.map (fun x : Nat × Nat => z.2.2.2.2.2 x.1 x.2) (if j < 14 then some (13, 14 * 0 + j) else none) = some (z.2.2.2.2.2 13 j); rw [if_pos hj, show 14 * 0 + j = j by omega]; rfl) hv
      · exact ev_at (n := 14) (f := fun j => Option.map (fun x : Nat × Nat => z.2.2.2.2.2 x.1 x.2) (if j < 14 then some (13, 14 * 1 + j) else none)) (f2 := fun j => some (z.2.2.2.2.2 13 (14 + j))) (fun j hj => by show Option.map (fun x : Nat × Nat => z.2.2.2.2.2 x.1 x.2) (if j < 14 then some (13, 14 * 1 + j) else none) = some (z.2.2.2.2.2 13 (14 + j)); rw [if_pos hj]; rfl) hv
    · rcases (show i = 0 ∨ i = 1 by have : i < 2 := h; omega) with rfl | rfl
      · exact ev_at (n := 8) (f := fun j => Option.map (fun x : Nat × Nat => z.2.2.2.2.2 x.1 x.2) (if j < 8 then some (14, 8 * 0 + j) else none)) (f2 := fun j => some (z.2.2.2.2.2 14 j)) (fun j hj => by show Option.map (fun x : Nat × Nat => z.2.2.2.2.2 x.1 x.2) (if j < 8 then some (14, 8 * 0 + j) else none) = some (z.2.2.2.2.2 14 j); rw [if_pos hj, show 8 * 0 + j = j by omega]; rfl) hv
      · exact ev_at (n := 8) (f := fun j => Option.map (fun x : Nat × Nat => z.2.2.2.2.2 x.1 x.2) (if j < 8 then some (14, 8 * 1 + j) else none)) (f2 := fun j => some (z.2.2.2.2.2 14 (8 + j))) (fun j hj => by show Option.map (fun x : Nat × Nat => z.2.2.2.2.2 x.1 x.2) (if j < 8 then some (14, 8 * 1 + j) else none) = some (z.2.2.2.2.2 14 (8 + j)); rw [if_pos hj]; rfl) hv
  · rw [← ev_eq hx h hg]
    exact hv
theorem bg_inj {z : xZ} {μ : xMem} (hB : PB z.1 μ z.2.2.2.2.2 pU3) : tInj z.2.2.2.2.2 := fun g i g2 i2 h1 h2 e => hB.2.1 g i g2 i2 (sm_ne (pU3_at h1)) (sm_ne (pU3_at h2)) e
theorem sim_tm {z : xZ} {μ : xMem} {D : va_G} {A : Nat → Prop} {H : Heap} (hB : PB z.1 μ z.2.2.2.2.2 pU3) (h : xSim (Cf z) D A μ H) : xSim (Cf z) D A (tm z bgC bgL) H := by
  have hx := xad_eq (bg_inj hB)
  intro a e he
  by_cases q : ∃ q : Nat × Nat, tok q.1 q.2 ∧ xad z q.1 q.2 = a
  · obtain ⟨⟨g, i⟩, h1, h2⟩ := q
    have h1 : tok g i := h1
    have h2 : xad z g i = a := h2
    subst h2
    rw [tm_at h1] at he
    cases he
    have w := h _ _ (PB_at hB (pU3_at h1))
    rw [hx]
    exact ⟨ev_same hx h1.1 w.1, w.2⟩
  · rw [tm_none (fun g i h2 h3 => q ⟨(g, i), h2, h3⟩)] at he
    cases he
