/-! ===== WHAT THE TOWN SAYS: S its numbers, A its rows, by the check's own field numbers ===== -/
abbrev sS : Type := Nat → Int
abbrev sA : Type := Nat → Nat → Int
def fFar (a b : Int) : Int := max (a / 8 - b / 8) (b / 8 - a / 8) + max (a % 8 - b % 8) (b % 8 - a % 8)
def fIsOf (A : sA) (k : Nat) (h : Int) : Bool := if 0 < A 43 k then decide (0 ≤ h - A 41 k ∧ (h - A 41 k) % A 43 k ≤ A 42 k - A 41 k) else decide (0 ≤ h - A 41 k ∧ h - A 41 k ≤ A 42 k - A 41 k)
def fOffI (A : sA) (p s : Nat) (h : Int) (b : Bool) : Nat → Bool
  | 0 => b
  | n + 1 => if A 40 (8 * p + n) = (s : Int) ∧ fIsOf A (8 * p + n) h = true then decide (A 39 (8 * p + n) = 1) else fOffI A p s h b n
def fHand (A : sA) (s : Nat) : Bool := decide (A 26 s = 1)
def fOff (S : sS) (A : sA) (s : Nat) (h : Int) : Bool := if S 7 = -1 then fHand A s else fOffI A (S 7).toNat s h (fHand A s) (A 38 (S 7).toNat).toNat
def fFan (A : sA) (s : Nat) : Bool := decide (A 19 s = 1 ∨ A 19 s = 7)
def fRuns (A : sA) (s : Nat) (h : Int) : Bool := if A 23 s ≤ A 24 s then decide (A 23 s ≤ h % 24 ∧ h % 24 ≤ A 24 s) else decide (A 23 s ≤ h % 24 ∨ h % 24 ≤ A 24 s)
def fFans (S : sS) (A : sA) (s : Nat) (h : Int) : Bool := fRuns A s h && !fOff S A s h
def fBeat (a b : Int) : Bool := decide (1 ≤ max (a - b) (b - a) ∧ max (a - b) (b - a) ≤ 4)
def fMix (S : sS) (A : sA) (s : Nat) (h : Int) : Bool := fAny (fun o => fFan A o && fBeat (A 21 s) (A 21 o) && fFans S A o h) (S 2).toNat
def fSnd (S : sS) (A : sA) (s : Nat) (h : Int) : Bool := !fOff S A s h && (if A 19 s = 1 then fFans S A s h else if A 19 s = 5 then decide (A 11 5 ≤ h) else if A 19 s = 6 then decide (A 13 (h / 24).toNat = 1) else if A 19 s = 7 then fFans S A s h && fMix S A s h else true)
def fTalk (A : sA) (s : Nat) : Bool := decide (A 19 s = 4 ∨ A 19 s = 5)
def fStands (A : sA) (s : Nat) (spot : Int) : Prop := 0 < A 12 spot.toNat ∧ A 21 s % A 12 spot.toNat = 0
def fRaw (A : sA) (s : Nat) (spot : Int) : Int := if A 19 s = 2 then A 22 s - A 11 0 * fFar (A 20 s) spot / 4 else if A 19 s = 6 then A 22 s - A 11 0 else A 22 s - A 11 0 * fFar (A 20 s) spot
def fStd (A : sA) (s : Nat) (spot : Int) : Bool := decide (0 < A 12 spot.toNat) && decide (A 21 s % A 12 spot.toNat = 0)
def fLvl (A : sA) (s : Nat) (spot : Int) : Int := if fTalk A s = true then A 22 s else if fRaw A s spot ≤ 0 then 0 else (if A 19 s = 3 ∧ fStd A s spot = true then 2 * fRaw A s spot else if A 19 s = 7 then fRaw A s spot + 6 else fRaw A s spot) + (if fStd A s spot = true then A 11 1 else 0)
def fNeed (A : sA) (p : Nat) (t : Int) : Int := A 16 p + A 17 p * max (A 15 p - t) (t - A 15 p)
def fHear (A : sA) (p s : Nat) (spot : Int) : Bool := if A 19 s = 4 then decide (A 20 s = (p : Int)) else if A 19 s = 5 then decide (A 18 p = 1) else decide (0 < fLvl A s spot ∧ fNeed A p (A 21 s) ≤ fLvl A s spot)
def fHeard (S : sS) (A : sA) (p : Nat) (spot h : Int) : Nat := mkN (fun s => fHear A p s spot && fSnd S A s h) (S 2).toNat
/-- in some hour from a on, n of them -/
def fSome (S : sS) (A : sA) (s : Nat) (a : Int) : Nat → Bool
  | 0 => false
  | n + 1 => fSome S A s a n || fSnd S A s (a + n)
def fSndW (S : sS) (A : sA) (a b : Int) : Nat := mkN (fun s => fSome S A s a (b + 1 - a).toNat) (S 2).toNat
def fHeardOf (S : sS) (A : sA) (p : Nat) (spot : Int) (m : Nat) : Nat := mkN (fun s => m.testBit s && fHear A p s spot) (S 2).toNat
/-! the class's town t against the numbers S and rows A -/
def tp (t i : Nat) : Nat := if t = 0 then i else 12 + i
def ts (t i : Nat) : Nat := if t = 0 then i else 14 + i
def tl (t i : Nat) : Nat := if t = 0 then i else 8 + i
def RT_scal (c : tC) (t : Nat) (S : sS) (A : sA) : Prop := c 8 t 0 = S 0 ∧ c 8 t 1 = S 1 ∧ c 8 t 2 = S 2 ∧ c 8 t 3 = S 6 ∧ c 8 t 4 = S 7 ∧ c 16 t 0 = S 9 ∧ c 16 t 1 = S 3 ∧ c 16 t 2 = S 4 ∧ c 21 t 0 = S 5
def RT_rng (c : tC) (t : Nat) (S : sS) (A : sA) : Prop := (0 ≤ S 0 ∧ S 0 ≤ 239) ∧ (0 ≤ S 1 ∧ S 1 ≤ 12) ∧ (0 ≤ S 2 ∧ S 2 ≤ 14) ∧ (0 ≤ S 3 ∧ S 3 ≤ 60) ∧ (0 ≤ S 4 ∧ S 4 ≤ 20) ∧ (0 ≤ S 5 ∧ S 5 ≤ 30) ∧ (0 ≤ S 6 ∧ S 6 ≤ 8) ∧ -1 ≤ S 7 ∧ S 7 < S 6 ∧ S 9 = S 3 + S 4
def RT_per (c : tC) (t : Nat) (S : sS) (A : sA) : Prop := ∀ i : Nat, (i : Int) < S 1 → (c 12 (tp t i) 0 = A 14 i ∧ c 12 (tp t i) 1 = A 15 i ∧ c 12 (tp t i) 2 = A 16 i ∧ c 12 (tp t i) 3 = A 17 i ∧ c 12 (tp t i) 4 = A 18 i) ∧ (0 ≤ A 14 i ∧ A 14 i ≤ 63) ∧ (20 ≤ A 15 i ∧ A 15 i ≤ 99) ∧ (0 ≤ A 16 i ∧ A 16 i ≤ 99) ∧ (0 ≤ A 17 i ∧ A 17 i ≤ 9) ∧ (A 18 i = 0 ∨ A 18 i = 1)
def RT_src (c : tC) (t : Nat) (S : sS) (A : sA) : Prop := ∀ i : Nat, (i : Int) < S 2 → (c 13 (ts t i) 0 = A 19 i ∧ c 13 (ts t i) 1 = A 20 i ∧ c 13 (ts t i) 2 = A 21 i ∧ c 13 (ts t i) 3 = A 22 i ∧ c 13 (ts t i) 4 = A 23 i ∧ c 13 (ts t i) 5 = A 24 i ∧ c 13 (ts t i) 6 = A 25 i) ∧ (1 ≤ A 19 i ∧ A 19 i ≤ 7) ∧ (0 ≤ A 20 i ∧ A 20 i ≤ 63) ∧ (A 19 i = 4 → A 20 i < S 1) ∧ (20 ≤ A 21 i ∧ A 21 i ≤ 99) ∧ (1 ≤ A 22 i ∧ A 22 i ≤ 99) ∧ (0 ≤ A 23 i ∧ A 23 i ≤ 23) ∧ (0 ≤ A 24 i ∧ A 24 i ≤ 23) ∧ (0 ≤ A 25 i ∧ A 25 i ≤ 99) ∧ (A 26 i = 0 ∨ A 26 i = 1)
def RT_off (c : tC) (t : Nat) (S : sS) (A : sA) : Prop := c 8 t 5 = (mkN (fHand A) (S 2).toNat : Int)
def RT_beat (c : tC) (t : Nat) (S : sS) (A : sA) : Prop := ∀ i : Nat, (i : Int) < S 2 → c 13 (ts t i) 7 = (mkN (fun j => fBeat (A 21 i) (A 21 j)) (S 2).toNat : Int)
def RT_law (c : tC) (t : Nat) (S : sS) (A : sA) : Prop := (c 27 t 0 = A 11 0 ∧ c 27 t 1 = A 11 1 ∧ c 27 t 2 = A 11 2 ∧ c 27 t 3 = A 11 3 ∧ c 27 t 4 = A 11 4 ∧ c 27 t 5 = A 11 5) ∧ (0 ≤ A 11 0 ∧ A 11 0 ≤ 99) ∧ (0 ≤ A 11 1 ∧ A 11 1 ≤ 99) ∧ (1 ≤ A 11 2 ∧ A 11 2 ≤ 9) ∧ (1 ≤ A 11 3 ∧ A 11 3 ≤ 9) ∧ (0 ≤ A 11 4 ∧ A 11 4 ≤ 99) ∧ (0 ≤ A 11 5 ∧ A 11 5 ≤ 239)
def RT_size (c : tC) (t : Nat) (S : sS) (A : sA) : Prop := ∀ i : Nat, i < 64 → c 25 t i = A 12 i ∧ 0 ≤ A 12 i ∧ A 12 i ≤ 9
def RT_storm (c : tC) (t : Nat) (S : sS) (A : sA) : Prop := ∀ i : Nat, i < 10 → c 26 t i = A 13 i ∧ 0 ≤ A 13 i ∧ A 13 i ≤ 1
def RT_plan (c : tC) (t : Nat) (S : sS) (A : sA) : Prop := ∀ p : Nat, (p : Int) < S 6 → c 14 (tl t p) 0 = A 38 p ∧ (0 ≤ A 38 p ∧ A 38 p ≤ 8) ∧ ∀ k : Nat, (k : Int) < A 38 p → (c 41 (tl t p) k = A 40 (8 * p + k) ∧ c 42 (tl t p) k = A 41 (8 * p + k) ∧ c 43 (tl t p) k = A 42 (8 * p + k) ∧ c 44 (tl t p) k = A 43 (8 * p + k) ∧ c 45 (tl t p) k = A 39 (8 * p + k)) ∧ (0 ≤ A 40 (8 * p + k) ∧ A 40 (8 * p + k) < S 2) ∧ (0 ≤ A 41 (8 * p + k) ∧ A 41 (8 * p + k) ≤ A 42 (8 * p + k) ∧ A 42 (8 * p + k) ≤ 239) ∧ (0 ≤ A 43 (8 * p + k) ∧ A 43 (8 * p + k) ≤ 99) ∧ (A 39 (8 * p + k) = 0 ∨ A 39 (8 * p + k) = 1)
def RT_press (c : tC) (t : Nat) (S : sS) (A : sA) : Prop := ∀ i : Nat, (i : Int) < S 3 → (c 17 t (A 31 i).toNat = A 27 i ∧ c 18 t (A 31 i).toNat = A 28 i ∧ c 19 t (A 31 i).toNat = A 29 i ∧ c 20 t (A 31 i).toNat = A 30 i) ∧ (0 ≤ A 31 i ∧ A 31 i < S 9) ∧ (0 ≤ A 27 i ∧ A 27 i < S 1) ∧ (0 ≤ A 28 i ∧ A 28 i ≤ 239) ∧ (0 ≤ A 29 i ∧ A 29 i ≤ 63) ∧ (A 30 i = 0 ∨ A 30 i = 1)
def RT_pmon (c : tC) (t : Nat) (S : sS) (A : sA) : Prop := ∀ i j : Nat, i < j → (j : Int) < S 3 → A 31 i < A 31 j
def RT_match (c : tC) (t : Nat) (S : sS) (A : sA) : Prop := ∀ i : Nat, (i : Int) < S 4 → (c 17 t (A 34 i).toNat = A 32 i ∧ c 18 t (A 34 i).toNat = -1 ∧ c 20 t (A 34 i).toNat = A 33 i) ∧ (0 ≤ A 34 i ∧ A 34 i < S 9) ∧ (0 ≤ A 32 i ∧ A 32 i < S 1) ∧ (20 ≤ A 33 i ∧ A 33 i ≤ 99)
def RT_mmon (c : tC) (t : Nat) (S : sS) (A : sA) : Prop := ∀ i j : Nat, i < j → (j : Int) < S 4 → A 34 i < A 34 j
def RT_came (c : tC) (t : Nat) (S : sS) (A : sA) : Prop := ∀ k : Int, 0 ≤ k → k < S 9 → (∃ i : Nat, (i : Int) < S 3 ∧ A 31 i = k) ∨ ∃ i : Nat, (i : Int) < S 4 ∧ A 34 i = k
def RT_let (c : tC) (t : Nat) (S : sS) (A : sA) : Prop := ∀ i : Nat, (i : Int) < S 5 → (c 22 t i = A 35 i ∧ c 23 t i = A 36 i ∧ c 24 t i = A 37 i) ∧ (0 ≤ A 35 i ∧ A 35 i < S 1) ∧ (0 ≤ A 36 i ∧ A 36 i ≤ 239) ∧ (0 ≤ A 37 i ∧ A 37 i ≤ A 36 i)
def RT (c : tC) (t : Nat) (S : sS) (A : sA) : Prop := RT_scal c t S A ∧ RT_rng c t S A ∧ RT_per c t S A ∧ RT_src c t S A ∧ RT_off c t S A ∧ RT_beat c t S A ∧ RT_law c t S A ∧ RT_size c t S A ∧ RT_storm c t S A ∧ RT_plan c t S A ∧ RT_press c t S A ∧ RT_pmon c t S A ∧ RT_match c t S A ∧ RT_mmon c t S A ∧ RT_came c t S A ∧ RT_let c t S A
theorem R0_scal {c : tC} {S : sS} {A : sA} (h : RT c 0 S A) : c 8 0 0 = S 0 ∧ c 8 0 1 = S 1 ∧ c 8 0 2 = S 2 ∧ c 8 0 3 = S 6 ∧ c 8 0 4 = S 7 ∧ c 16 0 0 = S 9 ∧ c 16 0 1 = S 3 ∧ c 16 0 2 = S 4 ∧ c 21 0 0 = S 5 := h.1
theorem R0_rng {c : tC} {S : sS} {A : sA} (h : RT c 0 S A) : (0 ≤ S 0 ∧ S 0 ≤ 239) ∧ (0 ≤ S 1 ∧ S 1 ≤ 12) ∧ (0 ≤ S 2 ∧ S 2 ≤ 14) ∧ (0 ≤ S 3 ∧ S 3 ≤ 60) ∧ (0 ≤ S 4 ∧ S 4 ≤ 20) ∧ (0 ≤ S 5 ∧ S 5 ≤ 30) ∧ (0 ≤ S 6 ∧ S 6 ≤ 8) ∧ -1 ≤ S 7 ∧ S 7 < S 6 ∧ S 9 = S 3 + S 4 := h.2.1
theorem R0_per {c : tC} {S : sS} {A : sA} (h : RT c 0 S A) : ∀ i : Nat, (i : Int) < S 1 → (c 12 i 0 = A 14 i ∧ c 12 i 1 = A 15 i ∧ c 12 i 2 = A 16 i ∧ c 12 i 3 = A 17 i ∧ c 12 i 4 = A 18 i) ∧ (0 ≤ A 14 i ∧ A 14 i ≤ 63) ∧ (20 ≤ A 15 i ∧ A 15 i ≤ 99) ∧ (0 ≤ A 16 i ∧ A 16 i ≤ 99) ∧ (0 ≤ A 17 i ∧ A 17 i ≤ 9) ∧ (A 18 i = 0 ∨ A 18 i = 1) := h.2.2.1
theorem R0_src {c : tC} {S : sS} {A : sA} (h : RT c 0 S A) : ∀ i : Nat, (i : Int) < S 2 → (c 13 i 0 = A 19 i ∧ c 13 i 1 = A 20 i ∧ c 13 i 2 = A 21 i ∧ c 13 i 3 = A 22 i ∧ c 13 i 4 = A 23 i ∧ c 13 i 5 = A 24 i ∧ c 13 i 6 = A 25 i) ∧ (1 ≤ A 19 i ∧ A 19 i ≤ 7) ∧ (0 ≤ A 20 i ∧ A 20 i ≤ 63) ∧ (A 19 i = 4 → A 20 i < S 1) ∧ (20 ≤ A 21 i ∧ A 21 i ≤ 99) ∧ (1 ≤ A 22 i ∧ A 22 i ≤ 99) ∧ (0 ≤ A 23 i ∧ A 23 i ≤ 23) ∧ (0 ≤ A 24 i ∧ A 24 i ≤ 23) ∧ (0 ≤ A 25 i ∧ A 25 i ≤ 99) ∧ (A 26 i = 0 ∨ A 26 i = 1) := h.2.2.2.1
theorem R0_off {c : tC} {S : sS} {A : sA} (h : RT c 0 S A) : c 8 0 5 = (mkN (fHand A) (S 2).toNat : Int) := h.2.2.2.2.1
theorem R0_beat {c : tC} {S : sS} {A : sA} (h : RT c 0 S A) : ∀ i : Nat, (i : Int) < S 2 → c 13 i 7 = (mkN (fun j => fBeat (A 21 i) (A 21 j)) (S 2).toNat : Int) := h.2.2.2.2.2.1
theorem R0_law {c : tC} {S : sS} {A : sA} (h : RT c 0 S A) : (c 27 0 0 = A 11 0 ∧ c 27 0 1 = A 11 1 ∧ c 27 0 2 = A 11 2 ∧ c 27 0 3 = A 11 3 ∧ c 27 0 4 = A 11 4 ∧ c 27 0 5 = A 11 5) ∧ (0 ≤ A 11 0 ∧ A 11 0 ≤ 99) ∧ (0 ≤ A 11 1 ∧ A 11 1 ≤ 99) ∧ (1 ≤ A 11 2 ∧ A 11 2 ≤ 9) ∧ (1 ≤ A 11 3 ∧ A 11 3 ≤ 9) ∧ (0 ≤ A 11 4 ∧ A 11 4 ≤ 99) ∧ (0 ≤ A 11 5 ∧ A 11 5 ≤ 239) := h.2.2.2.2.2.2.1
theorem R0_size {c : tC} {S : sS} {A : sA} (h : RT c 0 S A) : ∀ i : Nat, i < 64 → c 25 0 i = A 12 i ∧ 0 ≤ A 12 i ∧ A 12 i ≤ 9 := h.2.2.2.2.2.2.2.1
theorem R0_storm {c : tC} {S : sS} {A : sA} (h : RT c 0 S A) : ∀ i : Nat, i < 10 → c 26 0 i = A 13 i ∧ 0 ≤ A 13 i ∧ A 13 i ≤ 1 := h.2.2.2.2.2.2.2.2.1
theorem R0_plan {c : tC} {S : sS} {A : sA} (h : RT c 0 S A) : ∀ p : Nat, (p : Int) < S 6 → c 14 p 0 = A 38 p ∧ (0 ≤ A 38 p ∧ A 38 p ≤ 8) ∧ ∀ k : Nat, (k : Int) < A 38 p → (c 41 p k = A 40 (8 * p + k) ∧ c 42 p k = A 41 (8 * p + k) ∧ c 43 p k = A 42 (8 * p + k) ∧ c 44 p k = A 43 (8 * p + k) ∧ c 45 p k = A 39 (8 * p + k)) ∧ (0 ≤ A 40 (8 * p + k) ∧ A 40 (8 * p + k) < S 2) ∧ (0 ≤ A 41 (8 * p + k) ∧ A 41 (8 * p + k) ≤ A 42 (8 * p + k) ∧ A 42 (8 * p + k) ≤ 239) ∧ (0 ≤ A 43 (8 * p + k) ∧ A 43 (8 * p + k) ≤ 99) ∧ (A 39 (8 * p + k) = 0 ∨ A 39 (8 * p + k) = 1) := h.2.2.2.2.2.2.2.2.2.1
theorem R0_press {c : tC} {S : sS} {A : sA} (h : RT c 0 S A) : ∀ i : Nat, (i : Int) < S 3 → (c 17 0 (A 31 i).toNat = A 27 i ∧ c 18 0 (A 31 i).toNat = A 28 i ∧ c 19 0 (A 31 i).toNat = A 29 i ∧ c 20 0 (A 31 i).toNat = A 30 i) ∧ (0 ≤ A 31 i ∧ A 31 i < S 9) ∧ (0 ≤ A 27 i ∧ A 27 i < S 1) ∧ (0 ≤ A 28 i ∧ A 28 i ≤ 239) ∧ (0 ≤ A 29 i ∧ A 29 i ≤ 63) ∧ (A 30 i = 0 ∨ A 30 i = 1) := h.2.2.2.2.2.2.2.2.2.2.1
theorem R0_pmon {c : tC} {S : sS} {A : sA} (h : RT c 0 S A) : ∀ i j : Nat, i < j → (j : Int) < S 3 → A 31 i < A 31 j := h.2.2.2.2.2.2.2.2.2.2.2.1
theorem R0_match {c : tC} {S : sS} {A : sA} (h : RT c 0 S A) : ∀ i : Nat, (i : Int) < S 4 → (c 17 0 (A 34 i).toNat = A 32 i ∧ c 18 0 (A 34 i).toNat = -1 ∧ c 20 0 (A 34 i).toNat = A 33 i) ∧ (0 ≤ A 34 i ∧ A 34 i < S 9) ∧ (0 ≤ A 32 i ∧ A 32 i < S 1) ∧ (20 ≤ A 33 i ∧ A 33 i ≤ 99) := h.2.2.2.2.2.2.2.2.2.2.2.2.1
theorem R0_mmon {c : tC} {S : sS} {A : sA} (h : RT c 0 S A) : ∀ i j : Nat, i < j → (j : Int) < S 4 → A 34 i < A 34 j := h.2.2.2.2.2.2.2.2.2.2.2.2.2.1
theorem R0_came {c : tC} {S : sS} {A : sA} (h : RT c 0 S A) : ∀ k : Int, 0 ≤ k → k < S 9 → (∃ i : Nat, (i : Int) < S 3 ∧ A 31 i = k) ∨ ∃ i : Nat, (i : Int) < S 4 ∧ A 34 i = k := h.2.2.2.2.2.2.2.2.2.2.2.2.2.2.1
theorem R0_let {c : tC} {S : sS} {A : sA} (h : RT c 0 S A) : ∀ i : Nat, (i : Int) < S 5 → (c 22 0 i = A 35 i ∧ c 23 0 i = A 36 i ∧ c 24 0 i = A 37 i) ∧ (0 ≤ A 35 i ∧ A 35 i < S 1) ∧ (0 ≤ A 36 i ∧ A 36 i ≤ 239) ∧ (0 ≤ A 37 i ∧ A 37 i ≤ A 36 i) := h.2.2.2.2.2.2.2.2.2.2.2.2.2.2.2
abbrev RX (c : tC) : Prop := RT c 0 (c 50 0) (c 51)
