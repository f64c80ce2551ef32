/-! ===== TEXTS: the signs of the strings ===== -/
def xch : List (List Int) := [[108, 111, 115, 115, 32], [103, 97, 105, 110, 32], [114, 105, 103, 104, 116, 32], [119, 114, 111, 110, 103, 32], [115, 112, 97, 110, 32], [112, 97, 112, 101, 114, 32], [102, 102, 32], [110, 32], [32, 102, 114, 111, 109, 32], [32, 116, 111, 32], [32, 101, 97, 99, 104, 32]]
def nm (i : Nat) : List Int := xch.getD i []
abbrev sad (z : xZ) (i : Nat) : Nat := z.2.1 (5 + i)
abbrev sby (z : xZ) (i : Nat) : Nat := z.2.1 (20 + i)
def sf (i j : Nat) : Int32 := (xby.getD i []).getD j 0
theorem nm_len : ∀ i, i < 11 → (xby.getD i []).length = (nm i).length ∧ (nm i).length ≤ 6 ∧ 0 < (nm i).length := by decide
theorem nm_at : ∀ i, i < 11 → ∀ j, j < 6 → (((iI (iand (sf i j).toInt 255)).toUInt32 % 65536).toInt32) = iI ((nm i).getD j 0) ∧ narrow .char (.int (iI ((nm i).getD j 0))) = .int (iI ((nm i).getD j 0)) := by decide +kernel
theorem nm_rng : ∀ i, i < 11 → ∀ j, j < 6 → 0 ≤ (nm i).getD j 0 ∧ (nm i).getD j 0 ≤ 127 := by decide
theorem s_cls {z : xZ} {i : Nat} (h : i < 11) : (sad z i, "java/lang/String") ∈ (Cf z).2.2.2.2.2.1 := List.mem_map.mpr ⟨i, List.mem_range.mpr h, rfl⟩
theorem s_cod {z : xZ} {i : Nat} (h : i < 11) : (sad z i, "java/lang/String", "coder", "B", Value.int 0) ∈ (Cf z).2.2.2.2.2.2.1 := List.mem_append_left _ (List.mem_map.mpr ⟨i, List.mem_range.mpr h, rfl⟩)
theorem s_val {z : xZ} {i : Nat} (h : i < 11) : (sad z i, "java/lang/String", "value", "[B", Value.ref (sby z i)) ∈ (Cf z).2.2.2.2.2.2.1 := List.mem_append_right _ (List.mem_map.mpr ⟨i, List.mem_range.mpr h, rfl⟩)
theorem s_arr {z : xZ} {i : Nat} (h : i < 11) : (sby z i, FieldType.byte, (xby.getD i []).length, sf i) ∈ (Cf z).2.2.2.2.1 := List.mem_append_right _ (List.mem_map.mpr ⟨i, List.mem_range.mpr h, rfl⟩)
theorem s_cmp (z : xZ) : ("java/lang/String", "COMPACT_STRINGS", "Z", Value.int 1) ∈ (Cf z).2.2.2.2.2.2.2.1 := List.mem_of_getElem? (i := 3) rfl
theorem s_fmt (z : xZ) : ("jdk/internal/util/Preconditions", "SIOOBE_FORMATTER", "Ljava/util/function/BiFunction;", z.2.2.2.2.1) ∈ (Cf z).2.2.2.2.2.2.2.1 := List.mem_of_getElem? (i := 4) rfl
theorem s_least (z : xZ) : ("HumUnheard", "LEAST_LAWS", "[I", Value.ref (z.2.1 2)) ∈ (Cf z).2.2.2.2.2.2.2.1 := List.mem_of_getElem? (i := 1) rfl
theorem s_most (z : xZ) : ("HumUnheard", "MOST_LAWS", "[I", Value.ref (z.2.1 3)) ∈ (Cf z).2.2.2.2.2.2.2.1 := List.mem_of_getElem? (i := 2) rfl
theorem a_least (z : xZ) : (z.2.1 2, FieldType.int, 6, fun j => xLL.getD j 0) ∈ (Cf z).2.2.2.2.1 := List.mem_append_left _ (List.mem_of_getElem? (i := 2) rfl)
theorem a_most (z : xZ) : (z.2.1 3, FieldType.int, 6, fun j => xML.getD j 0) ∈ (Cf z).2.2.2.2.1 := List.mem_append_left _ (List.mem_of_getElem? (i := 3) rfl)
theorem s_coder {z : xZ} {d : Nat} {Q : tQ} {c : tC} {L : tL} {i : Nat} (h : i < 11) (k : Q (some (.int (iI 0))) c L) : En z (d + 1) MJ0_coder_7d493 Q 0 [some (.ref (sad z i))] [] c L := by
  refine r_gets 3 dJ0_coder_7d493_0 rfl sJ0_38 (s_cmp z) ?_
  refine r_ifeqF (a := 1) 6 dJ0_coder_7d493_3 rfl 13 (by decide) (by decide) (by decide) ?_
  refine r_aloadN 7 dJ0_coder_7d493_6 rfl rfl ?_
  refine r_getr 10 dJ0_coder_7d493_7 rfl fJ0_15 (s_cod h) ?_
  refine r_goto 14 dJ0_coder_7d493_10 (by decide) ?_
  exact r_nret (x := iI 0) dJ0_coder_7d493_14 rfl (by decide) k
theorem s_latin {z : xZ} {d : Nat} {Q : tQ} {c : tC} {L : tL} {i : Nat} (h : i < 11) (k : Q (some (.int (iI 1))) c L) : En z (d + 1) MJ0_isLatin1_aae02 Q 0 [some (.ref (sad z i))] [] c L := by
  refine r_gets 3 dJ0_isLatin1_aae02_0 rfl sJ0_38 (s_cmp z) ?_
  refine r_ifeqF (a := 1) 6 dJ0_isLatin1_aae02_3 rfl 17 (by decide) (by decide) (by decide) ?_
  refine r_aloadN 7 dJ0_isLatin1_aae02_6 rfl rfl ?_
  refine r_getr 10 dJ0_isLatin1_aae02_7 rfl fJ0_15 (s_cod h) ?_
  refine r_ifneF (a := 0) 13 dJ0_isLatin1_aae02_10 rfl 17 (by decide) (by decide) (by decide) ?_
  refine r_iconst 14 dJ0_isLatin1_aae02_13 rfl ?_
  refine r_goto 18 dJ0_isLatin1_aae02_14 (by decide) ?_
  exact r_zret dJ0_isLatin1_aae02_18 rfl (by decide) k
theorem s_len {z : xZ} {d : Nat} {Q : tQ} {c : tC} {L : tL} {i : Nat} (h : i < 11) (k : Q (some (.int (iI ((nm i).length : Nat)))) c L) : En z (d + 2) MJ0_length_8abf5 Q 0 [some (.ref (sad z i))] [] c L := by
  refine r_aloadN 1 dJ0_length_8abf5_0 rfl rfl ?_
  refine r_getr 4 dJ0_length_8abf5_1 rfl fJ0_9 (s_val h) ?_
  refine r_alnr 5 dJ0_length_8abf5_4 rfl (s_arr h) ?_
  refine r_aloadN 6 dJ0_length_8abf5_5 rfl rfl ?_
  refine r_cr0 9 dJ0_length_8abf5_6 rfl gJ0_335 (s_cls h) (Nat.le_of_ble_eq_true rfl) (Nat.le_of_ble_eq_true rfl) rfl ?_
  refine s_coder h ?_
  refine r_ishr 10 dJ0_length_8abf5_9 rfl ?_
  rw [(nm_len i h).1]
  have e : ishr (((nm i).length : Nat) : Int) 0 = (((nm i).length : Nat) : Int) := by
    have h2 := (nm_len i h).2.1
    have := ishr_nat (a := (nm i).length) (i := 0) (by omega) (by omega)
    rw [Nat.shiftRight_zero] at this
    exact this
  rw [e]
  exact r_ret dJ0_length_8abf5_10 rfl k
theorem s_chk3 {z : xZ} {d : Nat} {Q : tQ} {c : tC} {L : tL} {i n : Nat} {v : Value} (h : i < n) (hn : n ≤ 100) (k : Q (some (.int (iI (i : Int)))) c L) : En z (d + 1) MJ3_checkIndex_8e157 Q 0 [some (.int (iI (i : Int))), some (.int (iI (n : Int))), some v] [] c L := by
  refine r_iloadN 1 dJ3_checkIndex_8e157_0 rfl rfl ?_
  refine r_ifltF 4 dJ3_checkIndex_8e157_1 rfl 9 (by decide) (by omega) (by omega) ?_
  refine r_iloadN 5 dJ3_checkIndex_8e157_4 rfl rfl ?_
  refine r_iloadN 6 dJ3_checkIndex_8e157_5 rfl rfl ?_
  refine r_iclt 16 9 dJ3_checkIndex_8e157_6 rfl (by decide) (by omega) (by omega) (fun _ => ?_) (fun h6 => False.elim (by omega))
  refine r_iloadN 17 dJ3_checkIndex_8e157_16 rfl rfl ?_
  exact r_ret dJ3_checkIndex_8e157_17 rfl k
def zF (z : xZ) : Prop := z.2.2.2.2.1 = .null ∨ ∃ a, z.2.2.2.2.1 = .ref a
theorem s_chk {z : xZ} {d : Nat} {Q : tQ} {c : tC} {L : tL} {i n : Nat} (hz : zF z) (h : i < n) (hn : n ≤ 100) (k : Q none c L) : En z (d + 2) MJ0_checkIndex_df160 Q 0 [some (.int (iI (i : Int))), some (.int (iI (n : Int)))] [] c L := by
  refine r_iloadN 1 dJ0_checkIndex_df160_0 rfl rfl ?_
  refine r_iloadN 2 dJ0_checkIndex_df160_1 rfl rfl ?_
  rcases hz with ha | ⟨a, ha⟩
  · refine r_gets (v := .null) 5 dJ0_checkIndex_df160_2 rfl sJ0_1053 (by rw [← ha]; exact s_fmt z) ?_
    refine r_cs3 8 dJ0_checkIndex_df160_5 rfl gJ0_1059 (Nat.le_of_ble_eq_true rfl) (Nat.le_of_ble_eq_true rfl) rfl ?_
    refine s_chk3 h hn ?_
    refine r_popi 9 dJ0_checkIndex_df160_8 rfl ?_
    exact r_vret dJ0_checkIndex_df160_9 rfl k
  · refine r_gets (v := .ref a) 5 dJ0_checkIndex_df160_2 rfl sJ0_1053 (by rw [← ha]; exact s_fmt z) ?_
    refine r_cs3 8 dJ0_checkIndex_df160_5 rfl gJ0_1059 (Nat.le_of_ble_eq_true rfl) (Nat.le_of_ble_eq_true rfl) rfl ?_
    refine s_chk3 h hn ?_
    refine r_popi 9 dJ0_checkIndex_df160_8 rfl ?_
    exact r_vret dJ0_checkIndex_df160_9 rfl k
theorem s_lat1 {z : xZ} {d : Nat} {Q : tQ} {c : tC} {L : tL} {i j : Nat} (hz : zF z) (h : i < 11) (hj : j < (nm i).length) (k : Q (some (.int (iI ((nm i).getD j 0)))) c L) : En z (d + 3) MJ1_charAt_3b067 Q 0 [some (.ref (sby z i)), some (.int (iI (j : Int)))] [] c L := by
  have hl := nm_len i h
  refine r_iloadN 1 dJ1_charAt_3b067_0 rfl rfl ?_
  refine r_aloadN 2 dJ1_charAt_3b067_1 rfl rfl ?_
  refine r_alnr 3 dJ1_charAt_3b067_2 rfl (s_arr h) ?_
  refine r_cs2 6 dJ1_charAt_3b067_3 rfl gJ1_9 (Nat.le_of_ble_eq_true rfl) (Nat.le_of_ble_eq_true rfl) rfl ?_
  refine s_chk hz (by omega) (by omega) ?_
  refine r_aloadN 7 dJ1_charAt_3b067_6 rfl rfl ?_
  refine r_iloadN 8 dJ1_charAt_3b067_7 rfl rfl ?_
  refine r_balr 9 dJ1_charAt_3b067_8 j rfl rfl (s_arr h) (by omega) (by omega) (by omega) ?_
  refine r_sipush 12 dJ1_charAt_3b067_9 rfl (by decide) ?_
  refine r_iand 13 dJ1_charAt_3b067_12 rfl ?_
  refine r_i2c 14 dJ1_charAt_3b067_13 rfl ?_
  rw [(nm_at i h j (by omega)).1]
  exact r_nret dJ1_charAt_3b067_14 rfl (nm_at i h j (by omega)).2 k
theorem s_charAt {z : xZ} {d : Nat} {Q : tQ} {c : tC} {L : tL} {i j : Nat} (hz : zF z) (h : i < 11) (hj : j < (nm i).length) (k : Q (some (.int (iI ((nm i).getD j 0)))) c L) : En z (d + 4) MJ0_charAt_5068e Q 0 [some (.ref (sad z i)), some (.int (iI (j : Int)))] [] c L := by
  have hl := nm_len i h
  refine r_aloadN 1 dJ0_charAt_5068e_0 rfl rfl ?_
  refine r_cr0 4 dJ0_charAt_5068e_1 rfl gJ0_492 (s_cls h) (Nat.le_of_ble_eq_true rfl) (Nat.le_of_ble_eq_true rfl) rfl ?_
  refine s_latin h ?_
  refine r_ifeqF (a := 1) 7 dJ0_charAt_5068e_4 rfl 16 (by decide) (by decide) (by decide) ?_
  refine r_aloadN 8 dJ0_charAt_5068e_7 rfl rfl ?_
  refine r_getr 11 dJ0_charAt_5068e_8 rfl fJ0_9 (s_val h) ?_
  refine r_iloadN 12 dJ0_charAt_5068e_11 rfl rfl ?_
  refine r_cs2 15 dJ0_charAt_5068e_12 rfl gJ0_495 (Nat.le_of_ble_eq_true rfl) (Nat.le_of_ble_eq_true rfl) rfl ?_
  refine s_lat1 hz h hj ?_
  exact r_nret dJ0_charAt_5068e_15 rfl (nm_at i h j (by omega)).2 k
/-! what a text says: T its ints, e how many, p a place -/
def tSq (T : Nat → Int) (e : Nat) : List Int → Nat → Nat × Bool
  | [], p => (p, true)
  | x :: l, p => if p < e ∧ T p = x then tSq T e l (p + 1) else (p, false)
def tNum (T : Nat → Int) (e : Nat) : Nat → Nat → Int → Nat × Int
  | 0, p, v => (p, v)
  | k + 1, p, v => if p < e ∧ 48 ≤ T p ∧ T p ≤ 57 then tNum T e k (p + 1) (v * 10 + T p - 48) else (p, v)
theorem tSq_rng {T : Nat → Int} {e : Nat} : ∀ (l : List Int) (p : Nat), p ≤ e → p ≤ (tSq T e l p).1 ∧ (tSq T e l p).1 ≤ e ∧ ((tSq T e l p).2 = true → (tSq T e l p).1 = p + l.length)
  | [], p, h => ⟨Nat.le_refl _, h, fun _ => rfl⟩
  | x :: l, p, h => by
    rw [tSq]
    split
    · next q =>
      have ih := tSq_rng (T := T) (e := e) l (p + 1) (by omega)
      refine ⟨by omega, ih.2.1, fun h => ?_⟩
      rw [ih.2.2 h, List.length_cons]
      omega
    · exact ⟨Nat.le_refl _, h, fun h => absurd (show false = true from h) (by decide)⟩
theorem tNum_rng {T : Nat → Int} {e : Nat} : ∀ (k p : Nat) (v : Int), p ≤ e → 0 ≤ v → v < ((10 ^ (9 - k) : Nat) : Int) → k ≤ 9 → (p ≤ (tNum T e k p v).1 ∧ (tNum T e k p v).1 ≤ e ∧ (tNum T e k p v).1 ≤ p + k) ∧ 0 ≤ (tNum T e k p v).2 ∧ (tNum T e k p v).2 < 1000000000
  | 0, p, v, h, h0, h1, _ => ⟨⟨Nat.le_refl _, h, Nat.le_refl _⟩, h0, h1⟩
  | k + 1, p, v, h, h0, h1, hk => by
    rw [tNum]
    have e9 : (10 : Nat) ^ (9 - k) = 10 ^ (9 - (k + 1)) * 10 := by rw [show 9 - k = 9 - (k + 1) + 1 by omega, Nat.pow_succ]
    have l9 : (10 : Nat) ^ (9 - (k + 1)) ≤ 10 ^ 9 := Nat.pow_le_pow_right (by decide) (by omega)
    rw [show (10 : Nat) ^ 9 = 1000000000 from rfl] at l9
    generalize (10 : Nat) ^ (9 - (k + 1)) = y at e9 h1 l9
    split
    · have ih := tNum_rng (T := T) (e := e) k (p + 1) (v * 10 + T p - 48) (by omega) (by omega) (by rw [e9]; omega) (by omega)
      exact ⟨⟨by omega, ih.1.2.1, by omega⟩, ih.2⟩
    · exact ⟨⟨Nat.le_refl _, h, by omega⟩, h0, by omega⟩
theorem tNum_lt {T : Nat → Int} {e p k : Nat} {v : Int} (hq : p < e ∧ 48 ≤ T p ∧ T p ≤ 57) (h0 : 0 ≤ v) (h1 : v < ((10 ^ (9 - (k + 1)) : Nat) : Int)) (hk : k + 1 ≤ 9) : p < (tNum T e (k + 1) p v).1 := by
  rw [tNum, if_pos hq]
  have e9 : (10 : Nat) ^ (9 - k) = 10 ^ (9 - (k + 1)) * 10 := by rw [show 9 - k = 9 - (k + 1) + 1 by omega, Nat.pow_succ]
  generalize (10 : Nat) ^ (9 - (k + 1)) = y at e9 h1
  have := tNum_rng (T := T) (e := e) k (p + 1) (v * 10 + T p - 48) (by omega) (by omega) (by rw [e9]; omega) (by omega)
  omega
/-- a number that may be -/
def tOk (T : Nat → Int) (e p : Nat) (lo hi : Int) : Bool := decide (p < (tNum T e 3 p 0).1 ∧ lo ≤ (tNum T e 3 p 0).2 ∧ (tNum T e 3 p 0).2 ≤ hi)
theorem tNum_3 {T : Nat → Int} {e p : Nat} (h : p ≤ e) : (p ≤ (tNum T e 3 p 0).1 ∧ (tNum T e 3 p 0).1 ≤ e ∧ (tNum T e 3 p 0).1 ≤ p + 3) ∧ 0 ≤ (tNum T e 3 p 0).2 ∧ (tNum T e 3 p 0).2 < 1000000000 := tNum_rng 3 p 0 h (by decide) (by decide) (by decide)
/-- signs l, then a number -/
def tSN (T : Nat → Int) (e : Nat) (l : List Int) (lo hi : Int) (p : Nat) : Bool := (tSq T e l p).2 && tOk T e (tSq T e l p).1 lo hi
/-- the place behind them -/
def tSQ (T : Nat → Int) (e : Nat) (l : List Int) (p : Nat) : Nat := (tNum T e 3 (tSq T e l p).1 0).1
def tSV (T : Nat → Int) (e : Nat) (l : List Int) (p : Nat) : Int := (tNum T e 3 (tSq T e l p).1 0).2
/-- the place of what is wrong with them -/
def tSF (T : Nat → Int) (e : Nat) (l : List Int) (p : Nat) : Nat := (tSq T e l p).1
