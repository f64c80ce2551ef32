/-! ===== what the Statement gives of the start ===== -/
def nwL : List Cond := flatC (Jvm.Cond.and given_1 narrow_1)
def stm (i : Nat) : Term := .string "HumUnheard$Reader" (xtx.getD i (0, "")).1
def xlen : List Nat := [5, 5, 6, 6, 5, 6, 3, 2, 6, 4, 6]
def zaf (b t1 t2 t3 : Nat) (aK aV : Nat → Nat) : Nat → Nat := fun n => if n = 0 then b else if n = 1 then t1 else if n = 2 then t2 else if n = 3 then t3 else if n < 20 then aK (n - 5) else aV (n - 20)
theorem zaf_K {b t1 t2 t3 : Nat} {aK aV : Nat → Nat} {i : Nat} (h : i < 11) : zaf b t1 t2 t3 aK aV (5 + i) = aK i := by
  unfold zaf
  rw [if_neg (by omega), if_neg (by omega), if_neg (by omega), if_neg (by omega), if_pos (by omega), show 5 + i - 5 = i by omega]
theorem zaf_V {b t1 t2 t3 : Nat} {aK aV : Nat → Nat} {i : Nat} : zaf b t1 t2 t3 aK aV (20 + i) = aV i := by
  unfold zaf
  rw [if_neg (by omega), if_neg (by omega), if_neg (by omega), if_neg (by omega), if_neg (by omega), show 20 + i - 20 = i by omega]
set_option maxRecDepth 100000 in
theorem st_hex : ∀ i, i < 11 → Cond.exactly (stm i) "java/lang/String" ∈ nwL := by decide +kernel
set_option maxRecDepth 100000 in
theorem st_hco : ∀ i, i < 11 → Cond.eq (.field (stm i) "java/lang/String" "coder" "B") (.int 0) ∈ nwL := by decide +kernel
set_option maxRecDepth 100000 in
theorem st_har : ∀ i, i < 11 → Cond.arrayOf (.field (stm i) "java/lang/String" "value" "[B") .byte ∈ nwL := by decide +kernel
set_option maxRecDepth 100000 in
theorem st_hle : ∀ i, i < 11 → Cond.eq (.length (.field (stm i) "java/lang/String" "value" "[B")) (.int (Int32.ofNat (xlen.getD i 0))) ∈ nwL := by decide +kernel
set_option maxRecDepth 100000 in
theorem st_hel : ∀ i, i < 11 → ∀ j, j < xlen.getD i 0 → Cond.eq (.elem (.field (stm i) "java/lang/String" "value" "[B") (.int (Int32.ofNat j))) (.int ((xby.getD i []).getD j 0)) ∈ nwL := by decide +kernel
set_option maxRecDepth 100000 in
theorem st_hne : ∀ i, i < 11 → ∀ j, j < 11 → i ≠ j → (Cond.not (Cond.eq (stm i) (stm j)) ∈ nwL ∨ Cond.not (Cond.eq (stm j) (stm i)) ∈ nwL) := by decide +kernel
theorem st_len : ∀ i, i < 11 → xlen.getD i 0 = (xby.getD i []).length := by decide
theorem st_l31 : ∀ i, i < 11 → xlen.getD i 0 < 2 ^ 31 := by decide +kernel
set_option maxRecDepth 100000 in
theorem st_ref : ∀ i, i < 11 → Cond.stringRef "HumUnheard$Reader" (xtx.getD i (0, "")).1 (xtx.getD i (0, "")).2 ∈ lw_tbl := by decide +kernel
theorem bwt {w : Cond} (h : w ∈ BW) : w ∈ lw_tbl := (List.mem_filter.mp h).1

set_option maxRecDepth 100000 in
theorem st_FIRST_LAWS : ∀ j, j < 6 → Cond.eq (.elem (.static "HumUnheard" "FIRST_LAWS" "[I") (.int (Int32.ofNat j))) (.int (xFL.getD j 0)) ∈ nwL := by decide +kernel
theorem st_FIRST_LAWS_t {args : Array Value} {s : State} {A : Nat → Prop} (hts : ∀ w ∈ lw_tbl, w.before args s = true) (hs : ∀ w ∈ nwL, w.before args s = true) (hA : ∀ a : Nat, a < s.heap.size → ¬ A a) : ∃ t : Nat, va_T .int t 6 (fun j => .int (xFL.getD j 0)) A s s.heap ∧ va_Z "HumUnheard" "FIRST_LAWS" "[I" (.ref t) A s s.heap := by
  obtain ⟨t, h1, h2⟩ := va_Tof (args := args) (s := s) (tm := .static "HumUnheard" "FIRST_LAWS" "[I") (ty := .int) (N := 6) (f := fun j => .int (xFL.getD j 0)) (A := A) (by decide) (hs _ (by decide +kernel)) (va_eqt (hs (Cond.eq (.length (.static "HumUnheard" "FIRST_LAWS" "[I")) (.int (Int32.ofNat 6))) (by decide +kernel))) (fun j hj => va_eqt (hs _ (st_FIRST_LAWS j hj))) hA
  exact ⟨t, h2, va_Zref (hts _ (by decide +kernel)) (hts _ (by decide +kernel)) h1 hA⟩

set_option maxRecDepth 100000 in
theorem st_LEAST_LAWS : ∀ j, j < 6 → Cond.eq (.elem (.static "HumUnheard" "LEAST_LAWS" "[I") (.int (Int32.ofNat j))) (.int (xLL.getD j 0)) ∈ nwL := by decide +kernel
theorem st_LEAST_LAWS_t {args : Array Value} {s : State} {A : Nat → Prop} (hts : ∀ w ∈ lw_tbl, w.before args s = true) (hs : ∀ w ∈ nwL, w.before args s = true) (hA : ∀ a : Nat, a < s.heap.size → ¬ A a) : ∃ t : Nat, va_T .int t 6 (fun j => .int (xLL.getD j 0)) A s s.heap ∧ va_Z "HumUnheard" "LEAST_LAWS" "[I" (.ref t) A s s.heap := by
  obtain ⟨t, h1, h2⟩ := va_Tof (args := args) (s := s) (tm := .static "HumUnheard" "LEAST_LAWS" "[I") (ty := .int) (N := 6) (f := fun j => .int (xLL.getD j 0)) (A := A) (by decide) (hs _ (by decide +kernel)) (va_eqt (hs (Cond.eq (.length (.static "HumUnheard" "LEAST_LAWS" "[I")) (.int (Int32.ofNat 6))) (by decide +kernel))) (fun j hj => va_eqt (hs _ (st_LEAST_LAWS j hj))) hA
  exact ⟨t, h2, va_Zref (hts _ (by decide +kernel)) (hts _ (by decide +kernel)) h1 hA⟩

set_option maxRecDepth 100000 in
theorem st_MOST_LAWS : ∀ j, j < 6 → Cond.eq (.elem (.static "HumUnheard" "MOST_LAWS" "[I") (.int (Int32.ofNat j))) (.int (xML.getD j 0)) ∈ nwL := by decide +kernel
theorem st_MOST_LAWS_t {args : Array Value} {s : State} {A : Nat → Prop} (hts : ∀ w ∈ lw_tbl, w.before args s = true) (hs : ∀ w ∈ nwL, w.before args s = true) (hA : ∀ a : Nat, a < s.heap.size → ¬ A a) : ∃ t : Nat, va_T .int t 6 (fun j => .int (xML.getD j 0)) A s s.heap ∧ va_Z "HumUnheard" "MOST_LAWS" "[I" (.ref t) A s s.heap := by
  obtain ⟨t, h1, h2⟩ := va_Tof (args := args) (s := s) (tm := .static "HumUnheard" "MOST_LAWS" "[I") (ty := .int) (N := 6) (f := fun j => .int (xML.getD j 0)) (A := A) (by decide) (hs _ (by decide +kernel)) (va_eqt (hs (Cond.eq (.length (.static "HumUnheard" "MOST_LAWS" "[I")) (.int (Int32.ofNat 6))) (by decide +kernel))) (fun j hj => va_eqt (hs _ (st_MOST_LAWS j hj))) hA
  exact ⟨t, h2, va_Zref (hts _ (by decide +kernel)) (hts _ (by decide +kernel)) h1 hA⟩

theorem st_str {args : Array Value} {s : State} {A : Nat → Prop} (hs : ∀ w ∈ nwL, w.before args s = true) (hA : ∀ a : Nat, a < s.heap.size → ¬ A a) : ∃ adK adV : Nat → Nat, vk_S 11 xlen xby adK adV A s s.heap ∧ ∀ i : Nat, i < 11 → (stm i).eval args s none [] s = some (.ref (adK i)) :=
  vk_Sof (args := args) (s := s) (N := 11) (tm := stm) (len := xlen) (byt := xby) (A := A) st_l31 (fun i hi => hs _ (st_hex i hi)) (fun i hi => hs _ (st_hco i hi)) (fun i hi => hs _ (st_har i hi)) (fun i hi => hs _ (st_hle i hi)) (fun i hi j hj => hs _ (st_hel i hi j hj)) (fun i j hi hj hne => by
    rcases st_hne i hi j hj hne with h | h
    · exact Or.inl (hs _ h)
    · exact Or.inr (hs _ h)) hA
def tyl : List FieldType := [.int, .long, .object "HumUnheard$Shelf", .object "HumUnheard$Person", .object "HumUnheard$Source", .object "HumUnheard$Plan"]
theorem st_prim {args : Array Value} {s : State} {ty : FieldType} (h : (Cond.arrayClass ty).before args s = true) : ∃ cA : ClassId, ArrOfT s cA ty ∧ s.vm.findClass ("[" ++ ty.toString) = some cA := by
  obtain ⟨cA, kA, comp, h1, h2, h3⟩ := Cond.arrayClass_spec h
  exact ⟨cA, fun n y => ⟨(fun k h => by cases h), kA, h2, comp, h3⟩, h1⟩
theorem st_obj {args : Array Value} {s : State} {C : String} (h : (Cond.arrayOver (.object C)).before args s = true) : ∃ cA : ClassId, ArrOfT s cA (.object C) ∧ va_RA s cA (.object C) := by
  obtain ⟨comp, cA, kA, h1, -, h2, h3, h4⟩ := Cond.arrayOver_spec h
  exact ⟨cA, fun n y => ⟨(fun k h => by cases h), kA, h2, comp, h3⟩, kA, comp, h2, h3, h1, h4⟩
theorem st_arr {args : Array Value} {s : State} (hts : ∀ w ∈ lw_tbl, w.before args s = true) : ∃ zc : Nat → ClassId, ∀ (k : Nat) (ty : FieldType), tyl[k]? = some ty → ArrOfT s (zc k) ty ∧ va_RA s (zc k) ty := by
  have z : xZ := (fun _ => 0, fun _ => 0, 0, fun _ => 0, .null, fun _ _ => 0)
  have h : ∀ k : Nat, ∃ cA : ClassId, ∀ ty : FieldType, tyl[k]? = some ty → ArrOfT s cA ty ∧ va_RA s cA ty := by
    intro k
    match k with
    | 0 =>
      obtain ⟨cA, h1, h2⟩ := st_prim (hts _ (bwt (wAI z)))
      exact ⟨cA, fun ty h => by cases h; exact ⟨h1, h2⟩⟩
    | 1 =>
      obtain ⟨cA, h1, h2⟩ := st_prim (hts _ (bwt (wAL z)))
      exact ⟨cA, fun ty h => by cases h; exact ⟨h1, h2⟩⟩
    | 2 =>
      obtain ⟨cA, h1⟩ := st_obj (hts _ (List.mem_filter.mp (nX10_9a z).2).1)
      exact ⟨cA, fun ty h => by cases h; exact h1⟩
    | 3 =>
      obtain ⟨cA, h1⟩ := st_obj (hts _ (List.mem_filter.mp (nX9_30a z).2).1)
      exact ⟨cA, fun ty h => by cases h; exact h1⟩
    | 4 =>
      obtain ⟨cA, h1⟩ := st_obj (hts _ (List.mem_filter.mp (nX9_36a z).2).1)
      exact ⟨cA, fun ty h => by cases h; exact h1⟩
    | 5 =>
      obtain ⟨cA, h1⟩ := st_obj (hts _ (List.mem_filter.mp (nX9_42a z).2).1)
      exact ⟨cA, fun ty h => by cases h; exact h1⟩
    | n + 6 => exact ⟨0, fun ty h => by simp [tyl] at h⟩
  obtain ⟨f, hf⟩ := Classical.axiomOfChoice h
  exact ⟨f, hf⟩
theorem st_cls {args : Array Value} {s : State} (hts : ∀ w ∈ lw_tbl, w.before args s = true) : ∃ D : va_G, ∀ (c : Nat) (q : vw_C), xcl[c]? = some q → u_Kn s q.1 q.2.1 q.2.2 (D.1 c) (D.2 c) := by
  have z : xZ := (fun _ => 0, fun _ => 0, 0, fun _ => 0, .null, fun _ _ => 0)
  have h : ∀ c : Nat, ∃ p : ClassId × (Nat → Nat), ∀ q : vw_C, xcl[c]? = some q → u_Kn s q.1 q.2.1 q.2.2 p.1 p.2 := by
    intro c
    match c with
    | 0 =>
      obtain ⟨cC, iS, h1⟩ := u_known (C := RX0) (T := TX0) (N := 5) (n := 5) hts (fun w h => bwt (inX0 w h)) (hts _ (bwt (nX10_40 z).2.1))
      exact ⟨(cC, iS), fun q h => by cases h; exact h1⟩
    | 1 =>
      obtain ⟨cC, iS, h1⟩ := u_known (C := RX1) (T := TX1) (N := 7) (n := 7) hts (fun w h => bwt (inX1 w h)) (hts _ (bwt (nX9_48 z).2.1))
      exact ⟨(cC, iS), fun q h => by cases h; exact h1⟩
    | 2 =>
      obtain ⟨cC, iS, h1⟩ := u_known (C := RX2) (T := TX2) (N := 4) (n := 4) hts (fun w h => bwt (inX2 w h)) (hts _ (bwt (nX9_55 z).2.1))
      exact ⟨(cC, iS), fun q h => by cases h; exact h1⟩
    | 3 =>
      obtain ⟨cC, iS, h1⟩ := u_known (C := RX3) (T := TX3) (N := 5) (n := 5) hts (fun w h => bwt (inX3 w h)) (hts _ (bwt (nX9_30 z).2.1))
      exact ⟨(cC, iS), fun q h => by cases h; exact h1⟩
    | 4 =>
      obtain ⟨cC, iS, h1⟩ := u_known (C := RX4) (T := TX4) (N := 6) (n := 6) hts (fun w h => bwt (inX4 w h)) (hts _ (bwt (nX9_42 z).2.1))
      exact ⟨(cC, iS), fun q h => by cases h; exact h1⟩
    | 5 =>
      obtain ⟨cC, iS, h1⟩ := u_known (C := RX5) (T := TX5) (N := 8) (n := 8) hts (fun w h => bwt (inX5 w h)) (hts _ (bwt (nX10_33 z).2.1))
      exact ⟨(cC, iS), fun q h => by cases h; exact h1⟩
    | 6 =>
      obtain ⟨cC, iS, h1⟩ := u_known (C := RX6) (T := TX6) (N := 8) (n := 8) hts (fun w h => bwt (inX6 w h)) (hts _ (bwt (nX10_15 z).2.1))
      exact ⟨(cC, iS), fun q h => by cases h; exact h1⟩
    | 7 =>
      obtain ⟨cC, iS, h1⟩ := u_known (C := RX7) (T := TX7) (N := 3) (n := 3) hts (fun w h => bwt (inX7 w h)) (hts _ (bwt (nX10_9 z).2.1))
      exact ⟨(cC, iS), fun q h => by cases h; exact h1⟩
    | 8 =>
      obtain ⟨cC, iS, h1⟩ := u_known (C := RX8) (T := TX8) (N := 8) (n := 8) hts (fun w h => bwt (inX8 w h)) (hts _ (bwt (nX9_36 z).2.1))
      exact ⟨(cC, iS), fun q h => by cases h; exact h1⟩
    | 9 =>
      obtain ⟨cC, iS, h1⟩ := u_known (C := RX9) (T := TX9) (N := 14) (n := 14) hts (fun w h => bwt (inX9 w h)) (hts _ (bwt (nX10_27 z).2.1))
      exact ⟨(cC, iS), fun q h => by cases h; exact h1⟩
    | 10 =>
      obtain ⟨cC, iS, h1⟩ := u_known (C := RX10) (T := TX10) (N := 8) (n := 8) hts (fun w h => bwt (inX10 w h)) (hts _ (bwt (nL_7 z).2.1))
      exact ⟨(cC, iS), fun q h => by cases h; exact h1⟩
    | 11 =>
      obtain ⟨cC, iS, h1⟩ := u_known (C := RX11) (T := TX11) (N := 77) (n := 77) hts (fun w h => bwt (inX11 w h)) (hts _ (bwt (nL_10 z).2.1))
      exact ⟨(cC, iS), fun q h => by cases h; exact h1⟩
    | n + 12 => exact ⟨(0, fun _ => 0), fun q h => by simp [xcl] at h⟩
  obtain ⟨f, hf⟩ := Classical.axiomOfChoice h
  exact ⟨(fun c => (f c).1, fun c => (f c).2), hf⟩
theorem st_K {s : State} {D : va_G} {z : xZ} (h1 : ∀ (c : Nat) (q : vw_C), xcl[c]? = some q → u_Kn s q.1 q.2.1 q.2.2 (D.1 c) (D.2 c)) (h2 : ∀ (k : Nat) (ty : FieldType), tyl[k]? = some ty → ArrOfT s (z.1 k) ty ∧ va_RA s (z.1 k) ty) : va_K D xcl (xtys z) s := by
  refine ⟨h1, fun k q hq => ?_⟩
  match k, hq with
  | 0, hq => cases hq; exact h2 0 _ rfl
  | 1, hq => cases hq; exact h2 1 _ rfl
  | 2, hq => cases hq; exact h2 2 _ rfl
  | 3, hq => cases hq; exact h2 3 _ rfl
  | 4, hq => cases hq; exact h2 4 _ rfl
  | 5, hq => cases hq; exact h2 5 _ rfl
  | n + 6, hq => simp [xtys] at hq
theorem st_nest {args : Array Value} {s : State} (hts : ∀ w ∈ lw_tbl, w.before args s = true) : ∀ w ∈ NW, va_Nw w s := by
  intro w hw
  obtain ⟨h1, h2⟩ := List.mem_filter.mp hw
  have h := hts w h1
  unfold xNk at h2
  split at h2
  · exact va_Nw.of rfl h
  · exact va_Nw.of rfl h
  · exact h
  · cases h2
theorem st_ok {b L : Nat} {s : State} {xs : Nat → Int32} (hts : ∀ w ∈ lw_tbl, w.before #[Value.ref b] s = true) (hX : va_X b L xs s s.heap) (hbl : b < s.heap.size) (hgv : (Jvm.Cond.and given_1 narrow_1).before #[Value.ref b] s = true) : ∃ (zc : Nat → ClassId) (za : Nat → Nat) (v : Value) (D : va_G), za 0 = b ∧ (v = .null ∨ ∃ a, v = .ref a) ∧ ∀ ad : Nat → Nat → Nat, xSt (Cf (zc, za, L, xs, v, ad)) D (fun q => s.heap.size ≤ q) s := by
  have hA : ∀ a : Nat, a < s.heap.size → ¬ (fun q : Nat => s.heap.size ≤ q) a := fun a h => Nat.not_le.mpr h
  have hs : ∀ w ∈ nwL, w.before #[Value.ref b] s = true := flat_of_before _ hgv
  obtain ⟨t1, T1, Z1⟩ := st_FIRST_LAWS_t hts hs hA
  obtain ⟨t2, T2, Z2⟩ := st_LEAST_LAWS_t hts hs hA
  obtain ⟨t3, T3, Z3⟩ := st_MOST_LAWS_t hts hs hA
  obtain ⟨aK, aV, hS, hE⟩ := st_str hs hA
  obtain ⟨zc, hzc⟩ := st_arr hts
  obtain ⟨D, hD⟩ := st_cls hts
  have hC : va_Z "java/lang/String" "COMPACT_STRINGS" "Z" (.int 1) (fun q : Nat => s.heap.size ≤ q) s s.heap := va_Zof (hts _ (by decide +kernel)) (hts _ (by decide +kernel)) (va_eqi (hs _ (by decide +kernel))) hA
  have hQ : va_Zq "jdk/internal/util/Preconditions" "SIOOBE_FORMATTER" "Ljava/util/function/BiFunction;" (fun q : Nat => s.heap.size ≤ q) s s.heap := va_Zqof (hts _ (by decide +kernel)) (hts _ (by decide +kernel)) (hs _ (by decide +kernel)) hA
  obtain ⟨v, hv, hZv⟩ : ∃ v : Value, (v = .null ∨ ∃ a, v = .ref a) ∧ va_Z "jdk/internal/util/Preconditions" "SIOOBE_FORMATTER" "Ljava/util/function/BiFunction;" v (fun q : Nat => s.heap.size ≤ q) s s.heap := by
    rcases hQ with h | ⟨t, h⟩
    · exact ⟨.null, Or.inl rfl, h⟩
    · exact ⟨.ref t, Or.inr ⟨t, rfl⟩, h⟩
  have T0 : va_T .int b L (fun j => .int (xs j)) (fun q : Nat => s.heap.size ≤ q) s s.heap := by
    obtain ⟨cell, h1, h2, h3, h4, h5⟩ := hX
    exact ⟨cell, h1, h2, h3, Nat.le_of_eq h4.symm, by rw [h4], h5, hA b hbl⟩
  refine ⟨zc, zaf b t1 t2 t3 aK aV, v, D, rfl, hv, fun ad => ⟨st_K hD hzc, st_nest hts, ⟨?_, ?_, ?_, ?_, ?_⟩, fun q hq => hq⟩⟩
  · intro q hq
    rcases List.mem_append.mp hq with h | h
    · simp only [List.mem_cons, List.not_mem_nil, or_false] at h
      rcases h with rfl | rfl | rfl | rfl
      · exact T0
      · exact T1
      · exact T2
      · exact T3
    · obtain ⟨i, hi, rfl⟩ := List.mem_map.mp h
      have hi := List.mem_range.mp hi
      have q := (hS.1 i hi).2.2.2
      rw [st_len i hi] at q
      show va_T .byte (zaf b t1 t2 t3 aK aV (20 + i)) (xby.getD i []).length (fun j => .int ((xby.getD i []).getD j 0)) _ s s.heap
      rw [zaf_V]
      exact q
  · intro q hq
    obtain ⟨i, hi, rfl⟩ := List.mem_map.mp hq
    have hi := List.mem_range.mp hi
    show va_O "java/lang/String" (zaf b t1 t2 t3 aK aV (5 + i)) _ s s.heap
    rw [zaf_K hi]
    exact (hS.1 i hi).1
  · intro q hq
    rcases List.mem_append.mp hq with h | h
    · obtain ⟨i, hi, rfl⟩ := List.mem_map.mp h
      have hi := List.mem_range.mp hi
      show va_OF "java/lang/String" "coder" "B" (.int 0) (zaf b t1 t2 t3 aK aV (5 + i)) _ s s.heap
      rw [zaf_K hi]
      exact (hS.1 i hi).2.1
    · obtain ⟨i, hi, rfl⟩ := List.mem_map.mp h
      have hi := List.mem_range.mp hi
      show va_OF "java/lang/String" "value" "[B" (.ref (zaf b t1 t2 t3 aK aV (20 + i))) (zaf b t1 t2 t3 aK aV (5 + i)) _ s s.heap
      rw [zaf_K hi, zaf_V]
      exact (hS.1 i hi).2.2.1
  · intro q hq
    have hq : q ∈ [("HumUnheard", "FIRST_LAWS", "[I", Value.ref t1), ("HumUnheard", "LEAST_LAWS", "[I", Value.ref t2), ("HumUnheard", "MOST_LAWS", "[I", Value.ref t3), ("java/lang/String", "COMPACT_STRINGS", "Z", Value.int 1), ("jdk/internal/util/Preconditions", "SIOOBE_FORMATTER", "Ljava/util/function/BiFunction;", v)] := hq
    simp only [List.mem_cons, List.not_mem_nil, or_false] at hq
    rcases hq with rfl | rfl | rfl | rfl | rfl
    · exact Z1
    · exact Z2
    · exact Z3
    · exact hC
    · exact hZv
  · intro q hq
    obtain ⟨i, hi, rfl⟩ := List.mem_map.mp hq
    have hi := List.mem_range.mp hi
    show vk_R "HumUnheard$Reader" (xtx.getD i (0, "")).1 (xtx.getD i (0, "")).2 (zaf b t1 t2 t3 aK aV (5 + i)) s
    rw [zaf_K hi]
    exact vk_R.of (hts _ (st_ref i hi)) (hE i hi)
