/-! ===== THE ABSTRACT MACHINE: a memory of cells at addresses, rules an instruction, Ex: what runs to an end with Q; its soundness over W ===== -/
abbrev xMem : Type := Nat → Option va_E
abbrev xLoc : Type := List (Option Value)
/-- name, bytes, locals, answer -/
abbrev xMI : Type := MethodName × ByteArray × Nat × Option FieldType
/-- place, locals, stack, memory, cells and slots made -/
abbrev xP : Type := Nat → xLoc → List Value → xMem → Nat × Nat → Prop
abbrev xQ : Type := Option Value → xMem → Prop
/-- int tables (address, type, length, entries), objects (address, class), their fields (address, class, name, descriptor, value), statics, text constants (class, entry, text, address) -/
abbrev xRO : Type := List (Nat × FieldType × Nat × (Nat → Int32)) × List (Nat × String) × List (Nat × String × String × String × Value) × List (String × String × String × Value) × List (String × Nat × String × Nat)
/-- words, words that aren't kept by tables alone, classes, array classes, what is only read -/
abbrev xCf : Type := List Cond × List Cond × List vw_C × List (ClassId × FieldType) × xRO
def xup (μ : xMem) (a : Nat) (e : va_E) : xMem := fun q => if q = a then some e else μ q
theorem xup_self (μ : xMem) (a : Nat) (e : va_E) : xup μ a e a = some e := by simp [xup]
theorem xup_ne (μ : xMem) {a q : Nat} (e : va_E) (h : q ≠ a) : xup μ a e q = μ q := by simp [xup, h]
def xNk : Cond → Bool
  | .fieldLinkNest .. => true
  | .methodLinkNest .. => true
  | .arrayOver (.object _) => true
  | _ => false
def xRd (ro : xRO) (A : Nat → Prop) (U : State) : Prop :=
  (∀ q ∈ ro.1, va_T q.2.1 q.1 q.2.2.1 (fun j => .int (q.2.2.2 j)) A U U.heap) ∧ (∀ q ∈ ro.2.1, va_O q.2 q.1 A U U.heap) ∧ (∀ q ∈ ro.2.2.1, va_OF q.2.1 q.2.2.1 q.2.2.2.1 q.2.2.2.2 q.1 A U U.heap) ∧ (∀ q ∈ ro.2.2.2.1, va_Z q.1 q.2.1 q.2.2.1 q.2.2.2 A U U.heap) ∧ ∀ q ∈ ro.2.2.2.2, vk_R q.1 q.2.1 q.2.2.1 q.2.2.2 U
def xSt (cf : xCf) (D : va_G) (A : Nat → Prop) (U : State) : Prop := va_K D cf.2.2.1 cf.2.2.2.1 U ∧ (∀ w ∈ cf.2.1, va_Nw w U) ∧ xRd cf.2.2.2.2 A U ∧ ∀ q, U.heap.size ≤ q → A q
def xOK (cf : xCf) : Prop := (∀ w ∈ cf.1, (w.onTables && w.keeps) = true ∨ ∃ ty, w = .arrayClass ty) ∧ (∀ w ∈ cf.2.1, xNk w = true) ∧ ∀ (ci : Nat) (q : vw_C), cf.2.2.1[ci]? = some q → (∀ w ∈ u_ws q.1 q.2.1 q.2.2, w ∈ cf.1) ∧ (∃ ty : Nat → FieldType, ∀ k, k < q.2.2 → parseFieldDescriptor (q.2.1 k).2.2.1 = some (ty k)) ∧ ∀ a, a < q.2.2 → ∀ b, b < q.2.2 → a ≠ b → (q.2.1 a).2.1 ≠ (q.2.1 b).2.1
def xSim (cf : xCf) (D : va_G) (A : Nat → Prop) (μ : xMem) (H : Heap) : Prop := ∀ (a : Nat) (e : va_E), μ a = some e → va_at D cf.2.2.1 (a, e) H ∧ A a
theorem xNw_warm {w : Cond} (hk : xNk w = true) {s U : State} (hW : s.WarmedH U.vm) (h : va_Nw w s) : va_Nw w U := by
  unfold xNk at hk
  split at hk
  · exact va_Nw.warmF hW h
  · exact va_Nw.warmM hW h
  · exact va_AO.moved hW.alike h
  · cases hk
theorem xNw_alike {w : Cond} (hk : xNk w = true) {s U : State} (hv : s.vm = U.vm) (h : va_Nw w s) : va_Nw w U := by
  unfold xNk at hk
  split at hk
  · exact va_Nw.same rfl hv h
  · exact va_Nw.same rfl hv h
  · exact va_AO.moved (by rw [hv]; exact Vm.Alike.refl _) h
  · cases hk
theorem xRd_moved {ro : xRO} {A : Nat → Prop} {s U : State} {H : Heap} {locs : List Loc} (h : xRd ro A s) (hS : va_S A s.heap H locs) (hU : U.heap = H) (hv : s.vm.Alike U.vm) (hr : ∀ (o : String) (k : Nat) (tx : String) (a : Nat), vk_R o k tx a s → vk_R o k tx a U) : xRd ro A U := by
  obtain ⟨h1, h2, h3, h4, h5⟩ := h
  subst hU
  exact ⟨fun q hq => va_T.moved hv ((h1 q hq).kept hS.2.1), fun q hq => va_O.moved hv ((h2 q hq).kept hS.2.1), fun q hq => va_OF.moved hv ((h3 q hq).kept hS.2.1), fun q hq => va_Z.moved hv ((h4 q hq).kept hS.2.1), fun q hq => hr _ _ _ _ (h5 q hq)⟩
theorem xSt_warm {cf : xCf} (hok : xOK cf) {D : va_G} {A : Nat → Prop} {s U : State} {H : Heap} {locs : List Loc} (h : xSt cf D A s) (hS : va_S A s.heap H locs) (hU : U.heap = H) (hW : s.WarmedH U.vm) : xSt cf D A U :=
  ⟨va_K.moved hW.alike h.1, fun w hw => xNw_warm (hok.2.1 w hw) hW (h.2.1 w hw), xRd_moved h.2.2.1 hS hU hW.alike (fun _ _ _ _ z => vk_R.warm hW z), fun q hq => h.2.2.2 q (Nat.le_trans hS.1 (by rw [← hU]; exact hq))⟩
theorem xSt_blind {cf : xCf} (hok : xOK cf) {D : va_G} {A : Nat → Prop} {s U : State} (h : xSt cf D A s) (hh : U.heap = s.heap) (hv : U.vm = s.vm) : xSt cf D A U :=
  ⟨va_K.moved (by rw [hv]; exact Vm.Alike.refl _) h.1, fun w hw => xNw_alike (hok.2.1 w hw) hv.symm (h.2.1 w hw), xRd_moved (locs := []) h.2.2.1 va_S.rf hh (by rw [hv]; exact Vm.Alike.refl _) (fun _ _ _ _ z => vk_R.same hv z), fun q hq => h.2.2.2 q (by rw [← hh]; exact hq)⟩

/-! the memory's cells as a list: the kit's rows over it -/
def xls (μ : xMem) (n : Nat) : va_W := (List.range n).filterMap (fun q => (μ q).map (fun e => (q, e)))
theorem xls_mem {μ : xMem} {n a : Nat} {e : va_E} : (a, e) ∈ xls μ n ↔ a < n ∧ μ a = some e := by
  simp only [xls, List.mem_filterMap, List.mem_range, Option.map_eq_some_iff]
  constructor
  · rintro ⟨q, hq, e', h1, h2⟩
    cases h2
    exact ⟨hq, h1⟩
  · rintro ⟨h1, h2⟩
    exact ⟨a, h1, e, h2, rfl⟩
theorem xls_succ (μ : xMem) (n : Nat) : xls μ (n + 1) = xls μ n ++ (match μ n with | some e => [(n, e)] | none => []) := by
  simp only [xls, List.range_succ, List.filterMap_append]
  cases h : μ n <;> simp [h]
theorem xls_apart (μ : xMem) : ∀ (n i j : Nat) (p q : Nat × va_E), (xls μ n)[i]? = some p → (xls μ n)[j]? = some q → p.1 = q.1 → i = j := by
  intro n
  induction n with
  | zero => intro i j p q h; simp [xls] at h
  | succ n ih =>
    intro i j p q h1 h2 h3
    rw [xls_succ] at h1 h2
    cases hμ : μ n with
    | none => rw [hμ] at h1 h2; simp at h1 h2; exact ih i j p q h1 h2 h3
    | some e =>
      rw [hμ] at h1 h2
      have key : ∀ (k : Nat) (r : Nat × va_E), (xls μ n ++ [(n, e)])[k]? = some r → ((xls μ n)[k]? = some r ∧ r.1 < n) ∨ (k = (xls μ n).length ∧ r.1 = n) := by
        intro k r hk
        by_cases hl : k < (xls μ n).length
        · rw [List.getElem?_append_left hl] at hk
          have hm := List.mem_of_getElem? hk
          obtain ⟨r1, r2⟩ := r
          exact Or.inl ⟨hk, (xls_mem.mp hm).1⟩
        · rw [List.getElem?_append_right (by omega)] at hk
          have hz : k - (xls μ n).length < 1 := (List.getElem?_eq_some_iff.mp hk).1
          have hk0 : k = (xls μ n).length := by omega
          subst hk0
          rw [Nat.sub_self] at hk
          cases hk
          exact Or.inr ⟨rfl, rfl⟩
      rcases key i p h1 with ⟨a1, a2⟩ | ⟨a1, a2⟩ <;> rcases key j q h2 with ⟨b1, b2⟩ | ⟨b1, b2⟩
      · exact ih i j p q a1 b1 h3
      · omega
      · omega
      · omega
theorem xSim_P {cf : xCf} {D : va_G} {A : Nat → Prop} {μ : xMem} {H : Heap} (h : xSim cf D A μ H) (n : Nat) : va_P D cf.2.2.1 (xls μ n) H := fun k q hk => by
  obtain ⟨a, e⟩ := q
  exact (h a e (xls_mem.mp (List.mem_of_getElem? hk)).2).1
theorem xSim_D {cf : xCf} {D : va_G} {A : Nat → Prop} {μ : xMem} {H : Heap} (h : xSim cf D A μ H) (n : Nat) : va_D A (xls μ n) := ⟨fun i j p q h1 h2 h3 => xls_apart μ n i j p q h1 h2 h3, fun k q hk => by
  obtain ⟨a, e⟩ := q
  exact (h a e (xls_mem.mp (List.mem_of_getElem? hk)).2).2⟩
theorem xSim_at {cf : xCf} {D : va_G} {A : Nat → Prop} {μ : xMem} {H : Heap} (h : xSim cf D A μ H) {a : Nat} {e : va_E} (ha : μ a = some e) : ∃ k : Nat, (xls μ H.size)[k]? = some (a, e) :=
  List.getElem?_of_mem (xls_mem.mpr ⟨(h a e ha).1.lt, ha⟩)
theorem xSim_set {cf : xCf} {D : va_G} {A : Nat → Prop} {μ : xMem} {H H1 : Heap} (h : xSim cf D A μ H) {a k : Nat} {e0 e : va_E} (hk : (xls μ H.size)[k]? = some (a, e0)) (hP : va_P D cf.2.2.1 ((xls μ H.size).set k (a, e)) H1) : xSim cf D A (xup μ a e) H1 := by
  have hl := (List.getElem?_eq_some_iff.mp hk).1
  intro q e1 hq
  by_cases hqa : q = a
  · subst hqa
    rw [xup_self] at hq
    cases hq
    exact ⟨hP k (q, e) (List.getElem?_set_self hl), (h q e0 (xls_mem.mp (List.mem_of_getElem? hk)).2).2⟩
  · rw [xup_ne _ _ hqa] at hq
    obtain ⟨j, hj⟩ := xSim_at h hq
    have hne : k ≠ j := fun z => by
      subst z
      rw [hk] at hj
      cases hj
      exact hqa rfl
    exact ⟨hP j (q, e1) (by rw [List.getElem?_set_ne hne]; exact hj), (h q e1 hq).2⟩
theorem xSim_new {cf : xCf} {D : va_G} {A : Nat → Prop} {μ : xMem} {H H1 : Heap} (h : xSim cf D A μ H) {a : Nat} {e : va_E} (hP : va_P D cf.2.2.1 (xls μ H.size ++ [(a, e)]) H1) (hD : va_D A (xls μ H.size ++ [(a, e)])) : μ a = none ∧ xSim cf D A (xup μ a e) H1 := by
  have hlast : (xls μ H.size ++ [(a, e)])[(xls μ H.size).length]? = some (a, e) := by simp
  have hn : μ a = none := by
    cases hμ : μ a with
    | none => rfl
    | some e1 =>
      obtain ⟨j, hj⟩ := xSim_at h hμ
      have hl := (List.getElem?_eq_some_iff.mp hj).1
      have := hD.1 j _ (a, e1) (a, e) (by rw [List.getElem?_append_left hl]; exact hj) hlast rfl
      omega
  refine ⟨hn, fun q e1 hq => ?_⟩
  by_cases hqa : q = a
  · subst hqa
    rw [xup_self] at hq
    cases hq
    exact ⟨hP _ _ hlast, hD.2 _ _ hlast⟩
  · rw [xup_ne _ _ hqa] at hq
    obtain ⟨j, hj⟩ := xSim_at h hq
    have hl := (List.getElem?_eq_some_iff.mp hj).1
    exact ⟨hP j _ (by rw [List.getElem?_append_left hl]; exact hj), (h q e1 hq).2⟩

/-! the locals -/
def x_has (ls : Array Slot) (nL : Nat) (lo : xLoc) : Prop := ls.size = nL ∧ lv_wf ls ∧ ∀ (i : Nat) (v : Value), lo[i]? = some (some v) → ls[i]? = some (.val v)
/-- a long that loses its second half is gone -/
def xk (o : Option Value) : Option Value := match o with
  | some v => if v.category = 2 then none else some v
  | none => none
def xkp (i : Nat) (lo : xLoc) : xLoc := match i with
  | 0 => lo
  | j + 1 => lo.modify j xk
def xs1 (i : Nat) (v : Value) (lo : xLoc) : xLoc := (xkp i lo).set i (some v)
def xs2 (i : Nat) (v : Value) (lo : xLoc) : xLoc := ((xkp i lo).set i (some v)).set (i + 1) none
/-- the list of what is held -/
def xlv : Nat → xLoc → List (Nat × Value)
  | _, [] => []
  | n, some v :: r => (n, v) :: xlv (n + 1) r
  | n, none :: r => xlv (n + 1) r
theorem xlv_mem : ∀ (lo : xLoc) (n i : Nat) (v : Value), (i, v) ∈ xlv n lo ↔ n ≤ i ∧ lo[i - n]? = some (some v) := by
  intro lo
  induction lo with
  | nil => intro n i v; simp [xlv]
  | cons o r ih =>
    intro n i v
    have tl : (n + 1 ≤ i ∧ r[i - (n + 1)]? = some (some v)) → n ≤ i ∧ (o :: r)[i - n]? = some (some v) := by
      rintro ⟨h1, h2⟩
      refine ⟨by omega, ?_⟩
      rw [show i - n = (i - (n + 1)) + 1 by omega, List.getElem?_cons_succ]
      exact h2
    have tl2 : n ≤ i → (o :: r)[i - n]? = some (some v) → i ≠ n → (n + 1 ≤ i ∧ r[i - (n + 1)]? = some (some v)) := by
      intro h1 h2 h3
      refine ⟨by omega, ?_⟩
      rw [show i - n = (i - (n + 1)) + 1 by omega, List.getElem?_cons_succ] at h2
      exact h2
    cases o with
    | none =>
      rw [xlv, ih]
      constructor
      · exact tl
      · rintro ⟨h1, h2⟩
        refine tl2 h1 h2 (fun z => ?_)
        subst z
        simp at h2
    | some w =>
      rw [xlv, List.mem_cons, ih]
      constructor
      · rintro (h | h)
        · cases h
          exact ⟨Nat.le_refl _, by simp⟩
        · exact tl h
      · rintro ⟨h1, h2⟩
        by_cases z : i = n
        · subst z
          rw [Nat.sub_self, List.getElem?_cons_zero] at h2
          cases h2
          exact Or.inl rfl
        · exact Or.inr (tl2 h1 h2 z)
theorem x_has_lv {ls : Array Slot} {nL : Nat} {lo : xLoc} (h : x_has ls nL lo) : lv_has ls nL (xlv 0 lo) := ⟨h.1, h.2.1, fun q hq => by
  obtain ⟨i, v⟩ := q
  exact h.2.2 i v ((xlv_mem lo 0 i v).mp hq).2⟩
theorem lv_x_has {ls : Array Slot} {nL : Nat} {l : List (Nat × Value)} {lo : xLoc} (h : lv_has ls nL l) (hl : ∀ (i : Nat) (v : Value), lo[i]? = some (some v) → (i, v) ∈ l) : x_has ls nL lo := ⟨h.1, h.2.1, fun i v hi => h.2.2 (i, v) (hl i v hi)⟩
theorem xkp_at {i : Nat} {lo : xLoc} {j : Nat} {v : Value} (h : (xkp i lo)[j]? = some (some v)) : lo[j]? = some (some v) ∧ ¬ (j + 1 = i ∧ v.category = 2) := by
  cases i with
  | zero => exact ⟨h, fun z => by omega⟩
  | succ k =>
    simp only [xkp, List.getElem?_modify] at h
    by_cases hjk : k = j
    · subst hjk
      cases ho : lo[k]? with
      | none => rw [ho] at h; simp at h
      | some o =>
        rw [ho] at h
        cases o with
        | none => simp [xk] at h
        | some w =>
          simp only [if_pos, Option.map_eq_map, Option.map_some, xk, Option.some.injEq] at h
          by_cases hc : w.category = 2
          · rw [if_pos hc] at h; cases h
          · rw [if_neg hc] at h
            cases h
            exact ⟨rfl, fun z => hc z.2⟩
    · simp [hjk] at h
      exact ⟨h, fun z => hjk (by omega)⟩
theorem x_has_s1 {ls' : Array Slot} {nL i : Nat} {lo : xLoc} {v : Value} (h : lv_has ls' nL ((i, v) :: (xlv 0 lo).filter (fun q => !(q.1 == i) && !(q.1 + 1 == i && q.2.category == 2)))) : x_has ls' nL (xs1 i v lo) := by
  refine lv_x_has h fun j w hj => ?_
  by_cases hji : j = i
  · subst hji
    simp only [xs1, List.getElem?_set_self', Option.map_eq_map, Option.map_eq_some_iff] at hj
    obtain ⟨_, _, hj⟩ := hj
    cases hj
    exact List.mem_cons_self
  · rw [xs1, List.getElem?_set_ne (Ne.symm hji)] at hj
    obtain ⟨h1, h2⟩ := xkp_at hj
    refine List.mem_cons_of_mem _ (List.mem_filter.mpr ⟨(xlv_mem lo 0 j w).mpr ⟨Nat.zero_le _, h1⟩, ?_⟩)
    simp only [Bool.and_eq_true, Bool.not_eq_true', beq_eq_false_iff_ne, ne_eq, Bool.and_eq_false_iff]
    refine ⟨hji, ?_⟩
    by_cases z : j + 1 = i
    · exact Or.inr (fun q => h2 ⟨z, q⟩)
    · exact Or.inl z
theorem x_has_s2 {ls' : Array Slot} {nL i : Nat} {lo : xLoc} {v : Value} (h : lv_has ls' nL ((i, v) :: (xlv 0 lo).filter (fun q => !(q.1 == i) && (!(q.1 == i + 1) && !(q.1 + 1 == i && q.2.category == 2))))) : x_has ls' nL (xs2 i v lo) := by
  refine lv_x_has h fun j w hj => ?_
  by_cases hj1 : j = i + 1
  · subst hj1
    simp only [xs2, List.getElem?_set_self', Option.map_eq_map, Option.map_eq_some_iff] at hj
    obtain ⟨_, _, hj⟩ := hj
    cases hj
  · rw [xs2, List.getElem?_set_ne (Ne.symm hj1)] at hj
    by_cases hji : j = i
    · subst hji
      simp only [List.getElem?_set_self', Option.map_eq_map, Option.map_eq_some_iff] at hj
      obtain ⟨_, _, hj⟩ := hj
      cases hj
      exact List.mem_cons_self
    · rw [List.getElem?_set_ne (Ne.symm hji)] at hj
      obtain ⟨h1, h2⟩ := xkp_at hj
      refine List.mem_cons_of_mem _ (List.mem_filter.mpr ⟨(xlv_mem lo 0 j w).mpr ⟨Nat.zero_le _, h1⟩, ?_⟩)
      simp only [Bool.and_eq_true, Bool.not_eq_true', beq_eq_false_iff_ne, ne_eq, Bool.and_eq_false_iff]
      refine ⟨hji, hj1, ?_⟩
      by_cases z : j + 1 = i
      · exact Or.inr (fun q => h2 ⟨z, q⟩)
      · exact Or.inl z
/-- the locals with which a method begins -/
def xent : List Value → xLoc
  | [] => []
  | v :: vs => if v.category = 2 then some v :: none :: xent vs else some v :: xent vs
theorem xent_at : ∀ (vs : List Value) (n i : Nat) (v : Value), (xent vs)[i]? = some (some v) → (n + i, v) ∈ lv_args n vs := by
  intro vs
  induction vs with
  | nil => intro n i v h; simp [xent] at h
  | cons w vs ih =>
    intro n i v h
    rw [xent] at h
    rw [lv_args]
    by_cases hc : w.category = 2
    · rw [if_pos hc] at h
      rw [if_pos hc]
      cases i with
      | zero => simp at h; subst h; exact List.mem_cons_self
      | succ i =>
        cases i with
        | zero => simp at h
        | succ i =>
          rw [List.getElem?_cons_succ, List.getElem?_cons_succ] at h
          have := ih (n + 2) i v h
          rw [show n + 2 + i = n + (i + 1 + 1) by omega] at this
          exact List.mem_cons_of_mem _ this
    · rw [if_neg hc] at h
      rw [if_neg hc]
      cases i with
      | zero => simp at h; subst h; exact List.mem_cons_self
      | succ i =>
        rw [List.getElem?_cons_succ] at h
        have := ih (n + 1) i v h
        rw [show n + 1 + i = n + (i + 1) by omega] at this
        exact List.mem_cons_of_mem _ this
/-- what may stand at the start: what is there of the arguments, the rest unknown -/
def xbeg (n : Nat) (vs : List Value) : xLoc := xent vs ++ List.replicate (n - (xent vs).length) none
theorem xbeg_has {vs : List Value} {n : Nat} (h : (lg_sl vs).length ≤ n) : x_has ((lg_sl vs ++ List.replicate (n - (lg_sl vs).length) Slot.unset).toArray) n (xbeg n vs) := by
  refine lv_x_has (lv_entry vs h) fun i v hi => ?_
  rw [xbeg] at hi
  by_cases hl : i < (xent vs).length
  · rw [List.getElem?_append_left hl] at hi
    have := xent_at vs 0 i v hi
    rwa [Nat.zero_add] at this
  · rw [List.getElem?_append_right (by omega)] at hi
    have := List.mem_of_getElem? hi
    rw [List.mem_replicate] at this
    cases this.2
/-! instructions that change the stack alone -/
def xst : Instr → List Value → Option (Nat × List Value)
  | .iadd, .int y :: .int x :: r => some (1, .int (x + y) :: r)
  | .isub, .int y :: .int x :: r => some (1, .int (x - y) :: r)
  | .imul, .int y :: .int x :: r => some (1, .int (x * y) :: r)
  | .iand, .int y :: .int x :: r => some (1, .int (x &&& y) :: r)
  | .ior, .int y :: .int x :: r => some (1, .int (x ||| y) :: r)
  | .ixor, .int y :: .int x :: r => some (1, .int (x ^^^ y) :: r)
  | .ineg, .int x :: r => some (1, .int (-x) :: r)
  | .ishl, .int y :: .int x :: r => some (1, .int (x <<< (y &&& 31)) :: r)
  | .ishr, .int y :: .int x :: r => some (1, .int (x >>> (y &&& 31)) :: r)
  | .iushr, .int y :: .int x :: r => some (1, .int ((x.toUInt32 >>> (y.toUInt32 &&& Int32.toUInt32 31)).toInt32) :: r)
  | .ladd, .long y :: .long x :: r => some (1, .long (x + y) :: r)
  | .lmul, .long y :: .long x :: r => some (1, .long (x * y) :: r)
  | .land, .long y :: .long x :: r => some (1, .long (x &&& y) :: r)
  | .lor, .long y :: .long x :: r => some (1, .long (x ||| y) :: r)
  | .lshl, .int y :: .long x :: r => some (1, .long (x <<< (y.toInt64 &&& 63)) :: r)
  | .lcmp, .long y :: .long x :: r => some (1, .int (lg_cmp x y) :: r)
  | .i2l, .int x :: r => some (1, .long x.toInt64 :: r)
  | .l2i, .long x :: r => some (1, .int x.toInt32 :: r)
  | .i2b, .int x :: r => some (1, .int x.toInt8.toInt32 :: r)
  | .i2s, .int x :: r => some (1, .int x.toInt16.toInt32 :: r)
  | .i2c, .int x :: r => some (1, .int (x.toUInt32 % 65536).toInt32 :: r)
  | .dup, .int x :: r => some (1, .int x :: .int x :: r)
  | .dup, .ref x :: r => some (1, .ref x :: .ref x :: r)
  | .pop, .int x :: r => some (1, r)
  | .pop, .ref x :: r => some (1, r)
  | .dup_x1, .int x :: .ref y :: r => some (1, .int x :: .ref y :: .int x :: r)
  | .dup2, .int y :: .ref x :: r => some (1, .int y :: .ref x :: .int y :: .ref x :: r)
  | .lconst n, r => some (1, .long (Int64.ofNat (n : Nat)) :: r)
  | .iconst n, r => some (1, .int (Int32.ofInt n) :: r)
  | .bipush n, r => some (2, .int (Int8.ofInt n).toInt32 :: r)
  | .sipush n, r => some (3, .int (Int16.ofInt n).toInt32 :: r)
  | _, _ => none
theorem xst_W {p : Program} {l : Launch} {e : Env} {R : Room} {s : State} {m : MethodId} {args : Array Value} {below : List Frame} {meth : Method} {c : Code} {H : Heap} {locs : List Loc} {cells slots : Nat} {Qm : State → Prop} {cc : ByteArray} {pc : Nat} {ls : Array Slot} (hx : p.tables.exec = Jvm.exec) (hb : c.code = cc) (i : Instr) (st : List Value) (n : Nat) (st' : List Value) (h : xst i st = some (n, st')) (hdg : decode cc pc = .ok (i, n)) (k : W p l e R s m args below meth c H locs cells slots Qm (F0 m (pc + n) ls st')) : W p l e R s m args below meth c H locs cells slots Qm (F0 m pc ls st) := by
  unfold xst at h
  split at h
  · cases h; exact lv_iadd hx hb hdg k
  · cases h; exact lv_isub hx hb hdg k
  · cases h; exact lv_imul hx hb hdg k
  · cases h; exact lv_iand hx hb hdg k
  · cases h; exact lv_ior hx hb hdg k
  · cases h; exact lv_ixor hx hb hdg k
  · cases h; exact lv_ineg hx hb hdg k
  · cases h; exact lv_ishl hx hb hdg k
  · cases h; exact lv_ishr hx hb hdg k
  · cases h; exact lv_iushr hx hb hdg rfl k
  · cases h; exact lv_ladd hx hb hdg k
  · cases h; exact lv_lmul hx hb hdg k
  · cases h; exact lv_land hx hb hdg k
  · cases h; exact lv_lor hx hb hdg k
  · cases h; exact lv_lshl hx hb hdg rfl k
  · cases h; exact W.lcmp hx hb hdg k
  · cases h; exact lv_i2l hx hb hdg rfl k
  · cases h; exact lv_l2i hx hb hdg rfl k
  · cases h; exact lv_i2b hx hb hdg rfl k
  · cases h; exact lv_i2s hx hb hdg rfl k
  · cases h; exact lv_i2c hx hb hdg rfl k
  · cases h; exact lv_dup hx hb hdg rfl k
  · cases h; exact lv_dup hx hb hdg rfl k
  · cases h; exact lv_pop hx hb hdg rfl k
  · cases h; exact lv_pop hx hb hdg rfl k
  · cases h; exact lv_dup_x1 hx hb hdg rfl rfl k
  · cases h; exact lv_dup2_11 hx hb hdg rfl rfl k
  · cases h; exact lv_lconst hx hb hdg rfl k
  · cases h; exact lv_iconst hx hb hdg rfl k
  · cases h; exact lv_bipush hx hb hdg rfl k
  · cases h; exact lv_sipush hx hb hdg rfl k
  · cases h
/-! the frame of a method: what is given of the machine -/
def xFr (cf : xCf) (D : va_G) (A : Nat → Prop) (M : xMI) (p : Program) (s : State) (m : MethodId) (args : Array Value) (meth : Method) (c : Code) : Prop :=
  p.tables.exec = Jvm.exec ∧ c.code = M.2.1 ∧ c.maxLocals = M.2.2.1 ∧ s.vm.findClass M.1.cls = some m.cls ∧ meth.name = M.1.name ∧ (∀ w ∈ cf.1, w.before args s = true) ∧ xSt cf D A s ∧ xOK cf
def xRm (R : Room) (d mc ms : Nat) : Prop := d ≤ R.frames ∧ 64 * d ≤ R.locals ∧ mc ≤ R.cells ∧ ms ≤ R.slots
def xW (cf : xCf) (D : va_G) (A : Nat → Prop) (M : xMI) (p : Program) (l : Launch) (e : Env) (R : Room) (s : State) (m : MethodId) (args : Array Value) (below : List Frame) (meth : Method) (c : Code) (Qm : State → Prop) : xP := fun pc lo st μ b =>
  ∀ (H : Heap) (locs : List Loc) (ls : Array Slot), xSim cf D A μ H → va_S A s.heap H locs → x_has ls M.2.2.1 lo → W p l e R s m args below meth c H locs b.1 b.2 Qm (F0 m pc ls st)

def xMp (cf : xCf) (own : String) (i : Nat) (y : MethodName) (bs : ByteArray) (n : Nat) : Prop := Cond.methodLink own i y ∈ cf.1 ∧ Cond.static y ∈ cf.1 ∧ Cond.initialized "java/lang/Math" ∈ cf.1 ∧ Cond.code y bs n (some .int) ∈ cf.1
def xFd (cf : xCf) (own : String) (i ci k : Nat) : Prop := ∃ q : vw_C, cf.2.2.1[ci]? = some q ∧ k < q.2.2 ∧ Cond.fieldLink own i (q.2.1 k).1 (q.2.1 k).2.1 (q.2.1 k).2.2.1 ∈ cf.1
def xFp (cf : xCf) (own : String) (i ci k : Nat) (ty : FieldType) : Prop := ∃ q : vw_C, cf.2.2.1[ci]? = some q ∧ k < q.2.2 ∧ Cond.fieldLink own i (q.2.1 k).1 (q.2.1 k).2.1 (q.2.1 k).2.2.1 ∈ cf.1 ∧ (q.2.1 k).2.2.2 = false ∧ parseFieldDescriptor (q.2.1 k).2.2.1 = some ty
def xFf (cf : xCf) (own : String) (i ci k : Nat) (ty : FieldType) : Prop := ∃ q : vw_C, cf.2.2.1[ci]? = some q ∧ k < q.2.2 ∧ Cond.fieldLink own i (q.2.1 k).1 (q.2.1 k).2.1 (q.2.1 k).2.2.1 ∈ cf.1 ∧ (q.2.1 k).2.2.2 = true ∧ (q.2.1 k).1 = own ∧ parseFieldDescriptor (q.2.1 k).2.2.1 = some ty
def xCp (cf : xCf) (own : String) (i : Nat) : Prop := Cond.methodLink own i arraycopyName ∈ cf.1 ∧ Cond.native arraycopyName ∈ cf.1 ∧ Cond.static arraycopyName ∈ cf.1 ∧ Cond.initialized "java/lang/System" ∈ cf.1
/-- a copy out of a table that is only read -/
theorem x_copyr {p : Program} {l : Launch} {e : Env} {R : Room} {s : State} {m : MethodId} {args : Array Value} {below : List Frame} {meth : Method} {c : Code} {H : Heap} {locs : List Loc} {cells slots : Nat} {Q : State → Prop} {cc : ByteArray} {pc : Nat} {ls : Array Slot} {rest : List Value} {D : va_G} {cl : List vw_C} {A : Nat → Prop} {a : Nat} {tys : List (ClassId × FieldType)} {ws : va_W}
    (hx : p.tables.exec = Jvm.exec) (hb : c.code = cc) (hml : c.maxLocals = ls.size) {own : String} {i : Nat} (hown : s.vm.findClass own = some m.cls) (w1 : (Cond.methodLink own i arraycopyName).before args s = true) (w2 : (Cond.native arraycopyName).before args s = true) (w3 : (Cond.static arraycopyName).before args s = true) (w4 : (Cond.initialized "java/lang/System").before args s = true)
    (hK : va_K D cl tys s) (hP : va_P D cl ws H) (hD : va_D A ws) (hS : va_S A s.heap H locs) {b0 n0 : Nat} {f : Nat → Int32} (hX : va_T .int b0 n0 (fun j => .int (f j)) A s s.heap) (q1 t1 : Nat) {c1 : ClassId} {n1 : Nat} {g : Nat → Int32} (ha1 : ws[q1]? = some (a, .inl (c1, n1, .inl g))) (ht1 : tys[t1]? = some (c1, .int))
    {sp dp n : Int32} (h1 : ¬ sp < 0) (h2 : ¬ dp < 0) (h3 : ¬ n < 0) (h4 : sp.toNatClampNeg + n.toNatClampNeg ≤ n0) (h5 : dp.toNatClampNeg + n.toNatClampNeg ≤ n1)
    (hf : 1 ≤ R.frames) (hloc : (rest.map fun v => v.category).sum + (nativeFrameWords "java/lang/System" "arraycopy" 5 + 11) ≤ R.locals) (hdg : decode cc pc = .ok (.invokestatic i, 3))
    (kk : ∀ (H1 : Heap) (locs1 : List Loc), va_P D cl (ws.set q1 (a, .inl (c1, n1, .inl (va_cpy f g sp.toNatClampNeg dp.toNatClampNeg n.toNatClampNeg)))) H1 → va_D A (ws.set q1 (a, .inl (c1, n1, .inl (va_cpy f g sp.toNatClampNeg dp.toNatClampNeg n.toNatClampNeg)))) → va_S A s.heap H1 locs1 → W p l e R s m args below meth c H1 locs1 cells slots Q (F0 m (pc + 3) ls rest)) : W p l e R s m args below meth c H locs cells slots Q (F0 m pc ls (.int n :: .int dp :: .ref a :: .int sp :: .ref b0 :: rest)) := by
  have pos : ∀ z : Int32, ¬ z < 0 → z.toInt = (z.toNatClampNeg : Int) := by
    intro z hz
    have z0 : (0 : Int) ≤ z.toInt := by simpa using Int32.le_iff_toInt_le.mp (Int32.not_lt.mp hz)
    show z.toInt = ((z.toInt.toNat : Nat) : Int)
    omega
  intro T hT X
  obtain ⟨scr, s1, s2, s3, s4, -, s5, s7⟩ := hX.kept hS.2.1
  have d1 : H[a]? = some (vp_cell c1 (n1, .inl g)) := hP q1 _ ha1
  obtain ⟨s6, k0, hk0, cm0, hkk0⟩ := s2
  obtain ⟨-, k1, hk1, cm1, hkk1⟩ := (hK.2 t1 _ ht1).1 n1 (fun j => .int (g j))
  have el : ∀ j, j < n.toNatClampNeg → scr.slots.getD (sp.toNatClampNeg + j) .null = .int (f (sp.toNatClampNeg + j)) := fun j hj => by
    rw [Array.getD_eq_getD_getElem?, s5 _ (by omega)]
    rfl
  obtain ⟨vm', X', step⟩ := X.arraycopy hx hown w1 w2 w3 w4 (src := b0) (dst := a) (cs := scr) (cd := vp_cell c1 (n1, .inl g)) (srcPos := sp) (destPos := dp) (n := n) (by rw [hT]; exact s1) (by rw [hT]; exact d1)
    s6 (fun _ h => by cases h) s3 (fun h => by cases h) hk0 hk1 hkk0 hkk1 (by simp [refKind]) h1 h2 h3
    (by rw [pos sp h1, pos n h3]; omega)
    (by rw [pos dp h2, pos n h3]; show ¬ _ > ((arrV c1 n1 (fun j => .int (g j))).slots.size : Int); rw [arrV_size]; omega)
    (fun vm₁ _ j hj => ⟨by rw [el j hj]; rfl, by rw [el j hj]; exact trivial⟩)
    (g := F0 m pc ls (.int n :: .int dp :: .ref a :: .int sp :: .ref b0 :: rest)) rfl (by rw [hml]) (rest := rest) rfl (by rw [hb]; exact hdg) hf (by show 2 * 0 + _ + _ ≤ _; omega)
  have e1 : copied scr (vp_cell c1 (n1, .inl g)) sp dp n = vp_cell c1 (n1, .inl (va_cpy f g sp.toNatClampNeg dp.toNatClampNeg n.toNatClampNeg)) := va_copiedX (fun z => .int z) scr c1 f g s5 h4
  rw [e1] at X' step
  have hl : a < H.size := (Array.getElem?_eq_some_iff.mp d1).1
  have hheap : ((T.setVm vm').setCell a (vp_cell c1 (n1, .inl (va_cpy f g sp.toNatClampNeg dp.toNatClampNeg n.toNatClampNeg)))).heap = H.setIfInBounds a (vp_cell c1 (n1, .inl (va_cpy f g sp.toNatClampNeg dp.toNatClampNeg n.toNatClampNeg))) := by rw [← hT]; rfl
  have oq : ∀ q : Nat, q ≠ a → (H.setIfInBounds a (vp_cell c1 (n1, .inl (va_cpy f g sp.toNatClampNeg dp.toNatClampNeg n.toNatClampNeg))))[q]? = H[q]? := fun q hq => by simp [Array.getElem?_setIfInBounds, Ne.symm hq]
  obtain ⟨t, a1, b1⟩ := kk _ _ (hP.set hD ha1 (show (H.setIfInBounds a _)[a]? = some _ by simp [Array.getElem?_setIfInBounds, hl]) oq) (hD.set ha1) ⟨by simp; exact hS.1, fun q g1 g2 => by
      rw [oq q (fun e => g2 (by rw [e]; exact hD.2 q1 _ ha1))]
      exact hS.2.1 q g1 g2, fun q hq => by
      rcases List.mem_append.mp hq with h | h
      · exact hS.2.2 q h
      · obtain ⟨z, -, hz⟩ := List.mem_map.mp h
        rw [← hz]
        exact hD.2 q1 _ ha1⟩ _ hheap X'
  exact ⟨t, step t a1, b1⟩

def xR_stk (cf : xCf) (M : xMI) (mc ms : Nat) (P : xP) : Prop := ∀ (pc : Nat) (lo : xLoc) (st st2 : List Value) (μ : xMem) (b : Nat × Nat) (i : Instr) (n : Nat), decode M.2.1 pc = .ok (i, n) → xst i st = some (n, st2) → P (pc + n) lo st2 μ b → P pc lo st μ b
def xR_div (cf : xCf) (M : xMI) (mc ms : Nat) (P : xP) : Prop := ∀ (pc : Nat) (lo : xLoc) (x y : Int32) (st : List Value) (μ : xMem) (b : Nat × Nat), decode M.2.1 pc = .ok (.idiv, 1) → ¬ y = 0 → P (pc + 1) lo (.int (x / y) :: st) μ b → P pc lo (.int y :: .int x :: st) μ b
def xR_rem (cf : xCf) (M : xMI) (mc ms : Nat) (P : xP) : Prop := ∀ (pc : Nat) (lo : xLoc) (x y : Int32) (st : List Value) (μ : xMem) (b : Nat × Nat), decode M.2.1 pc = .ok (.irem, 1) → ¬ y = 0 → P (pc + 1) lo (.int (x - x / y * y) :: st) μ b → P pc lo (.int y :: .int x :: st) μ b
def xR_ldiv (cf : xCf) (M : xMI) (mc ms : Nat) (P : xP) : Prop := ∀ (pc : Nat) (lo : xLoc) (x y : Int64) (st : List Value) (μ : xMem) (b : Nat × Nat), decode M.2.1 pc = .ok (.ldiv, 1) → ¬ y = 0 → P (pc + 1) lo (.long (x / y) :: st) μ b → P pc lo (.long y :: .long x :: st) μ b
def xR_ldc (cf : xCf) (M : xMI) (mc ms : Nat) (P : xP) : Prop := ∀ (pc : Nat) (lo : xLoc) (st : List Value) (μ : xMem) (b : Nat × Nat) (i : Nat) (v : Int32), decode M.2.1 pc = .ok (.ldc i, 2) → Cond.constant M.1.cls i v ∈ cf.1 → P (pc + 2) lo (.int v :: st) μ b → P pc lo st μ b
def xR_ldcw (cf : xCf) (M : xMI) (mc ms : Nat) (P : xP) : Prop := ∀ (pc : Nat) (lo : xLoc) (st : List Value) (μ : xMem) (b : Nat × Nat) (i : Nat) (v : Int32), decode M.2.1 pc = .ok (.ldc_w i, 3) → Cond.constant M.1.cls i v ∈ cf.1 → P (pc + 3) lo (.int v :: st) μ b → P pc lo st μ b
def xR_ldc2 (cf : xCf) (M : xMI) (mc ms : Nat) (P : xP) : Prop := ∀ (pc : Nat) (lo : xLoc) (st : List Value) (μ : xMem) (b : Nat × Nat) (i : Nat) (v : Int64), decode M.2.1 pc = .ok (.ldc2_w i, 3) → Cond.constantLong M.1.cls i v ∈ cf.1 → P (pc + 3) lo (.long v :: st) μ b → P pc lo st μ b
def xR_ldcs (cf : xCf) (M : xMI) (mc ms : Nat) (P : xP) : Prop := ∀ (pc : Nat) (lo : xLoc) (st : List Value) (μ : xMem) (b : Nat × Nat) (i : Nat) (tx : String) (a : Nat), decode M.2.1 pc = .ok (.ldc i, 2) → (M.1.cls, i, tx, a) ∈ cf.2.2.2.2.2.2.2.2 → P (pc + 2) lo (.ref a :: st) μ b → P pc lo st μ b
def xR_iloadN (cf : xCf) (M : xMI) (mc ms : Nat) (P : xP) : Prop := ∀ (pc : Nat) (lo : xLoc) (st : List Value) (μ : xMem) (b : Nat × Nat) (i : Fin 4) (x : Int32), decode M.2.1 pc = .ok (.iload_n i, 1) → lo[(i : Nat)]? = some (some (.int x)) → P (pc + 1) lo (.int x :: st) μ b → P pc lo st μ b
def xR_iload (cf : xCf) (M : xMI) (mc ms : Nat) (P : xP) : Prop := ∀ (pc : Nat) (lo : xLoc) (st : List Value) (μ : xMem) (b : Nat × Nat) (i : Nat) (x : Int32), decode M.2.1 pc = .ok (.iload i, 2) → lo[i]? = some (some (.int x)) → P (pc + 2) lo (.int x :: st) μ b → P pc lo st μ b
def xR_lloadN (cf : xCf) (M : xMI) (mc ms : Nat) (P : xP) : Prop := ∀ (pc : Nat) (lo : xLoc) (st : List Value) (μ : xMem) (b : Nat × Nat) (i : Fin 4) (x : Int64), decode M.2.1 pc = .ok (.lload_n i, 1) → lo[(i : Nat)]? = some (some (.long x)) → P (pc + 1) lo (.long x :: st) μ b → P pc lo st μ b
def xR_lload (cf : xCf) (M : xMI) (mc ms : Nat) (P : xP) : Prop := ∀ (pc : Nat) (lo : xLoc) (st : List Value) (μ : xMem) (b : Nat × Nat) (i : Nat) (x : Int64), decode M.2.1 pc = .ok (.lload i, 2) → lo[i]? = some (some (.long x)) → P (pc + 2) lo (.long x :: st) μ b → P pc lo st μ b
def xR_aloadN (cf : xCf) (M : xMI) (mc ms : Nat) (P : xP) : Prop := ∀ (pc : Nat) (lo : xLoc) (st : List Value) (μ : xMem) (b : Nat × Nat) (i : Fin 4) (x : Nat), decode M.2.1 pc = .ok (.aload_n i, 1) → lo[(i : Nat)]? = some (some (.ref x)) → P (pc + 1) lo (.ref x :: st) μ b → P pc lo st μ b
def xR_aload (cf : xCf) (M : xMI) (mc ms : Nat) (P : xP) : Prop := ∀ (pc : Nat) (lo : xLoc) (st : List Value) (μ : xMem) (b : Nat × Nat) (i : Nat) (x : Nat), decode M.2.1 pc = .ok (.aload i, 2) → lo[i]? = some (some (.ref x)) → P (pc + 2) lo (.ref x :: st) μ b → P pc lo st μ b
def xR_istoreN (cf : xCf) (M : xMI) (mc ms : Nat) (P : xP) : Prop := ∀ (pc : Nat) (lo : xLoc) (st : List Value) (μ : xMem) (b : Nat × Nat) (i : Fin 4) (x : Int32), decode M.2.1 pc = .ok (.istore_n i, 1) → (i : Nat) < M.2.2.1 → P (pc + 1) (xs1 (i : Nat) (.int x) lo) st μ b → P pc lo (.int x :: st) μ b
def xR_istore (cf : xCf) (M : xMI) (mc ms : Nat) (P : xP) : Prop := ∀ (pc : Nat) (lo : xLoc) (st : List Value) (μ : xMem) (b : Nat × Nat) (i : Nat) (x : Int32), decode M.2.1 pc = .ok (.istore i, 2) → i < M.2.2.1 → P (pc + 2) (xs1 i (.int x) lo) st μ b → P pc lo (.int x :: st) μ b
def xR_astoreN (cf : xCf) (M : xMI) (mc ms : Nat) (P : xP) : Prop := ∀ (pc : Nat) (lo : xLoc) (st : List Value) (μ : xMem) (b : Nat × Nat) (i : Fin 4) (x : Nat), decode M.2.1 pc = .ok (.astore_n i, 1) → (i : Nat) < M.2.2.1 → P (pc + 1) (xs1 (i : Nat) (.ref x) lo) st μ b → P pc lo (.ref x :: st) μ b
def xR_astore (cf : xCf) (M : xMI) (mc ms : Nat) (P : xP) : Prop := ∀ (pc : Nat) (lo : xLoc) (st : List Value) (μ : xMem) (b : Nat × Nat) (i : Nat) (x : Nat), decode M.2.1 pc = .ok (.astore i, 2) → i < M.2.2.1 → P (pc + 2) (xs1 i (.ref x) lo) st μ b → P pc lo (.ref x :: st) μ b
def xR_lstoreN (cf : xCf) (M : xMI) (mc ms : Nat) (P : xP) : Prop := ∀ (pc : Nat) (lo : xLoc) (st : List Value) (μ : xMem) (b : Nat × Nat) (i : Fin 4) (x : Int64), decode M.2.1 pc = .ok (.lstore_n i, 1) → (i : Nat) + 1 < M.2.2.1 → P (pc + 1) (xs2 (i : Nat) (.long x) lo) st μ b → P pc lo (.long x :: st) μ b
def xR_lstore (cf : xCf) (M : xMI) (mc ms : Nat) (P : xP) : Prop := ∀ (pc : Nat) (lo : xLoc) (st : List Value) (μ : xMem) (b : Nat × Nat) (i : Nat) (x : Int64), decode M.2.1 pc = .ok (.lstore i, 2) → i + 1 < M.2.2.1 → P (pc + 2) (xs2 i (.long x) lo) st μ b → P pc lo (.long x :: st) μ b
def xR_iinc (cf : xCf) (M : xMI) (mc ms : Nat) (P : xP) : Prop := ∀ (pc : Nat) (lo : xLoc) (st : List Value) (μ : xMem) (b : Nat × Nat) (i : Nat) (n : Int) (x : Int32), decode M.2.1 pc = .ok (.iinc i n, 3) → lo[i]? = some (some (.int x)) → i < M.2.2.1 → P (pc + 3) (xs1 i (.int (x + Int32.ofInt n)) lo) st μ b → P pc lo st μ b
def xR_ifeq (cf : xCf) (M : xMI) (mc ms : Nat) (P : xP) : Prop := ∀ (pc : Nat) (lo : xLoc) (st : List Value) (μ : xMem) (b : Nat × Nat) (x : Int32) (off : Int) (tgt : Nat), decode M.2.1 pc = .ok (.ifCond .eq off, 3) → (pc : Int) + off = (tgt : Int) → (x = 0 → P tgt lo st μ b) → (¬ x = 0 → P (pc + 3) lo st μ b) → P pc lo (.int x :: st) μ b
def xR_iceq (cf : xCf) (M : xMI) (mc ms : Nat) (P : xP) : Prop := ∀ (pc : Nat) (lo : xLoc) (st : List Value) (μ : xMem) (b : Nat × Nat) (x y : Int32) (off : Int) (tgt : Nat), decode M.2.1 pc = .ok (.if_icmp .eq off, 3) → (pc : Int) + off = (tgt : Int) → (x = y → P tgt lo st μ b) → (¬ x = y → P (pc + 3) lo st μ b) → P pc lo (.int y :: .int x :: st) μ b
def xR_ifne (cf : xCf) (M : xMI) (mc ms : Nat) (P : xP) : Prop := ∀ (pc : Nat) (lo : xLoc) (st : List Value) (μ : xMem) (b : Nat × Nat) (x : Int32) (off : Int) (tgt : Nat), decode M.2.1 pc = .ok (.ifCond .ne off, 3) → (pc : Int) + off = (tgt : Int) → (¬ x = 0 → P tgt lo st μ b) → (x = 0 → P (pc + 3) lo st μ b) → P pc lo (.int x :: st) μ b
def xR_icne (cf : xCf) (M : xMI) (mc ms : Nat) (P : xP) : Prop := ∀ (pc : Nat) (lo : xLoc) (st : List Value) (μ : xMem) (b : Nat × Nat) (x y : Int32) (off : Int) (tgt : Nat), decode M.2.1 pc = .ok (.if_icmp .ne off, 3) → (pc : Int) + off = (tgt : Int) → (¬ x = y → P tgt lo st μ b) → (x = y → P (pc + 3) lo st μ b) → P pc lo (.int y :: .int x :: st) μ b
def xR_iflt (cf : xCf) (M : xMI) (mc ms : Nat) (P : xP) : Prop := ∀ (pc : Nat) (lo : xLoc) (st : List Value) (μ : xMem) (b : Nat × Nat) (x : Int32) (off : Int) (tgt : Nat), decode M.2.1 pc = .ok (.ifCond .lt off, 3) → (pc : Int) + off = (tgt : Int) → (x < 0 → P tgt lo st μ b) → (¬ x < 0 → P (pc + 3) lo st μ b) → P pc lo (.int x :: st) μ b
def xR_iclt (cf : xCf) (M : xMI) (mc ms : Nat) (P : xP) : Prop := ∀ (pc : Nat) (lo : xLoc) (st : List Value) (μ : xMem) (b : Nat × Nat) (x y : Int32) (off : Int) (tgt : Nat), decode M.2.1 pc = .ok (.if_icmp .lt off, 3) → (pc : Int) + off = (tgt : Int) → (x < y → P tgt lo st μ b) → (¬ x < y → P (pc + 3) lo st μ b) → P pc lo (.int y :: .int x :: st) μ b
def xR_ifge (cf : xCf) (M : xMI) (mc ms : Nat) (P : xP) : Prop := ∀ (pc : Nat) (lo : xLoc) (st : List Value) (μ : xMem) (b : Nat × Nat) (x : Int32) (off : Int) (tgt : Nat), decode M.2.1 pc = .ok (.ifCond .ge off, 3) → (pc : Int) + off = (tgt : Int) → (0 ≤ x → P tgt lo st μ b) → (¬ 0 ≤ x → P (pc + 3) lo st μ b) → P pc lo (.int x :: st) μ b
def xR_icge (cf : xCf) (M : xMI) (mc ms : Nat) (P : xP) : Prop := ∀ (pc : Nat) (lo : xLoc) (st : List Value) (μ : xMem) (b : Nat × Nat) (x y : Int32) (off : Int) (tgt : Nat), decode M.2.1 pc = .ok (.if_icmp .ge off, 3) → (pc : Int) + off = (tgt : Int) → (y ≤ x → P tgt lo st μ b) → (¬ y ≤ x → P (pc + 3) lo st μ b) → P pc lo (.int y :: .int x :: st) μ b
def xR_ifgt (cf : xCf) (M : xMI) (mc ms : Nat) (P : xP) : Prop := ∀ (pc : Nat) (lo : xLoc) (st : List Value) (μ : xMem) (b : Nat × Nat) (x : Int32) (off : Int) (tgt : Nat), decode M.2.1 pc = .ok (.ifCond .gt off, 3) → (pc : Int) + off = (tgt : Int) → (0 < x → P tgt lo st μ b) → (¬ 0 < x → P (pc + 3) lo st μ b) → P pc lo (.int x :: st) μ b
def xR_icgt (cf : xCf) (M : xMI) (mc ms : Nat) (P : xP) : Prop := ∀ (pc : Nat) (lo : xLoc) (st : List Value) (μ : xMem) (b : Nat × Nat) (x y : Int32) (off : Int) (tgt : Nat), decode M.2.1 pc = .ok (.if_icmp .gt off, 3) → (pc : Int) + off = (tgt : Int) → (y < x → P tgt lo st μ b) → (¬ y < x → P (pc + 3) lo st μ b) → P pc lo (.int y :: .int x :: st) μ b
def xR_ifle (cf : xCf) (M : xMI) (mc ms : Nat) (P : xP) : Prop := ∀ (pc : Nat) (lo : xLoc) (st : List Value) (μ : xMem) (b : Nat × Nat) (x : Int32) (off : Int) (tgt : Nat), decode M.2.1 pc = .ok (.ifCond .le off, 3) → (pc : Int) + off = (tgt : Int) → (x ≤ 0 → P tgt lo st μ b) → (¬ x ≤ 0 → P (pc + 3) lo st μ b) → P pc lo (.int x :: st) μ b
def xR_icle (cf : xCf) (M : xMI) (mc ms : Nat) (P : xP) : Prop := ∀ (pc : Nat) (lo : xLoc) (st : List Value) (μ : xMem) (b : Nat × Nat) (x y : Int32) (off : Int) (tgt : Nat), decode M.2.1 pc = .ok (.if_icmp .le off, 3) → (pc : Int) + off = (tgt : Int) → (x ≤ y → P tgt lo st μ b) → (¬ x ≤ y → P (pc + 3) lo st μ b) → P pc lo (.int y :: .int x :: st) μ b
def xR_goto (cf : xCf) (M : xMI) (mc ms : Nat) (P : xP) : Prop := ∀ (pc : Nat) (lo : xLoc) (st : List Value) (μ : xMem) (b : Nat × Nat) (off : Int) (tgt : Nat), decode M.2.1 pc = .ok (.goto off, 3) → (pc : Int) + off = (tgt : Int) → P tgt lo st μ b → P pc lo st μ b
def xR_tin (cf : xCf) (M : xMI) (mc ms : Nat) (P : xP) : Prop := ∀ (pc : Nat) (lo : xLoc) (st : List Value) (μ : xMem) (b : Nat × Nat) (x : Int32) (dflt lo0 hi0 : Int) (offs : Array Int) (n : Nat) (off : Int) (tgt : Nat), decode M.2.1 pc = .ok (.tableswitch dflt lo0 hi0 offs, n) → ¬ x.toInt < lo0 → ¬ hi0 < x.toInt → offs[(x.toInt - lo0).toNat]? = some off → (pc : Int) + off = (tgt : Int) → P tgt lo st μ b → P pc lo (.int x :: st) μ b
def xR_tout (cf : xCf) (M : xMI) (mc ms : Nat) (P : xP) : Prop := ∀ (pc : Nat) (lo : xLoc) (st : List Value) (μ : xMem) (b : Nat × Nat) (x : Int32) (dflt lo0 hi0 : Int) (offs : Array Int) (n : Nat) (tgt : Nat), decode M.2.1 pc = .ok (.tableswitch dflt lo0 hi0 offs, n) → (x.toInt < lo0 ∨ hi0 < x.toInt) → (pc : Int) + dflt = (tgt : Int) → P tgt lo st μ b → P pc lo (.int x :: st) μ b
def xR_look (cf : xCf) (M : xMI) (mc ms : Nat) (P : xP) : Prop := ∀ (pc : Nat) (lo : xLoc) (st : List Value) (μ : xMem) (b : Nat × Nat) (x : Int32) (dflt : Int) (ps : Array (Int × Int)) (n : Nat) (off : Int) (tgt : Nat), decode M.2.1 pc = .ok (.lookupswitch dflt ps, n) → (ps.toList.zip (ps.toList.drop 1)).all (fun (a, next) => a.1 < next.1) = true → Op.lookupswitch.offset ps.toList dflt x.toInt = off → (pc : Int) + off = (tgt : Int) → P tgt lo st μ b → P pc lo (.int x :: st) μ b
def xR_getf (cf : xCf) (M : xMI) (mc ms : Nat) (P : xP) : Prop := ∀ (pc : Nat) (lo : xLoc) (st : List Value) (μ : xMem) (b : Nat × Nat) (i ci j a : Nat) (fs : List Value) (v : Value), decode M.2.1 pc = .ok (.getfield i, 3) → xFd cf M.1.cls i ci j → μ a = some (.inr (ci, fs)) → fs[j]? = some v → P (pc + 3) lo (v :: st) μ b → P pc lo (.ref a :: st) μ b
def xR_getr (cf : xCf) (M : xMI) (mc ms : Nat) (P : xP) : Prop := ∀ (pc : Nat) (lo : xLoc) (st : List Value) (μ : xMem) (b : Nat × Nat) (i a : Nat) (o n d : String) (v : Value), decode M.2.1 pc = .ok (.getfield i, 3) → Cond.fieldLink M.1.cls i o n d ∈ cf.1 → (a, o, n, d, v) ∈ cf.2.2.2.2.2.2.1 → P (pc + 3) lo (v :: st) μ b → P pc lo (.ref a :: st) μ b
def xR_putf (cf : xCf) (M : xMI) (mc ms : Nat) (P : xP) : Prop := ∀ (pc : Nat) (lo : xLoc) (st : List Value) (μ : xMem) (b : Nat × Nat) (i ci j a : Nat) (ty : FieldType) (fs : List Value) (v : Value), decode M.2.1 pc = .ok (.putfield i, 3) → xFp cf M.1.cls i ci j ty → narrow ty v = v → fits ty v = true → μ a = some (.inr (ci, fs)) → j < fs.length → P (pc + 3) lo st (xup μ a (.inr (ci, fs.set j v))) b → P pc lo (v :: .ref a :: st) μ b
def xR_putF (cf : xCf) (M : xMI) (mc ms : Nat) (P : xP) : Prop := ∀ (pc : Nat) (lo : xLoc) (st : List Value) (μ : xMem) (b : Nat × Nat) (i ci j a : Nat) (ty : FieldType) (fs : List Value) (v : Value), decode M.2.1 pc = .ok (.putfield i, 3) → xFf cf M.1.cls i ci j ty → M.1.name = "<init>" → narrow ty v = v → fits ty v = true → μ a = some (.inr (ci, fs)) → j < fs.length → P (pc + 3) lo st (xup μ a (.inr (ci, fs.set j v))) b → P pc lo (v :: .ref a :: st) μ b
def xR_iald (cf : xCf) (M : xMI) (mc ms : Nat) (P : xP) : Prop := ∀ (pc : Nat) (lo : xLoc) (st : List Value) (μ : xMem) (b : Nat × Nat) (t a n : Nat) (cA : ClassId) (f : Nat → Int32) (i : Int32), decode M.2.1 pc = .ok (.iaload, 1) → cf.2.2.2.1[t]? = some (cA, .int) → μ a = some (.inl (cA, n, .inl f)) → vp_in i n → P (pc + 1) lo (.int (f i.toNatClampNeg) :: st) μ b → P pc lo (.int i :: .ref a :: st) μ b
def xR_lald (cf : xCf) (M : xMI) (mc ms : Nat) (P : xP) : Prop := ∀ (pc : Nat) (lo : xLoc) (st : List Value) (μ : xMem) (b : Nat × Nat) (t a n : Nat) (cA : ClassId) (f : Nat → Int64) (i : Int32), decode M.2.1 pc = .ok (.laload, 1) → cf.2.2.2.1[t]? = some (cA, .long) → μ a = some (.inl (cA, n, .inr (.inl f))) → vp_in i n → P (pc + 1) lo (.long (f i.toNatClampNeg) :: st) μ b → P pc lo (.int i :: .ref a :: st) μ b
def xR_aald (cf : xCf) (M : xMI) (mc ms : Nat) (P : xP) : Prop := ∀ (pc : Nat) (lo : xLoc) (st : List Value) (μ : xMem) (b : Nat × Nat) (t a n : Nat) (cA : ClassId) (C : String) (f : Nat → Option Nat) (i : Int32), decode M.2.1 pc = .ok (.aaload, 1) → cf.2.2.2.1[t]? = some (cA, .object C) → μ a = some (.inl (cA, n, .inr (.inr (.inr (.inr f))))) → vp_in i n → P (pc + 1) lo (va_rf (f i.toNatClampNeg) :: st) μ b → P pc lo (.int i :: .ref a :: st) μ b
def xR_ialr (cf : xCf) (M : xMI) (mc ms : Nat) (P : xP) : Prop := ∀ (pc : Nat) (lo : xLoc) (st : List Value) (μ : xMem) (b : Nat × Nat) (a n : Nat) (f : Nat → Int32) (i : Int32), decode M.2.1 pc = .ok (.iaload, 1) → (a, .int, n, f) ∈ cf.2.2.2.2.1 → vp_in i n → P (pc + 1) lo (.int (f i.toNatClampNeg) :: st) μ b → P pc lo (.int i :: .ref a :: st) μ b
def xR_balr (cf : xCf) (M : xMI) (mc ms : Nat) (P : xP) : Prop := ∀ (pc : Nat) (lo : xLoc) (st : List Value) (μ : xMem) (b : Nat × Nat) (a n : Nat) (f : Nat → Int32) (i : Int32), decode M.2.1 pc = .ok (.baload, 1) → (a, .byte, n, f) ∈ cf.2.2.2.2.1 → vp_in i n → P (pc + 1) lo (.int (f i.toNatClampNeg) :: st) μ b → P pc lo (.int i :: .ref a :: st) μ b
def xR_iast (cf : xCf) (M : xMI) (mc ms : Nat) (P : xP) : Prop := ∀ (pc : Nat) (lo : xLoc) (st : List Value) (μ : xMem) (b : Nat × Nat) (t a n : Nat) (cA : ClassId) (f : Nat → Int32) (i x : Int32), decode M.2.1 pc = .ok (.iastore, 1) → cf.2.2.2.1[t]? = some (cA, .int) → μ a = some (.inl (cA, n, .inl f)) → vp_in i n → P (pc + 1) lo st (xup μ a (.inl (cA, n, .inl (upd f i.toNatClampNeg x)))) b → P pc lo (.int x :: .int i :: .ref a :: st) μ b
def xR_last (cf : xCf) (M : xMI) (mc ms : Nat) (P : xP) : Prop := ∀ (pc : Nat) (lo : xLoc) (st : List Value) (μ : xMem) (b : Nat × Nat) (t a n : Nat) (cA : ClassId) (f : Nat → Int64) (i : Int32) (x : Int64), decode M.2.1 pc = .ok (.lastore, 1) → cf.2.2.2.1[t]? = some (cA, .long) → μ a = some (.inl (cA, n, .inr (.inl f))) → vp_in i n → P (pc + 1) lo st (xup μ a (.inl (cA, n, .inr (.inl (vp_updL f i.toNatClampNeg x))))) b → P pc lo (.long x :: .int i :: .ref a :: st) μ b
def xR_aast (cf : xCf) (M : xMI) (mc ms : Nat) (P : xP) : Prop := ∀ (pc : Nat) (lo : xLoc) (st : List Value) (μ : xMem) (b : Nat × Nat) (t a n ci v : Nat) (cA : ClassId) (r : vw_C) (vs : List Value) (f : Nat → Option Nat) (i : Int32), decode M.2.1 pc = .ok (.aastore, 1) → cf.2.2.1[ci]? = some r → cf.2.2.2.1[t]? = some (cA, .object r.1) → μ a = some (.inl (cA, n, .inr (.inr (.inr (.inr f))))) → μ v = some (.inr (ci, vs)) → vp_in i n → P (pc + 1) lo st (xup μ a (.inl (cA, n, .inr (.inr (.inr (.inr (va_up f i.toNatClampNeg (some v)))))))) b → P pc lo (.ref v :: .int i :: .ref a :: st) μ b
def xR_alen (cf : xCf) (M : xMI) (mc ms : Nat) (P : xP) : Prop := ∀ (pc : Nat) (lo : xLoc) (st : List Value) (μ : xMem) (b : Nat × Nat) (t a : Nat) (cA : ClassId) (ty : FieldType) (x : vp_A), decode M.2.1 pc = .ok (.arraylength, 1) → cf.2.2.2.1[t]? = some (cA, ty) → μ a = some (.inl (cA, x)) → P (pc + 1) lo (.int (Int32.ofNat x.1) :: st) μ b → P pc lo (.ref a :: st) μ b
def xR_alnr (cf : xCf) (M : xMI) (mc ms : Nat) (P : xP) : Prop := ∀ (pc : Nat) (lo : xLoc) (st : List Value) (μ : xMem) (b : Nat × Nat) (a n : Nat) (ty : FieldType) (f : Nat → Int32), decode M.2.1 pc = .ok (.arraylength, 1) → (a, ty, n, f) ∈ cf.2.2.2.2.1 → P (pc + 1) lo (.int (Int32.ofNat n) :: st) μ b → P pc lo (.ref a :: st) μ b
def xR_newi (cf : xCf) (M : xMI) (mc ms : Nat) (P : xP) : Prop := ∀ (pc : Nat) (lo : xLoc) (st : List Value) (μ : xMem) (b : Nat × Nat) (t N : Nat) (cA : ClassId) (n : Int32), decode M.2.1 pc = .ok (.newarray .int, 2) → Cond.arrayClass .int ∈ cf.1 → cf.2.2.2.1[t]? = some (cA, .int) → ¬ n < 0 → n.toNatClampNeg = N → N ≤ 4096 → b.1 + 1 ≤ mc → b.2 + N ≤ ms → (∀ a, μ a = none → P (pc + 2) lo (.ref a :: st) (xup μ a (.inl (cA, N, .inl (fun _ => 0)))) (b.1 + 1, b.2 + N)) → P pc lo (.int n :: st) μ b
def xR_newl (cf : xCf) (M : xMI) (mc ms : Nat) (P : xP) : Prop := ∀ (pc : Nat) (lo : xLoc) (st : List Value) (μ : xMem) (b : Nat × Nat) (t N : Nat) (cA : ClassId) (n : Int32), decode M.2.1 pc = .ok (.newarray .long, 2) → Cond.arrayClass .long ∈ cf.1 → cf.2.2.2.1[t]? = some (cA, .long) → ¬ n < 0 → n.toNatClampNeg = N → N ≤ 4096 → b.1 + 1 ≤ mc → b.2 + N ≤ ms → (∀ a, μ a = none → P (pc + 2) lo (.ref a :: st) (xup μ a (.inl (cA, N, .inr (.inl (fun _ => 0))))) (b.1 + 1, b.2 + N)) → P pc lo (.int n :: st) μ b
def xR_newq (cf : xCf) (M : xMI) (mc ms : Nat) (P : xP) : Prop := ∀ (pc : Nat) (lo : xLoc) (st : List Value) (μ : xMem) (b : Nat × Nat) (t N i : Nat) (cA : ClassId) (C : String) (n : Int32), decode M.2.1 pc = .ok (.anewarray i, 3) → Cond.classLink M.1.cls i C ∈ cf.1 → Cond.arrayOver (.object C) ∈ cf.2.1 → cf.2.2.2.1[t]? = some (cA, .object C) → ¬ n < 0 → n.toNatClampNeg = N → N ≤ 4096 → b.1 + 1 ≤ mc → b.2 + N ≤ ms → (∀ a, μ a = none → P (pc + 3) lo (.ref a :: st) (xup μ a (.inl (cA, N, .inr (.inr (.inr (.inr (fun _ => none))))))) (b.1 + 1, b.2 + N)) → P pc lo (.int n :: st) μ b
def xR_new (cf : xCf) (M : xMI) (mc ms : Nat) (P : xP) : Prop := ∀ (pc : Nat) (lo : xLoc) (st : List Value) (μ : xMem) (b : Nat × Nat) (i ci : Nat) (q : vw_C) (ty : Nat → FieldType) (fs : List Value), decode M.2.1 pc = .ok (.new i, 3) → Cond.classLink M.1.cls i q.1 ∈ cf.1 → Cond.instantiable q.1 q.2.2 ∈ cf.1 → Cond.initialized q.1 ∈ cf.1 → cf.2.2.1[ci]? = some q → (∀ k, k < q.2.2 → parseFieldDescriptor (q.2.1 k).2.2.1 = some (ty k)) → (∀ j, j < q.2.2 → defaultValue (ty j) = vp_V fs j) → b.1 + 1 ≤ mc → b.2 + q.2.2 ≤ ms → (∀ a, μ a = none → P (pc + 3) lo (.ref a :: st) (xup μ a (.inr (ci, fs))) (b.1 + 1, b.2 + q.2.2)) → P pc lo st μ b
def xR_obj (cf : xCf) (M : xMI) (mc ms : Nat) (P : xP) : Prop := ∀ (pc : Nat) (lo : xLoc) (st : List Value) (μ : xMem) (b : Nat × Nat) (i a : Nat), decode M.2.1 pc = .ok (.invokespecial i, 3) → Cond.methodLink M.1.cls i objectInit ∈ cf.1 → Cond.instanceMethod objectInit ∈ cf.1 → Cond.code objectInit ⟨#[0xb1]⟩ 1 none ∈ cf.1 → (st.map fun v => v.category).sum ≤ 8 → P (pc + 3) lo st μ b → P pc lo (.ref a :: st) μ b
def xR_gets (cf : xCf) (M : xMI) (mc ms : Nat) (P : xP) : Prop := ∀ (pc : Nat) (lo : xLoc) (st : List Value) (μ : xMem) (b : Nat × Nat) (i : Nat) (C n d : String) (v : Value), decode M.2.1 pc = .ok (.getstatic i, 3) → Cond.fieldLink M.1.cls i C n d ∈ cf.1 → (C, n, d, v) ∈ cf.2.2.2.2.2.2.2.1 → P (pc + 3) lo (v :: st) μ b → P pc lo st μ b
def xR_getsN (cf : xCf) (M : xMI) (mc ms : Nat) (P : xP) : Prop := ∀ (pc : Nat) (lo : xLoc) (st : List Value) (μ : xMem) (b : Nat × Nat) (i : Nat) (C n d h : String) (v : Value), decode M.2.1 pc = .ok (.getstatic i, 3) → Cond.fieldLinkNest M.1.cls i C n d h ∈ cf.2.1 → (C, n, d, v) ∈ cf.2.2.2.2.2.2.2.1 → P (pc + 3) lo (v :: st) μ b → P pc lo st μ b
def xR_cpyi (cf : xCf) (M : xMI) (mc ms : Nat) (P : xP) : Prop := ∀ (pc : Nat) (lo : xLoc) (st : List Value) (μ : xMem) (b : Nat × Nat) (i t a0 a n0 n1 : Nat) (cA : ClassId) (f g : Nat → Int32) (sp dp n : Int32), decode M.2.1 pc = .ok (.invokestatic i, 3) → xCp cf M.1.cls i → (st.map fun v => v.category).sum ≤ 8 → cf.2.2.2.1[t]? = some (cA, .int) → μ a0 = some (.inl (cA, n0, .inl f)) → μ a = some (.inl (cA, n1, .inl g)) → ¬ sp < 0 → ¬ dp < 0 → ¬ n < 0 → sp.toNatClampNeg + n.toNatClampNeg ≤ n0 → dp.toNatClampNeg + n.toNatClampNeg ≤ n1 → P (pc + 3) lo st (xup μ a (.inl (cA, n1, .inl (va_cpy f g sp.toNatClampNeg dp.toNatClampNeg n.toNatClampNeg)))) b → P pc lo (.int n :: .int dp :: .ref a :: .int sp :: .ref a0 :: st) μ b
def xR_cpyl (cf : xCf) (M : xMI) (mc ms : Nat) (P : xP) : Prop := ∀ (pc : Nat) (lo : xLoc) (st : List Value) (μ : xMem) (b : Nat × Nat) (i t a0 a n0 n1 : Nat) (cA : ClassId) (f g : Nat → Int64) (sp dp n : Int32), decode M.2.1 pc = .ok (.invokestatic i, 3) → xCp cf M.1.cls i → (st.map fun v => v.category).sum ≤ 8 → cf.2.2.2.1[t]? = some (cA, .long) → μ a0 = some (.inl (cA, n0, .inr (.inl f))) → μ a = some (.inl (cA, n1, .inr (.inl g))) → ¬ sp < 0 → ¬ dp < 0 → ¬ n < 0 → sp.toNatClampNeg + n.toNatClampNeg ≤ n0 → dp.toNatClampNeg + n.toNatClampNeg ≤ n1 → P (pc + 3) lo st (xup μ a (.inl (cA, n1, .inr (.inl (va_cpy f g sp.toNatClampNeg dp.toNatClampNeg n.toNatClampNeg))))) b → P pc lo (.int n :: .int dp :: .ref a :: .int sp :: .ref a0 :: st) μ b
def xR_cpyr (cf : xCf) (M : xMI) (mc ms : Nat) (P : xP) : Prop := ∀ (pc : Nat) (lo : xLoc) (st : List Value) (μ : xMem) (b : Nat × Nat) (i t a0 a n0 n1 : Nat) (cA : ClassId) (f g : Nat → Int32) (sp dp n : Int32), decode M.2.1 pc = .ok (.invokestatic i, 3) → xCp cf M.1.cls i → (st.map fun v => v.category).sum ≤ 8 → cf.2.2.2.1[t]? = some (cA, .int) → (a0, .int, n0, f) ∈ cf.2.2.2.2.1 → μ a = some (.inl (cA, n1, .inl g)) → ¬ sp < 0 → ¬ dp < 0 → ¬ n < 0 → sp.toNatClampNeg + n.toNatClampNeg ≤ n0 → dp.toNatClampNeg + n.toNatClampNeg ≤ n1 → P (pc + 3) lo st (xup μ a (.inl (cA, n1, .inl (va_cpy f g sp.toNatClampNeg dp.toNatClampNeg n.toNatClampNeg)))) b → P pc lo (.int n :: .int dp :: .ref a :: .int sp :: .ref a0 :: st) μ b
def xR_mabs (cf : xCf) (M : xMI) (mc ms : Nat) (P : xP) : Prop := ∀ (pc : Nat) (lo : xLoc) (st : List Value) (μ : xMem) (b : Nat × Nat) (i : Nat) (x : Int32), decode M.2.1 pc = .ok (.invokestatic i, 3) → xMp cf M.1.cls i Lib.Math.abs.name Lib.Math.abs.code 1 → (st.map fun v => v.category).sum ≤ 8 → b.1 ≤ mc → b.2 ≤ ms → P (pc + 3) lo (.int (if 0 ≤ x then x else 0 - x) :: st) μ b → P pc lo (.int x :: st) μ b
def xR_mmax (cf : xCf) (M : xMI) (mc ms : Nat) (P : xP) : Prop := ∀ (pc : Nat) (lo : xLoc) (st : List Value) (μ : xMem) (b : Nat × Nat) (i : Nat) (x y : Int32), decode M.2.1 pc = .ok (.invokestatic i, 3) → xMp cf M.1.cls i Lib.Math.max.name Lib.Math.max.code 2 → (st.map fun v => v.category).sum ≤ 8 → b.1 ≤ mc → b.2 ≤ ms → P (pc + 3) lo (.int (if x < y then y else x) :: st) μ b → P pc lo (.int y :: .int x :: st) μ b
def xR_mmin (cf : xCf) (M : xMI) (mc ms : Nat) (P : xP) : Prop := ∀ (pc : Nat) (lo : xLoc) (st : List Value) (μ : xMem) (b : Nat × Nat) (i : Nat) (x y : Int32), decode M.2.1 pc = .ok (.invokestatic i, 3) → xMp cf M.1.cls i Lib.Math.min.name Lib.Math.min.code 2 → (st.map fun v => v.category).sum ≤ 8 → b.1 ≤ mc → b.2 ≤ ms → P (pc + 3) lo (.int (if y < x then y else x) :: st) μ b → P pc lo (.int y :: .int x :: st) μ b
def xRules (cf : xCf) (M : xMI) (mc ms : Nat) (P : xP) : Prop := xR_stk cf M mc ms P ∧ xR_div cf M mc ms P ∧ xR_rem cf M mc ms P ∧ xR_ldiv cf M mc ms P ∧ xR_ldc cf M mc ms P ∧ xR_ldcw cf M mc ms P ∧ xR_ldc2 cf M mc ms P ∧ xR_ldcs cf M mc ms P ∧ xR_iloadN cf M mc ms P ∧ xR_iload cf M mc ms P ∧ xR_lloadN cf M mc ms P ∧ xR_lload cf M mc ms P ∧ xR_aloadN cf M mc ms P ∧ xR_aload cf M mc ms P ∧ xR_istoreN cf M mc ms P ∧ xR_istore cf M mc ms P ∧ xR_astoreN cf M mc ms P ∧ xR_astore cf M mc ms P ∧ xR_lstoreN cf M mc ms P ∧ xR_lstore cf M mc ms P ∧ xR_iinc cf M mc ms P ∧ xR_ifeq cf M mc ms P ∧ xR_iceq cf M mc ms P ∧ xR_ifne cf M mc ms P ∧ xR_icne cf M mc ms P ∧ xR_iflt cf M mc ms P ∧ xR_iclt cf M mc ms P ∧ xR_ifge cf M mc ms P ∧ xR_icge cf M mc ms P ∧ xR_ifgt cf M mc ms P ∧ xR_icgt cf M mc ms P ∧ xR_ifle cf M mc ms P ∧ xR_icle cf M mc ms P ∧ xR_goto cf M mc ms P ∧ xR_tin cf M mc ms P ∧ xR_tout cf M mc ms P ∧ xR_look cf M mc ms P ∧ xR_getf cf M mc ms P ∧ xR_getr cf M mc ms P ∧ xR_putf cf M mc ms P ∧ xR_putF cf M mc ms P ∧ xR_iald cf M mc ms P ∧ xR_lald cf M mc ms P ∧ xR_aald cf M mc ms P ∧ xR_ialr cf M mc ms P ∧ xR_balr cf M mc ms P ∧ xR_iast cf M mc ms P ∧ xR_last cf M mc ms P ∧ xR_aast cf M mc ms P ∧ xR_alen cf M mc ms P ∧ xR_alnr cf M mc ms P ∧ xR_newi cf M mc ms P ∧ xR_newl cf M mc ms P ∧ xR_newq cf M mc ms P ∧ xR_new cf M mc ms P ∧ xR_obj cf M mc ms P ∧ xR_gets cf M mc ms P ∧ xR_getsN cf M mc ms P ∧ xR_cpyi cf M mc ms P ∧ xR_cpyl cf M mc ms P ∧ xR_cpyr cf M mc ms P ∧ xR_mabs cf M mc ms P ∧ xR_mmax cf M mc ms P ∧ xR_mmin cf M mc ms P
/-! answers -/
def xT_i (M : xMI) (mc ms : Nat) (Q : xQ) (P : xP) : Prop := ∀ (pc : Nat) (lo : xLoc) (μ : xMem) (b : Nat × Nat) (ty : FieldType) (v : Int32), decode M.2.1 pc = .ok (.ireturn, 1) → M.2.2.2 = some ty → narrow ty (.int v) = .int v → b.1 ≤ mc → b.2 ≤ ms → Q (some (.int v)) μ → P pc lo [.int v] μ b
def xT_l (M : xMI) (mc ms : Nat) (Q : xQ) (P : xP) : Prop := ∀ (pc : Nat) (lo : xLoc) (μ : xMem) (b : Nat × Nat) (v : Int64), decode M.2.1 pc = .ok (.lreturn, 1) → M.2.2.2 = some .long → b.1 ≤ mc → b.2 ≤ ms → Q (some (.long v)) μ → P pc lo [.long v] μ b
def xT_a (M : xMI) (mc ms : Nat) (Q : xQ) (P : xP) : Prop := ∀ (pc : Nat) (lo : xLoc) (μ : xMem) (b : Nat × Nat) (C : String) (v : Nat), decode M.2.1 pc = .ok (.areturn, 1) → M.2.2.2 = some (.object C) → b.1 ≤ mc → b.2 ≤ ms → Q (some (.ref v)) μ → P pc lo [.ref v] μ b
def xT_v (M : xMI) (mc ms : Nat) (Q : xQ) (P : xP) : Prop := ∀ (pc : Nat) (lo : xLoc) (μ : xMem) (b : Nat × Nat), decode M.2.1 pc = .ok (.return_, 1) → M.2.2.2 = none → b.1 ≤ mc → b.2 ≤ ms → Q none μ → P pc lo [] μ b
def xRets (M : xMI) (mc ms : Nat) (Q : xQ) (P : xP) : Prop := xT_i M mc ms Q P ∧ xT_l M mc ms Q P ∧ xT_a M mc ms Q P ∧ xT_v M mc ms Q P
/-! calls -/
def xCm (cf : xCf) (N : xMI) (n : Nat) : Prop := Cond.initialized N.1.cls ∈ cf.1 ∧ Cond.code N.1 N.2.1 N.2.2.1 N.2.2.2 ∈ cf.1 ∧ (N.1.cls ≠ "java/lang/invoke/MethodHandle" ∧ N.1.cls ≠ "java/lang/invoke/VarHandle" ∧ (parseMethodDescriptor N.1.desc).map (fun d => d.parameters.length) = some n) ∧ N.2.2.1 ≤ 45 ∧ plainName N.1.cls = true
def xCv (cf : xCf) (own : String) (i : Nat) (N : xMI) (n : Nat) : Prop := xCm cf N n ∧ Cond.methodLink own i N.1 ∈ cf.1 ∧ Cond.instanceMethod N.1 ∈ cf.1 ∧ Cond.selects N.1.cls N.1 N.1 ∈ cf.1
def xCs (cf : xCf) (own : String) (i : Nat) (N : xMI) (n : Nat) : Prop := xCm cf N n ∧ Cond.methodLink own i N.1 ∈ cf.1 ∧ Cond.static N.1 ∈ cf.1
def xCsN (cf : xCf) (own : String) (i : Nat) (N : xMI) (n : Nat) (h : String) : Prop := xCm cf N n ∧ Cond.methodLinkNest own i N.1 h ∈ cf.2.1 ∧ Cond.static N.1 ∈ cf.1
def xCi (cf : xCf) (own : String) (i : Nat) (N : xMI) (n : Nat) : Prop := xCm cf N n ∧ Cond.methodLink own i N.1 ∈ cf.1 ∧ Cond.instanceMethod N.1 ∈ cf.1 ∧ N.1.name = "<init>" ∧ N.2.2.2 = none
def xCiN (cf : xCf) (own : String) (i : Nat) (N : xMI) (n : Nat) (h : String) : Prop := xCm cf N n ∧ Cond.methodLinkNest own i N.1 h ∈ cf.2.1 ∧ Cond.instanceMethod N.1 ∈ cf.1 ∧ N.1.name = "<init>" ∧ N.2.2.2 = none
abbrev xCall : Type := xMI → Nat → Nat → xQ → xP
/-- who takes a call: an object of the memory, or one that is only read -/
def xRv (cf : xCf) (μ : xMem) (a : Nat) (C : String) : Prop := (∃ (ci : Nat) (fs : List Value) (q : vw_C), μ a = some (.inr (ci, fs)) ∧ cf.2.2.1[ci]? = some q ∧ q.1 = C) ∨ (a, C) ∈ cf.2.2.2.2.2.1
def xC_v (cf : xCf) (call : xCall) (M : xMI) (mc ms : Nat) (P : xP) : Prop := ∀ (pc : Nat) (lo : xLoc) (rest As : List Value) (μ : xMem) (b : Nat × Nat) (i n a mc2 ms2 : Nat) (N : xMI), decode M.2.1 pc = .ok (.invokevirtual i, 3) → xCv cf M.1.cls i N n → As.length = n → xRv cf μ a N.1.cls → (rest.map fun v => v.category).sum ≤ 8 → b.1 + mc2 ≤ mc → b.2 + ms2 ≤ ms → (lg_sl (.ref a :: As)).length ≤ N.2.2.1 → call N mc2 ms2 (fun r μ2 => P (pc + 3) lo (r.toList ++ rest) μ2 (b.1 + mc2, b.2 + ms2)) 0 (xbeg N.2.2.1 (.ref a :: As)) [] μ (0, 0) → P pc lo (As.reverse ++ .ref a :: rest) μ b
def xC_s (cf : xCf) (call : xCall) (M : xMI) (mc ms : Nat) (P : xP) : Prop := ∀ (pc : Nat) (lo : xLoc) (rest As : List Value) (μ : xMem) (b : Nat × Nat) (i n mc2 ms2 : Nat) (N : xMI), decode M.2.1 pc = .ok (.invokestatic i, 3) → (xCs cf M.1.cls i N n ∨ ∃ h, xCsN cf M.1.cls i N n h) → As.length = n → (rest.map fun v => v.category).sum ≤ 8 → b.1 + mc2 ≤ mc → b.2 + ms2 ≤ ms → (lg_sl As).length ≤ N.2.2.1 → call N mc2 ms2 (fun r μ2 => P (pc + 3) lo (r.toList ++ rest) μ2 (b.1 + mc2, b.2 + ms2)) 0 (xbeg N.2.2.1 As) [] μ (0, 0) → P pc lo (As.reverse ++ rest) μ b
def xC_i (cf : xCf) (call : xCall) (M : xMI) (mc ms : Nat) (P : xP) : Prop := ∀ (pc : Nat) (lo : xLoc) (rest As : List Value) (μ : xMem) (b : Nat × Nat) (i n a mc2 ms2 : Nat) (N : xMI), decode M.2.1 pc = .ok (.invokespecial i, 3) → (xCi cf M.1.cls i N n ∨ ∃ h, xCiN cf M.1.cls i N n h) → As.length = n → (rest.map fun v => v.category).sum ≤ 8 → b.1 + mc2 ≤ mc → b.2 + ms2 ≤ ms → (lg_sl (.ref a :: As)).length ≤ N.2.2.1 → call N mc2 ms2 (fun r μ2 => P (pc + 3) lo (r.toList ++ rest) μ2 (b.1 + mc2, b.2 + ms2)) 0 (xbeg N.2.2.1 (.ref a :: As)) [] μ (0, 0) → P pc lo (As.reverse ++ .ref a :: rest) μ b
def xCalls (cf : xCf) (call : xCall) (M : xMI) (mc ms : Nat) (P : xP) : Prop := xC_v cf call M mc ms P ∧ xC_s cf call M mc ms P ∧ xC_i cf call M mc ms P
/-- method M, with calls d deep, comes from here to its end, with Q of the answer and the memory; it makes mc cells of ms slots at most -/
def Ex (cf : xCf) : Nat → xCall
  | 0 => fun _ _ _ _ _ _ _ _ _ => False
  | d + 1 => fun M mc ms Q pc lo st μ b => ∀ P : xP, xRules cf M mc ms P → xRets M mc ms Q P → xCalls cf (Ex cf d) M mc ms P → P pc lo st μ b

theorem xs_stk {cf : xCf} {D : va_G} {A : Nat → Prop} {M : xMI} {mc ms d : Nat} {p : Program} {l : Launch} {e : Env} {R : Room} {s : State} {m : MethodId} {args : Array Value} {below : List Frame} {meth : Method} {c : Code} {Qm : State → Prop} (hF : xFr cf D A M p s m args meth c) (hR : xRm R (d + 1) mc ms) : xR_stk cf M mc ms (xW cf D A M p l e R s m args below meth c Qm) := by
  obtain ⟨hx, hb, hml, hown, hnm, hts, hst, hok⟩ := hF
  intro pc lo st st2 μ b i n hd h k H locs ls hSim hS hl
  exact xst_W hx hb i st n st2 h hd (k H locs ls hSim hS hl)
theorem xs_div {cf : xCf} {D : va_G} {A : Nat → Prop} {M : xMI} {mc ms d : Nat} {p : Program} {l : Launch} {e : Env} {R : Room} {s : State} {m : MethodId} {args : Array Value} {below : List Frame} {meth : Method} {c : Code} {Qm : State → Prop} (hF : xFr cf D A M p s m args meth c) (hR : xRm R (d + 1) mc ms) : xR_div cf M mc ms (xW cf D A M p l e R s m args below meth c Qm) := by
  obtain ⟨hx, hb, hml, hown, hnm, hts, hst, hok⟩ := hF
  intro pc lo x y st μ b hd h k H locs ls hSim hS hl
  exact lv_idiv hx hb hd h (k H locs ls hSim hS hl)
theorem xs_rem {cf : xCf} {D : va_G} {A : Nat → Prop} {M : xMI} {mc ms d : Nat} {p : Program} {l : Launch} {e : Env} {R : Room} {s : State} {m : MethodId} {args : Array Value} {below : List Frame} {meth : Method} {c : Code} {Qm : State → Prop} (hF : xFr cf D A M p s m args meth c) (hR : xRm R (d + 1) mc ms) : xR_rem cf M mc ms (xW cf D A M p l e R s m args below meth c Qm) := by
  obtain ⟨hx, hb, hml, hown, hnm, hts, hst, hok⟩ := hF
  intro pc lo x y st μ b hd h k H locs ls hSim hS hl
  exact lv_irem hx hb hd h (k H locs ls hSim hS hl)
theorem xs_ldiv {cf : xCf} {D : va_G} {A : Nat → Prop} {M : xMI} {mc ms d : Nat} {p : Program} {l : Launch} {e : Env} {R : Room} {s : State} {m : MethodId} {args : Array Value} {below : List Frame} {meth : Method} {c : Code} {Qm : State → Prop} (hF : xFr cf D A M p s m args meth c) (hR : xRm R (d + 1) mc ms) : xR_ldiv cf M mc ms (xW cf D A M p l e R s m args below meth c Qm) := by
  obtain ⟨hx, hb, hml, hown, hnm, hts, hst, hok⟩ := hF
  intro pc lo x y st μ b hd h k H locs ls hSim hS hl
  exact lv_ldiv hx hb hd h (k H locs ls hSim hS hl)
theorem xs_ldc {cf : xCf} {D : va_G} {A : Nat → Prop} {M : xMI} {mc ms d : Nat} {p : Program} {l : Launch} {e : Env} {R : Room} {s : State} {m : MethodId} {args : Array Value} {below : List Frame} {meth : Method} {c : Code} {Qm : State → Prop} (hF : xFr cf D A M p s m args meth c) (hR : xRm R (d + 1) mc ms) : xR_ldc cf M mc ms (xW cf D A M p l e R s m args below meth c Qm) := by
  obtain ⟨hx, hb, hml, hown, hnm, hts, hst, hok⟩ := hF
  intro pc lo st μ b i v hd h k H locs ls hSim hS hl
  exact lv_ldc hx hb hown (hts _ h) hd (k H locs ls hSim hS hl)
theorem xs_ldcw {cf : xCf} {D : va_G} {A : Nat → Prop} {M : xMI} {mc ms d : Nat} {p : Program} {l : Launch} {e : Env} {R : Room} {s : State} {m : MethodId} {args : Array Value} {below : List Frame} {meth : Method} {c : Code} {Qm : State → Prop} (hF : xFr cf D A M p s m args meth c) (hR : xRm R (d + 1) mc ms) : xR_ldcw cf M mc ms (xW cf D A M p l e R s m args below meth c Qm) := by
  obtain ⟨hx, hb, hml, hown, hnm, hts, hst, hok⟩ := hF
  intro pc lo st μ b i v hd h k H locs ls hSim hS hl
  exact lv_ldcw hx hb hown (hts _ h) hd (k H locs ls hSim hS hl)
theorem xs_ldc2 {cf : xCf} {D : va_G} {A : Nat → Prop} {M : xMI} {mc ms d : Nat} {p : Program} {l : Launch} {e : Env} {R : Room} {s : State} {m : MethodId} {args : Array Value} {below : List Frame} {meth : Method} {c : Code} {Qm : State → Prop} (hF : xFr cf D A M p s m args meth c) (hR : xRm R (d + 1) mc ms) : xR_ldc2 cf M mc ms (xW cf D A M p l e R s m args below meth c Qm) := by
  obtain ⟨hx, hb, hml, hown, hnm, hts, hst, hok⟩ := hF
  intro pc lo st μ b i v hd h k H locs ls hSim hS hl
  exact lv_ldc2 hx hb hown (hts _ h) hd (k H locs ls hSim hS hl)
theorem xs_ldcs {cf : xCf} {D : va_G} {A : Nat → Prop} {M : xMI} {mc ms d : Nat} {p : Program} {l : Launch} {e : Env} {R : Room} {s : State} {m : MethodId} {args : Array Value} {below : List Frame} {meth : Method} {c : Code} {Qm : State → Prop} (hF : xFr cf D A M p s m args meth c) (hR : xRm R (d + 1) mc ms) : xR_ldcs cf M mc ms (xW cf D A M p l e R s m args below meth c Qm) := by
  obtain ⟨hx, hb, hml, hown, hnm, hts, hst, hok⟩ := hF
  intro pc lo st μ b i tx a hd h k H locs ls hSim hS hl
  exact va_ldcS hx hb hown (hst.2.2.1.2.2.2.2 _ h) hd (k H locs ls hSim hS hl)
theorem xs_iloadN {cf : xCf} {D : va_G} {A : Nat → Prop} {M : xMI} {mc ms d : Nat} {p : Program} {l : Launch} {e : Env} {R : Room} {s : State} {m : MethodId} {args : Array Value} {below : List Frame} {meth : Method} {c : Code} {Qm : State → Prop} (hF : xFr cf D A M p s m args meth c) (hR : xRm R (d + 1) mc ms) : xR_iloadN cf M mc ms (xW cf D A M p l e R s m args below meth c Qm) := by
  obtain ⟨hx, hb, hml, hown, hnm, hts, hst, hok⟩ := hF
  intro pc lo st μ b i x hd h k H locs ls hSim hS hl
  exact lv_iload_n hx hb hd rfl (hl.2.2 _ _ h) (k H locs ls hSim hS hl)
theorem xs_iload {cf : xCf} {D : va_G} {A : Nat → Prop} {M : xMI} {mc ms d : Nat} {p : Program} {l : Launch} {e : Env} {R : Room} {s : State} {m : MethodId} {args : Array Value} {below : List Frame} {meth : Method} {c : Code} {Qm : State → Prop} (hF : xFr cf D A M p s m args meth c) (hR : xRm R (d + 1) mc ms) : xR_iload cf M mc ms (xW cf D A M p l e R s m args below meth c Qm) := by
  obtain ⟨hx, hb, hml, hown, hnm, hts, hst, hok⟩ := hF
  intro pc lo st μ b i x hd h k H locs ls hSim hS hl
  exact lv_iload hx hb hd (hl.2.2 _ _ h) (k H locs ls hSim hS hl)
theorem xs_lloadN {cf : xCf} {D : va_G} {A : Nat → Prop} {M : xMI} {mc ms d : Nat} {p : Program} {l : Launch} {e : Env} {R : Room} {s : State} {m : MethodId} {args : Array Value} {below : List Frame} {meth : Method} {c : Code} {Qm : State → Prop} (hF : xFr cf D A M p s m args meth c) (hR : xRm R (d + 1) mc ms) : xR_lloadN cf M mc ms (xW cf D A M p l e R s m args below meth c Qm) := by
  obtain ⟨hx, hb, hml, hown, hnm, hts, hst, hok⟩ := hF
  intro pc lo st μ b i x hd h k H locs ls hSim hS hl
  exact lv_lload_n hx hb hd rfl (hl.2.2 _ _ h) (k H locs ls hSim hS hl)
theorem xs_lload {cf : xCf} {D : va_G} {A : Nat → Prop} {M : xMI} {mc ms d : Nat} {p : Program} {l : Launch} {e : Env} {R : Room} {s : State} {m : MethodId} {args : Array Value} {below : List Frame} {meth : Method} {c : Code} {Qm : State → Prop} (hF : xFr cf D A M p s m args meth c) (hR : xRm R (d + 1) mc ms) : xR_lload cf M mc ms (xW cf D A M p l e R s m args below meth c Qm) := by
  obtain ⟨hx, hb, hml, hown, hnm, hts, hst, hok⟩ := hF
  intro pc lo st μ b i x hd h k H locs ls hSim hS hl
  exact lv_lload hx hb hd (hl.2.2 _ _ h) (k H locs ls hSim hS hl)
theorem xs_aloadN {cf : xCf} {D : va_G} {A : Nat → Prop} {M : xMI} {mc ms d : Nat} {p : Program} {l : Launch} {e : Env} {R : Room} {s : State} {m : MethodId} {args : Array Value} {below : List Frame} {meth : Method} {c : Code} {Qm : State → Prop} (hF : xFr cf D A M p s m args meth c) (hR : xRm R (d + 1) mc ms) : xR_aloadN cf M mc ms (xW cf D A M p l e R s m args below meth c Qm) := by
  obtain ⟨hx, hb, hml, hown, hnm, hts, hst, hok⟩ := hF
  intro pc lo st μ b i x hd h k H locs ls hSim hS hl
  exact lv_aload_n hx hb hd rfl (hl.2.2 _ _ h) (k H locs ls hSim hS hl)
theorem xs_aload {cf : xCf} {D : va_G} {A : Nat → Prop} {M : xMI} {mc ms d : Nat} {p : Program} {l : Launch} {e : Env} {R : Room} {s : State} {m : MethodId} {args : Array Value} {below : List Frame} {meth : Method} {c : Code} {Qm : State → Prop} (hF : xFr cf D A M p s m args meth c) (hR : xRm R (d + 1) mc ms) : xR_aload cf M mc ms (xW cf D A M p l e R s m args below meth c Qm) := by
  obtain ⟨hx, hb, hml, hown, hnm, hts, hst, hok⟩ := hF
  intro pc lo st μ b i x hd h k H locs ls hSim hS hl
  exact lv_aload hx hb hd (hl.2.2 _ _ h) (k H locs ls hSim hS hl)
theorem xs_istoreN {cf : xCf} {D : va_G} {A : Nat → Prop} {M : xMI} {mc ms d : Nat} {p : Program} {l : Launch} {e : Env} {R : Room} {s : State} {m : MethodId} {args : Array Value} {below : List Frame} {meth : Method} {c : Code} {Qm : State → Prop} (hF : xFr cf D A M p s m args meth c) (hR : xRm R (d + 1) mc ms) : xR_istoreN cf M mc ms (xW cf D A M p l e R s m args below meth c Qm) := by
  obtain ⟨hx, hb, hml, hown, hnm, hts, hst, hok⟩ := hF
  intro pc lo st μ b i x hd h k H locs ls hSim hS hl
  exact lv_istore_n hx hb hd rfl (x_has_lv hl) h rfl (fun ls2 hl2 => k H locs ls2 hSim hS (x_has_s1 hl2))
theorem xs_istore {cf : xCf} {D : va_G} {A : Nat → Prop} {M : xMI} {mc ms d : Nat} {p : Program} {l : Launch} {e : Env} {R : Room} {s : State} {m : MethodId} {args : Array Value} {below : List Frame} {meth : Method} {c : Code} {Qm : State → Prop} (hF : xFr cf D A M p s m args meth c) (hR : xRm R (d + 1) mc ms) : xR_istore cf M mc ms (xW cf D A M p l e R s m args below meth c Qm) := by
  obtain ⟨hx, hb, hml, hown, hnm, hts, hst, hok⟩ := hF
  intro pc lo st μ b i x hd h k H locs ls hSim hS hl
  exact lv_istore hx hb hd (x_has_lv hl) h rfl (fun ls2 hl2 => k H locs ls2 hSim hS (x_has_s1 hl2))
theorem xs_astoreN {cf : xCf} {D : va_G} {A : Nat → Prop} {M : xMI} {mc ms d : Nat} {p : Program} {l : Launch} {e : Env} {R : Room} {s : State} {m : MethodId} {args : Array Value} {below : List Frame} {meth : Method} {c : Code} {Qm : State → Prop} (hF : xFr cf D A M p s m args meth c) (hR : xRm R (d + 1) mc ms) : xR_astoreN cf M mc ms (xW cf D A M p l e R s m args below meth c Qm) := by
  obtain ⟨hx, hb, hml, hown, hnm, hts, hst, hok⟩ := hF
  intro pc lo st μ b i x hd h k H locs ls hSim hS hl
  exact lv_astore_n hx hb hd rfl (x_has_lv hl) h rfl (fun ls2 hl2 => k H locs ls2 hSim hS (x_has_s1 hl2))
theorem xs_astore {cf : xCf} {D : va_G} {A : Nat → Prop} {M : xMI} {mc ms d : Nat} {p : Program} {l : Launch} {e : Env} {R : Room} {s : State} {m : MethodId} {args : Array Value} {below : List Frame} {meth : Method} {c : Code} {Qm : State → Prop} (hF : xFr cf D A M p s m args meth c) (hR : xRm R (d + 1) mc ms) : xR_astore cf M mc ms (xW cf D A M p l e R s m args below meth c Qm) := by
  obtain ⟨hx, hb, hml, hown, hnm, hts, hst, hok⟩ := hF
  intro pc lo st μ b i x hd h k H locs ls hSim hS hl
  exact lv_astore hx hb hd (x_has_lv hl) h rfl (fun ls2 hl2 => k H locs ls2 hSim hS (x_has_s1 hl2))
theorem xs_lstoreN {cf : xCf} {D : va_G} {A : Nat → Prop} {M : xMI} {mc ms d : Nat} {p : Program} {l : Launch} {e : Env} {R : Room} {s : State} {m : MethodId} {args : Array Value} {below : List Frame} {meth : Method} {c : Code} {Qm : State → Prop} (hF : xFr cf D A M p s m args meth c) (hR : xRm R (d + 1) mc ms) : xR_lstoreN cf M mc ms (xW cf D A M p l e R s m args below meth c Qm) := by
  obtain ⟨hx, hb, hml, hown, hnm, hts, hst, hok⟩ := hF
  intro pc lo st μ b i x hd h k H locs ls hSim hS hl
  exact lv_lstore_n hx hb hd rfl (x_has_lv hl) h rfl (fun ls2 hl2 => k H locs ls2 hSim hS (x_has_s2 hl2))
theorem xs_lstore {cf : xCf} {D : va_G} {A : Nat → Prop} {M : xMI} {mc ms d : Nat} {p : Program} {l : Launch} {e : Env} {R : Room} {s : State} {m : MethodId} {args : Array Value} {below : List Frame} {meth : Method} {c : Code} {Qm : State → Prop} (hF : xFr cf D A M p s m args meth c) (hR : xRm R (d + 1) mc ms) : xR_lstore cf M mc ms (xW cf D A M p l e R s m args below meth c Qm) := by
  obtain ⟨hx, hb, hml, hown, hnm, hts, hst, hok⟩ := hF
  intro pc lo st μ b i x hd h k H locs ls hSim hS hl
  exact lv_lstore hx hb hd (x_has_lv hl) h rfl (fun ls2 hl2 => k H locs ls2 hSim hS (x_has_s2 hl2))
theorem xs_iinc {cf : xCf} {D : va_G} {A : Nat → Prop} {M : xMI} {mc ms d : Nat} {p : Program} {l : Launch} {e : Env} {R : Room} {s : State} {m : MethodId} {args : Array Value} {below : List Frame} {meth : Method} {c : Code} {Qm : State → Prop} (hF : xFr cf D A M p s m args meth c) (hR : xRm R (d + 1) mc ms) : xR_iinc cf M mc ms (xW cf D A M p l e R s m args below meth c Qm) := by
  obtain ⟨hx, hb, hml, hown, hnm, hts, hst, hok⟩ := hF
  intro pc lo st μ b i n x hd h hi k H locs ls hSim hS hl
  obtain ⟨j, hj⟩ := List.getElem?_of_mem ((xlv_mem lo 0 i (.int x)).mpr ⟨Nat.zero_le _, h⟩)
  exact lv_iinc hx hb hd (x_has_lv hl) hj rfl hi rfl (fun ls2 hl2 => k H locs ls2 hSim hS (x_has_s1 hl2))
theorem xs_ifeq {cf : xCf} {D : va_G} {A : Nat → Prop} {M : xMI} {mc ms d : Nat} {p : Program} {l : Launch} {e : Env} {R : Room} {s : State} {m : MethodId} {args : Array Value} {below : List Frame} {meth : Method} {c : Code} {Qm : State → Prop} (hF : xFr cf D A M p s m args meth c) (hR : xRm R (d + 1) mc ms) : xR_ifeq cf M mc ms (xW cf D A M p l e R s m args below meth c Qm) := by
  obtain ⟨hx, hb, hml, hown, hnm, hts, hst, hok⟩ := hF
  intro pc lo st μ b x off tgt hd ht k1 k2 H locs ls hSim hS hl
  exact lv_if_eq hx hb hd ht (fun h => k1 h H locs ls hSim hS hl) (fun h => k2 h H locs ls hSim hS hl)
theorem xs_iceq {cf : xCf} {D : va_G} {A : Nat → Prop} {M : xMI} {mc ms d : Nat} {p : Program} {l : Launch} {e : Env} {R : Room} {s : State} {m : MethodId} {args : Array Value} {below : List Frame} {meth : Method} {c : Code} {Qm : State → Prop} (hF : xFr cf D A M p s m args meth c) (hR : xRm R (d + 1) mc ms) : xR_iceq cf M mc ms (xW cf D A M p l e R s m args below meth c Qm) := by
  obtain ⟨hx, hb, hml, hown, hnm, hts, hst, hok⟩ := hF
  intro pc lo st μ b x y off tgt hd ht k1 k2 H locs ls hSim hS hl
  exact lv_icmp_eq hx hb hd ht (fun h => k1 h H locs ls hSim hS hl) (fun h => k2 h H locs ls hSim hS hl)
theorem xs_ifne {cf : xCf} {D : va_G} {A : Nat → Prop} {M : xMI} {mc ms d : Nat} {p : Program} {l : Launch} {e : Env} {R : Room} {s : State} {m : MethodId} {args : Array Value} {below : List Frame} {meth : Method} {c : Code} {Qm : State → Prop} (hF : xFr cf D A M p s m args meth c) (hR : xRm R (d + 1) mc ms) : xR_ifne cf M mc ms (xW cf D A M p l e R s m args below meth c Qm) := by
  obtain ⟨hx, hb, hml, hown, hnm, hts, hst, hok⟩ := hF
  intro pc lo st μ b x off tgt hd ht k1 k2 H locs ls hSim hS hl
  exact lv_if_ne hx hb hd ht (fun h => k1 h H locs ls hSim hS hl) (fun h => k2 h H locs ls hSim hS hl)
theorem xs_icne {cf : xCf} {D : va_G} {A : Nat → Prop} {M : xMI} {mc ms d : Nat} {p : Program} {l : Launch} {e : Env} {R : Room} {s : State} {m : MethodId} {args : Array Value} {below : List Frame} {meth : Method} {c : Code} {Qm : State → Prop} (hF : xFr cf D A M p s m args meth c) (hR : xRm R (d + 1) mc ms) : xR_icne cf M mc ms (xW cf D A M p l e R s m args below meth c Qm) := by
  obtain ⟨hx, hb, hml, hown, hnm, hts, hst, hok⟩ := hF
  intro pc lo st μ b x y off tgt hd ht k1 k2 H locs ls hSim hS hl
  exact lv_icmp_ne hx hb hd ht (fun h => k1 h H locs ls hSim hS hl) (fun h => k2 h H locs ls hSim hS hl)
theorem xs_iflt {cf : xCf} {D : va_G} {A : Nat → Prop} {M : xMI} {mc ms d : Nat} {p : Program} {l : Launch} {e : Env} {R : Room} {s : State} {m : MethodId} {args : Array Value} {below : List Frame} {meth : Method} {c : Code} {Qm : State → Prop} (hF : xFr cf D A M p s m args meth c) (hR : xRm R (d + 1) mc ms) : xR_iflt cf M mc ms (xW cf D A M p l e R s m args below meth c Qm) := by
  obtain ⟨hx, hb, hml, hown, hnm, hts, hst, hok⟩ := hF
  intro pc lo st μ b x off tgt hd ht k1 k2 H locs ls hSim hS hl
  exact lv_if_lt hx hb hd ht (fun h => k1 h H locs ls hSim hS hl) (fun h => k2 h H locs ls hSim hS hl)
theorem xs_iclt {cf : xCf} {D : va_G} {A : Nat → Prop} {M : xMI} {mc ms d : Nat} {p : Program} {l : Launch} {e : Env} {R : Room} {s : State} {m : MethodId} {args : Array Value} {below : List Frame} {meth : Method} {c : Code} {Qm : State → Prop} (hF : xFr cf D A M p s m args meth c) (hR : xRm R (d + 1) mc ms) : xR_iclt cf M mc ms (xW cf D A M p l e R s m args below meth c Qm) := by
  obtain ⟨hx, hb, hml, hown, hnm, hts, hst, hok⟩ := hF
  intro pc lo st μ b x y off tgt hd ht k1 k2 H locs ls hSim hS hl
  exact lv_icmp_lt hx hb hd ht (fun h => k1 h H locs ls hSim hS hl) (fun h => k2 h H locs ls hSim hS hl)
theorem xs_ifge {cf : xCf} {D : va_G} {A : Nat → Prop} {M : xMI} {mc ms d : Nat} {p : Program} {l : Launch} {e : Env} {R : Room} {s : State} {m : MethodId} {args : Array Value} {below : List Frame} {meth : Method} {c : Code} {Qm : State → Prop} (hF : xFr cf D A M p s m args meth c) (hR : xRm R (d + 1) mc ms) : xR_ifge cf M mc ms (xW cf D A M p l e R s m args below meth c Qm) := by
  obtain ⟨hx, hb, hml, hown, hnm, hts, hst, hok⟩ := hF
  intro pc lo st μ b x off tgt hd ht k1 k2 H locs ls hSim hS hl
  exact lv_if_ge hx hb hd ht (fun h => k1 h H locs ls hSim hS hl) (fun h => k2 h H locs ls hSim hS hl)
theorem xs_icge {cf : xCf} {D : va_G} {A : Nat → Prop} {M : xMI} {mc ms d : Nat} {p : Program} {l : Launch} {e : Env} {R : Room} {s : State} {m : MethodId} {args : Array Value} {below : List Frame} {meth : Method} {c : Code} {Qm : State → Prop} (hF : xFr cf D A M p s m args meth c) (hR : xRm R (d + 1) mc ms) : xR_icge cf M mc ms (xW cf D A M p l e R s m args below meth c Qm) := by
  obtain ⟨hx, hb, hml, hown, hnm, hts, hst, hok⟩ := hF
  intro pc lo st μ b x y off tgt hd ht k1 k2 H locs ls hSim hS hl
  exact lv_icmp_ge hx hb hd ht (fun h => k1 h H locs ls hSim hS hl) (fun h => k2 h H locs ls hSim hS hl)
theorem xs_ifgt {cf : xCf} {D : va_G} {A : Nat → Prop} {M : xMI} {mc ms d : Nat} {p : Program} {l : Launch} {e : Env} {R : Room} {s : State} {m : MethodId} {args : Array Value} {below : List Frame} {meth : Method} {c : Code} {Qm : State → Prop} (hF : xFr cf D A M p s m args meth c) (hR : xRm R (d + 1) mc ms) : xR_ifgt cf M mc ms (xW cf D A M p l e R s m args below meth c Qm) := by
  obtain ⟨hx, hb, hml, hown, hnm, hts, hst, hok⟩ := hF
  intro pc lo st μ b x off tgt hd ht k1 k2 H locs ls hSim hS hl
  exact lv_if_gt hx hb hd ht (fun h => k1 h H locs ls hSim hS hl) (fun h => k2 h H locs ls hSim hS hl)
theorem xs_icgt {cf : xCf} {D : va_G} {A : Nat → Prop} {M : xMI} {mc ms d : Nat} {p : Program} {l : Launch} {e : Env} {R : Room} {s : State} {m : MethodId} {args : Array Value} {below : List Frame} {meth : Method} {c : Code} {Qm : State → Prop} (hF : xFr cf D A M p s m args meth c) (hR : xRm R (d + 1) mc ms) : xR_icgt cf M mc ms (xW cf D A M p l e R s m args below meth c Qm) := by
  obtain ⟨hx, hb, hml, hown, hnm, hts, hst, hok⟩ := hF
  intro pc lo st μ b x y off tgt hd ht k1 k2 H locs ls hSim hS hl
  exact lv_icmp_gt hx hb hd ht (fun h => k1 h H locs ls hSim hS hl) (fun h => k2 h H locs ls hSim hS hl)
theorem xs_ifle {cf : xCf} {D : va_G} {A : Nat → Prop} {M : xMI} {mc ms d : Nat} {p : Program} {l : Launch} {e : Env} {R : Room} {s : State} {m : MethodId} {args : Array Value} {below : List Frame} {meth : Method} {c : Code} {Qm : State → Prop} (hF : xFr cf D A M p s m args meth c) (hR : xRm R (d + 1) mc ms) : xR_ifle cf M mc ms (xW cf D A M p l e R s m args below meth c Qm) := by
  obtain ⟨hx, hb, hml, hown, hnm, hts, hst, hok⟩ := hF
  intro pc lo st μ b x off tgt hd ht k1 k2 H locs ls hSim hS hl
  exact lv_if_le hx hb hd ht (fun h => k1 h H locs ls hSim hS hl) (fun h => k2 h H locs ls hSim hS hl)
theorem xs_icle {cf : xCf} {D : va_G} {A : Nat → Prop} {M : xMI} {mc ms d : Nat} {p : Program} {l : Launch} {e : Env} {R : Room} {s : State} {m : MethodId} {args : Array Value} {below : List Frame} {meth : Method} {c : Code} {Qm : State → Prop} (hF : xFr cf D A M p s m args meth c) (hR : xRm R (d + 1) mc ms) : xR_icle cf M mc ms (xW cf D A M p l e R s m args below meth c Qm) := by
  obtain ⟨hx, hb, hml, hown, hnm, hts, hst, hok⟩ := hF
  intro pc lo st μ b x y off tgt hd ht k1 k2 H locs ls hSim hS hl
  exact lv_icmp_le hx hb hd ht (fun h => k1 h H locs ls hSim hS hl) (fun h => k2 h H locs ls hSim hS hl)
theorem xs_goto {cf : xCf} {D : va_G} {A : Nat → Prop} {M : xMI} {mc ms d : Nat} {p : Program} {l : Launch} {e : Env} {R : Room} {s : State} {m : MethodId} {args : Array Value} {below : List Frame} {meth : Method} {c : Code} {Qm : State → Prop} (hF : xFr cf D A M p s m args meth c) (hR : xRm R (d + 1) mc ms) : xR_goto cf M mc ms (xW cf D A M p l e R s m args below meth c Qm) := by
  obtain ⟨hx, hb, hml, hown, hnm, hts, hst, hok⟩ := hF
  intro pc lo st μ b off tgt hd ht k H locs ls hSim hS hl
  exact lv_goto hx hb hd ht (k H locs ls hSim hS hl)
theorem xs_tin {cf : xCf} {D : va_G} {A : Nat → Prop} {M : xMI} {mc ms d : Nat} {p : Program} {l : Launch} {e : Env} {R : Room} {s : State} {m : MethodId} {args : Array Value} {below : List Frame} {meth : Method} {c : Code} {Qm : State → Prop} (hF : xFr cf D A M p s m args meth c) (hR : xRm R (d + 1) mc ms) : xR_tin cf M mc ms (xW cf D A M p l e R s m args below meth c Qm) := by
  obtain ⟨hx, hb, hml, hown, hnm, hts, hst, hok⟩ := hF
  intro pc lo st μ b x dflt lo0 hi0 offs n off tgt hd h1 h2 h3 ht k H locs ls hSim hS hl
  exact lv_tableIn hx hb hd h1 h2 h3 ht (k H locs ls hSim hS hl)
theorem xs_tout {cf : xCf} {D : va_G} {A : Nat → Prop} {M : xMI} {mc ms d : Nat} {p : Program} {l : Launch} {e : Env} {R : Room} {s : State} {m : MethodId} {args : Array Value} {below : List Frame} {meth : Method} {c : Code} {Qm : State → Prop} (hF : xFr cf D A M p s m args meth c) (hR : xRm R (d + 1) mc ms) : xR_tout cf M mc ms (xW cf D A M p l e R s m args below meth c Qm) := by
  obtain ⟨hx, hb, hml, hown, hnm, hts, hst, hok⟩ := hF
  intro pc lo st μ b x dflt lo0 hi0 offs n tgt hd h ht k H locs ls hSim hS hl
  exact lv_tableOut hx hb hd h ht (k H locs ls hSim hS hl)
theorem xs_look {cf : xCf} {D : va_G} {A : Nat → Prop} {M : xMI} {mc ms d : Nat} {p : Program} {l : Launch} {e : Env} {R : Room} {s : State} {m : MethodId} {args : Array Value} {below : List Frame} {meth : Method} {c : Code} {Qm : State → Prop} (hF : xFr cf D A M p s m args meth c) (hR : xRm R (d + 1) mc ms) : xR_look cf M mc ms (xW cf D A M p l e R s m args below meth c Qm) := by
  obtain ⟨hx, hb, hml, hown, hnm, hts, hst, hok⟩ := hF
  intro pc lo st μ b x dflt ps n off tgt hd h1 h2 ht k H locs ls hSim hS hl
  exact lv_lookup hx hb hd h1 h2 ht (k H locs ls hSim hS hl)
theorem xs_getf {cf : xCf} {D : va_G} {A : Nat → Prop} {M : xMI} {mc ms d : Nat} {p : Program} {l : Launch} {e : Env} {R : Room} {s : State} {m : MethodId} {args : Array Value} {below : List Frame} {meth : Method} {c : Code} {Qm : State → Prop} (hF : xFr cf D A M p s m args meth c) (hR : xRm R (d + 1) mc ms) : xR_getf cf M mc ms (xW cf D A M p l e R s m args below meth c Qm) := by
  obtain ⟨hx, hb, hml, hown, hnm, hts, hst, hok⟩ := hF
  intro pc lo st μ b i ci j a fs v hd hf ha hv k H locs ls hSim hS hl
  obtain ⟨q, hq, hj, hw⟩ := hf
  obtain ⟨k0, hk0⟩ := xSim_at hSim ha
  exact va_get (C := q.1) (T := q.2.1) (N := q.2.2) hx hb hts (hok.2.2 ci q hq).1 hown hst.1 (xSim_P hSim _) k0 hk0 hq j hj (hts _ hw) (fun _ z => z) hv hd (k H locs ls hSim hS hl)
theorem xs_getr {cf : xCf} {D : va_G} {A : Nat → Prop} {M : xMI} {mc ms d : Nat} {p : Program} {l : Launch} {e : Env} {R : Room} {s : State} {m : MethodId} {args : Array Value} {below : List Frame} {meth : Method} {c : Code} {Qm : State → Prop} (hF : xFr cf D A M p s m args meth c) (hR : xRm R (d + 1) mc ms) : xR_getr cf M mc ms (xW cf D A M p l e R s m args below meth c Qm) := by
  obtain ⟨hx, hb, hml, hown, hnm, hts, hst, hok⟩ := hF
  intro pc lo st μ b i a o n d v hd hw ha k H locs ls hSim hS hl
  exact vk_getf hx hb (hst.2.2.1.2.2.1 _ ha) hS hown (hts _ hw) (fun _ z => z) hd (k H locs ls hSim hS hl)
theorem xs_putf {cf : xCf} {D : va_G} {A : Nat → Prop} {M : xMI} {mc ms d : Nat} {p : Program} {l : Launch} {e : Env} {R : Room} {s : State} {m : MethodId} {args : Array Value} {below : List Frame} {meth : Method} {c : Code} {Qm : State → Prop} (hF : xFr cf D A M p s m args meth c) (hR : xRm R (d + 1) mc ms) : xR_putf cf M mc ms (xW cf D A M p l e R s m args below meth c Qm) := by
  obtain ⟨hx, hb, hml, hown, hnm, hts, hst, hok⟩ := hF
  intro pc lo st μ b i ci j a ty fs v hd hf hn hfit ha hlen k H locs ls hSim hS hl
  obtain ⟨q, hq, hj, hw, hfin, hty⟩ := hf
  obtain ⟨k0, hk0⟩ := xSim_at hSim ha
  obtain ⟨ty0, hty0⟩ := (hok.2.2 ci q hq).2.1
  exact va_put (C := q.1) (T := q.2.1) (N := q.2.2) hx hb hts (hok.2.2 ci q hq).1 ty0 hty0 (hok.2.2 ci q hq).2.2 hown hst.1 (xSim_P hSim _) (xSim_D hSim _) hS k0 hk0 hq j hj (hts _ hw) (fun _ z => z) hfin hty hn hfit hlen hd (fun H1 locs1 hP1 hD1 hS1 => k H1 locs1 ls (xSim_set hSim hk0 hP1) hS1 hl)
theorem xs_putF {cf : xCf} {D : va_G} {A : Nat → Prop} {M : xMI} {mc ms d : Nat} {p : Program} {l : Launch} {e : Env} {R : Room} {s : State} {m : MethodId} {args : Array Value} {below : List Frame} {meth : Method} {c : Code} {Qm : State → Prop} (hF : xFr cf D A M p s m args meth c) (hR : xRm R (d + 1) mc ms) : xR_putF cf M mc ms (xW cf D A M p l e R s m args below meth c Qm) := by
  obtain ⟨hx, hb, hml, hown, hnm, hts, hst, hok⟩ := hF
  intro pc lo st μ b i ci j a ty fs v hd hf hini hn hfit ha hlen k H locs ls hSim hS hl
  obtain ⟨q, hq, hj, hw, hfin, hdecl, hty⟩ := hf
  obtain ⟨k0, hk0⟩ := xSim_at hSim ha
  obtain ⟨ty0, hty0⟩ := (hok.2.2 ci q hq).2.1
  exact va_putF (C := q.1) (T := q.2.1) (N := q.2.2) hx hb hts (hok.2.2 ci q hq).1 ty0 hty0 (hok.2.2 ci q hq).2.2 hown hst.1 (xSim_P hSim _) (xSim_D hSim _) hS k0 hk0 hq j hj (hts _ hw) (fun _ z => z) hfin (hnm.trans hini) hdecl hty hn hfit hlen hd (fun H1 locs1 hP1 hD1 hS1 => k H1 locs1 ls (xSim_set hSim hk0 hP1) hS1 hl)
theorem xs_iald {cf : xCf} {D : va_G} {A : Nat → Prop} {M : xMI} {mc ms d : Nat} {p : Program} {l : Launch} {e : Env} {R : Room} {s : State} {m : MethodId} {args : Array Value} {below : List Frame} {meth : Method} {c : Code} {Qm : State → Prop} (hF : xFr cf D A M p s m args meth c) (hR : xRm R (d + 1) mc ms) : xR_iald cf M mc ms (xW cf D A M p l e R s m args below meth c Qm) := by
  obtain ⟨hx, hb, hml, hown, hnm, hts, hst, hok⟩ := hF
  intro pc lo st μ b t a n cA f i hd ht ha hi k H locs ls hSim hS hl
  obtain ⟨k0, hk0⟩ := xSim_at hSim ha
  exact va_iald hx hb hst.1 (xSim_P hSim _) k0 t hk0 ht hi hd (k H locs ls hSim hS hl)
theorem xs_lald {cf : xCf} {D : va_G} {A : Nat → Prop} {M : xMI} {mc ms d : Nat} {p : Program} {l : Launch} {e : Env} {R : Room} {s : State} {m : MethodId} {args : Array Value} {below : List Frame} {meth : Method} {c : Code} {Qm : State → Prop} (hF : xFr cf D A M p s m args meth c) (hR : xRm R (d + 1) mc ms) : xR_lald cf M mc ms (xW cf D A M p l e R s m args below meth c Qm) := by
  obtain ⟨hx, hb, hml, hown, hnm, hts, hst, hok⟩ := hF
  intro pc lo st μ b t a n cA f i hd ht ha hi k H locs ls hSim hS hl
  obtain ⟨k0, hk0⟩ := xSim_at hSim ha
  exact va_lald hx hb hst.1 (xSim_P hSim _) k0 t hk0 ht hi hd (k H locs ls hSim hS hl)
theorem xs_aald {cf : xCf} {D : va_G} {A : Nat → Prop} {M : xMI} {mc ms d : Nat} {p : Program} {l : Launch} {e : Env} {R : Room} {s : State} {m : MethodId} {args : Array Value} {below : List Frame} {meth : Method} {c : Code} {Qm : State → Prop} (hF : xFr cf D A M p s m args meth c) (hR : xRm R (d + 1) mc ms) : xR_aald cf M mc ms (xW cf D A M p l e R s m args below meth c Qm) := by
  obtain ⟨hx, hb, hml, hown, hnm, hts, hst, hok⟩ := hF
  intro pc lo st μ b t a n cA C f i hd ht ha hi k H locs ls hSim hS hl
  obtain ⟨k0, hk0⟩ := xSim_at hSim ha
  exact va_aldq hx hb hst.1 (xSim_P hSim _) k0 t hk0 ht hi hd (k H locs ls hSim hS hl)
theorem xs_ialr {cf : xCf} {D : va_G} {A : Nat → Prop} {M : xMI} {mc ms d : Nat} {p : Program} {l : Launch} {e : Env} {R : Room} {s : State} {m : MethodId} {args : Array Value} {below : List Frame} {meth : Method} {c : Code} {Qm : State → Prop} (hF : xFr cf D A M p s m args meth c) (hR : xRm R (d + 1) mc ms) : xR_ialr cf M mc ms (xW cf D A M p l e R s m args below meth c Qm) := by
  obtain ⟨hx, hb, hml, hown, hnm, hts, hst, hok⟩ := hF
  intro pc lo st μ b a n f i hd ha hi k H locs ls hSim hS hl
  exact va_ti hx hb (hst.2.2.1.1 _ ha) hS hi rfl hd (k H locs ls hSim hS hl)
theorem xs_balr {cf : xCf} {D : va_G} {A : Nat → Prop} {M : xMI} {mc ms d : Nat} {p : Program} {l : Launch} {e : Env} {R : Room} {s : State} {m : MethodId} {args : Array Value} {below : List Frame} {meth : Method} {c : Code} {Qm : State → Prop} (hF : xFr cf D A M p s m args meth c) (hR : xRm R (d + 1) mc ms) : xR_balr cf M mc ms (xW cf D A M p l e R s m args below meth c Qm) := by
  obtain ⟨hx, hb, hml, hown, hnm, hts, hst, hok⟩ := hF
  intro pc lo st μ b a n f i hd ha hi k H locs ls hSim hS hl
  exact va_tb hx hb (hst.2.2.1.1 _ ha) hS hi rfl hd (k H locs ls hSim hS hl)
theorem xs_iast {cf : xCf} {D : va_G} {A : Nat → Prop} {M : xMI} {mc ms d : Nat} {p : Program} {l : Launch} {e : Env} {R : Room} {s : State} {m : MethodId} {args : Array Value} {below : List Frame} {meth : Method} {c : Code} {Qm : State → Prop} (hF : xFr cf D A M p s m args meth c) (hR : xRm R (d + 1) mc ms) : xR_iast cf M mc ms (xW cf D A M p l e R s m args below meth c Qm) := by
  obtain ⟨hx, hb, hml, hown, hnm, hts, hst, hok⟩ := hF
  intro pc lo st μ b t a n cA f i x hd ht ha hi k H locs ls hSim hS hl
  obtain ⟨k0, hk0⟩ := xSim_at hSim ha
  exact va_iast hx hb hst.1 (xSim_P hSim _) (xSim_D hSim _) hS k0 t hk0 ht hi hd (fun H1 locs1 hP1 hD1 hS1 => k H1 locs1 ls (xSim_set hSim hk0 hP1) hS1 hl)
theorem xs_last {cf : xCf} {D : va_G} {A : Nat → Prop} {M : xMI} {mc ms d : Nat} {p : Program} {l : Launch} {e : Env} {R : Room} {s : State} {m : MethodId} {args : Array Value} {below : List Frame} {meth : Method} {c : Code} {Qm : State → Prop} (hF : xFr cf D A M p s m args meth c) (hR : xRm R (d + 1) mc ms) : xR_last cf M mc ms (xW cf D A M p l e R s m args below meth c Qm) := by
  obtain ⟨hx, hb, hml, hown, hnm, hts, hst, hok⟩ := hF
  intro pc lo st μ b t a n cA f i x hd ht ha hi k H locs ls hSim hS hl
  obtain ⟨k0, hk0⟩ := xSim_at hSim ha
  exact va_last hx hb hst.1 (xSim_P hSim _) (xSim_D hSim _) hS k0 t hk0 ht hi hd (fun H1 locs1 hP1 hD1 hS1 => k H1 locs1 ls (xSim_set hSim hk0 hP1) hS1 hl)
theorem xs_aast {cf : xCf} {D : va_G} {A : Nat → Prop} {M : xMI} {mc ms d : Nat} {p : Program} {l : Launch} {e : Env} {R : Room} {s : State} {m : MethodId} {args : Array Value} {below : List Frame} {meth : Method} {c : Code} {Qm : State → Prop} (hF : xFr cf D A M p s m args meth c) (hR : xRm R (d + 1) mc ms) : xR_aast cf M mc ms (xW cf D A M p l e R s m args below meth c Qm) := by
  obtain ⟨hx, hb, hml, hown, hnm, hts, hst, hok⟩ := hF
  intro pc lo st μ b t a n ci v cA r vs f i hd hc ht ha hv hi k H locs ls hSim hS hl
  obtain ⟨k0, hk0⟩ := xSim_at hSim ha
  obtain ⟨k1, hk1⟩ := xSim_at hSim hv
  exact va_astq hx hb hst.1 (xSim_P hSim _) (xSim_D hSim _) hS k0 t k1 ci hk0 ht hk1 hc hi hd (fun H1 locs1 hP1 hD1 hS1 => k H1 locs1 ls (xSim_set hSim hk0 hP1) hS1 hl)
theorem xs_alen {cf : xCf} {D : va_G} {A : Nat → Prop} {M : xMI} {mc ms d : Nat} {p : Program} {l : Launch} {e : Env} {R : Room} {s : State} {m : MethodId} {args : Array Value} {below : List Frame} {meth : Method} {c : Code} {Qm : State → Prop} (hF : xFr cf D A M p s m args meth c) (hR : xRm R (d + 1) mc ms) : xR_alen cf M mc ms (xW cf D A M p l e R s m args below meth c Qm) := by
  obtain ⟨hx, hb, hml, hown, hnm, hts, hst, hok⟩ := hF
  intro pc lo st μ b t a cA ty x hd ht ha k H locs ls hSim hS hl
  obtain ⟨k0, hk0⟩ := xSim_at hSim ha
  exact va_alen hx hb hst.1 (xSim_P hSim _) k0 t hk0 ht rfl hd (k H locs ls hSim hS hl)
theorem xs_alnr {cf : xCf} {D : va_G} {A : Nat → Prop} {M : xMI} {mc ms d : Nat} {p : Program} {l : Launch} {e : Env} {R : Room} {s : State} {m : MethodId} {args : Array Value} {below : List Frame} {meth : Method} {c : Code} {Qm : State → Prop} (hF : xFr cf D A M p s m args meth c) (hR : xRm R (d + 1) mc ms) : xR_alnr cf M mc ms (xW cf D A M p l e R s m args below meth c Qm) := by
  obtain ⟨hx, hb, hml, hown, hnm, hts, hst, hok⟩ := hF
  intro pc lo st μ b a n ty f hd ha k H locs ls hSim hS hl
  obtain ⟨cell, h1, h2, h3, h4, h5, h6, h7⟩ := (hst.2.2.1.1 _ ha).kept hS.2.1
  exact W.alen hx hb h1 h2 h5 rfl rfl hd (k H locs ls hSim hS hl)
theorem xs_newi {cf : xCf} {D : va_G} {A : Nat → Prop} {M : xMI} {mc ms d : Nat} {p : Program} {l : Launch} {e : Env} {R : Room} {s : State} {m : MethodId} {args : Array Value} {below : List Frame} {meth : Method} {c : Code} {Qm : State → Prop} (hF : xFr cf D A M p s m args meth c) (hR : xRm R (d + 1) mc ms) : xR_newi cf M mc ms (xW cf D A M p l e R s m args below meth c Qm) := by
  obtain ⟨hx, hb, hml, hown, hnm, hts, hst, hok⟩ := hF
  intro pc lo st μ b t N cA n hd hw ht hn hN hle hc hs k H locs ls hSim hS hl
  refine va_newa (atype := .int) (ty := .int) (a0 := (N, .inl (fun _ => 0))) hx hb (hts _ hw) rfl hst.1 (xSim_P hSim H.size) (xSim_D hSim H.size) hS hst.2.2.2 (fun cA => rfl) hn hN (by show N * 4 ≤ _; omega) (Nat.le_trans hc hR.2.2.1) (Nat.le_trans hs hR.2.2.2) hd (fun q cA2 H1 hK1 hP1 hD1 hS1 => ?_)
  have e1 := (hst.1.2 t _ ht).2
  have e2 := (hK1.2 cf.2.2.2.1.length (cA2, .int) (by simp)).2
  have e3 : cA2 = cA := Option.some.inj (e2.symm.trans e1)
  subst e3
  obtain ⟨h0, h1⟩ := xSim_new hSim hP1 hD1
  exact k q h0 H1 locs ls h1 hS1 hl
theorem xs_newl {cf : xCf} {D : va_G} {A : Nat → Prop} {M : xMI} {mc ms d : Nat} {p : Program} {l : Launch} {e : Env} {R : Room} {s : State} {m : MethodId} {args : Array Value} {below : List Frame} {meth : Method} {c : Code} {Qm : State → Prop} (hF : xFr cf D A M p s m args meth c) (hR : xRm R (d + 1) mc ms) : xR_newl cf M mc ms (xW cf D A M p l e R s m args below meth c Qm) := by
  obtain ⟨hx, hb, hml, hown, hnm, hts, hst, hok⟩ := hF
  intro pc lo st μ b t N cA n hd hw ht hn hN hle hc hs k H locs ls hSim hS hl
  refine va_newa (atype := .long) (ty := .long) (a0 := (N, .inr (.inl (fun _ => 0)))) hx hb (hts _ hw) rfl hst.1 (xSim_P hSim H.size) (xSim_D hSim H.size) hS hst.2.2.2 (fun cA => rfl) hn hN (by show N * 8 ≤ _; omega) (Nat.le_trans hc hR.2.2.1) (Nat.le_trans hs hR.2.2.2) hd (fun q cA2 H1 hK1 hP1 hD1 hS1 => ?_)
  have e1 := (hst.1.2 t _ ht).2
  have e2 := (hK1.2 cf.2.2.2.1.length (cA2, .long) (by simp)).2
  have e3 : cA2 = cA := Option.some.inj (e2.symm.trans e1)
  subst e3
  obtain ⟨h0, h1⟩ := xSim_new hSim hP1 hD1
  exact k q h0 H1 locs ls h1 hS1 hl
theorem xs_newq {cf : xCf} {D : va_G} {A : Nat → Prop} {M : xMI} {mc ms d : Nat} {p : Program} {l : Launch} {e : Env} {R : Room} {s : State} {m : MethodId} {args : Array Value} {below : List Frame} {meth : Method} {c : Code} {Qm : State → Prop} (hF : xFr cf D A M p s m args meth c) (hR : xRm R (d + 1) mc ms) : xR_newq cf M mc ms (xW cf D A M p l e R s m args below meth c Qm) := by
  obtain ⟨hx, hb, hml, hown, hnm, hts, hst, hok⟩ := hF
  intro pc lo st μ b t N i cA C n hd hw hv ht hn hN hle hc hs k H locs ls hSim hS hl
  refine va_newq hx hb hown (hts _ hw) (hst.2.1 _ hv) hst.1 (xSim_P hSim H.size) (xSim_D hSim H.size) hS hst.2.2.2 hn hN (by omega) (Nat.le_trans hc hR.2.2.1) (Nat.le_trans hs hR.2.2.2) hd (fun q cA2 H1 hK1 hP1 hD1 hS1 => ?_)
  obtain ⟨_, _, -, -, -, e1⟩ := (hst.1.2 t _ ht).2
  obtain ⟨_, _, -, -, -, e2⟩ := (hK1.2 cf.2.2.2.1.length (cA2, .object C) (by simp)).2
  have e3 : cA2 = cA := Option.some.inj (e2.symm.trans e1)
  subst e3
  obtain ⟨h0, h1⟩ := xSim_new hSim hP1 hD1
  exact k q h0 H1 locs ls h1 hS1 hl
theorem xs_new {cf : xCf} {D : va_G} {A : Nat → Prop} {M : xMI} {mc ms d : Nat} {p : Program} {l : Launch} {e : Env} {R : Room} {s : State} {m : MethodId} {args : Array Value} {below : List Frame} {meth : Method} {c : Code} {Qm : State → Prop} (hF : xFr cf D A M p s m args meth c) (hR : xRm R (d + 1) mc ms) : xR_new cf M mc ms (xW cf D A M p l e R s m args below meth c Qm) := by
  obtain ⟨hx, hb, hml, hown, hnm, hts, hst, hok⟩ := hF
  intro pc lo st μ b i ci q ty fs hd h1 h2 h3 hq hty hfs hc hs k H locs ls hSim hS hl
  refine va_new (ci := ci) (fs := fs) (C := q.1) (T := q.2.1) (N := q.2.2) hx hb hts (hok.2.2 ci q hq).1 ty hty hown (hts _ h1) (hts _ h2) (hts _ h3) hst.1 (xSim_P hSim H.size) (xSim_D hSim H.size) hS hst.2.2.2 hq hfs (Nat.le_trans hc hR.2.2.1) (Nat.le_trans hs hR.2.2.2) hd (fun a H1 hP1 hD1 hS1 => ?_)
  obtain ⟨h0, h4⟩ := xSim_new hSim hP1 hD1
  exact k a h0 H1 locs ls h4 hS1 hl
theorem xs_obj {cf : xCf} {D : va_G} {A : Nat → Prop} {M : xMI} {mc ms d : Nat} {p : Program} {l : Launch} {e : Env} {R : Room} {s : State} {m : MethodId} {args : Array Value} {below : List Frame} {meth : Method} {c : Code} {Qm : State → Prop} (hF : xFr cf D A M p s m args meth c) (hR : xRm R (d + 1) mc ms) : xR_obj cf M mc ms (xW cf D A M p l e R s m args below meth c Qm) := by
  obtain ⟨hx, hb, hml, hown, hnm, hts, hst, hok⟩ := hF
  intro pc lo st μ b i a hd h1 h2 h3 hW k H locs ls hSim hS hl
  refine W.objInit hx hb hown (hts _ h1) (hts _ h2) (hts _ h3) (g := F0 m pc ls (.ref a :: st)) rfl (by rw [hml]; exact hl.1) rfl hd (by have := hR.1; omega) (by have := hR.2.1; show 2 * 0 + _ + _ ≤ _; omega) ?_
  exact W.eq (g2 := F0 m (pc + 3) ls st) rfl (k H locs ls hSim hS hl)
theorem xs_gets {cf : xCf} {D : va_G} {A : Nat → Prop} {M : xMI} {mc ms d : Nat} {p : Program} {l : Launch} {e : Env} {R : Room} {s : State} {m : MethodId} {args : Array Value} {below : List Frame} {meth : Method} {c : Code} {Qm : State → Prop} (hF : xFr cf D A M p s m args meth c) (hR : xRm R (d + 1) mc ms) : xR_gets cf M mc ms (xW cf D A M p l e R s m args below meth c Qm) := by
  obtain ⟨hx, hb, hml, hown, hnm, hts, hst, hok⟩ := hF
  intro pc lo st μ b i C n d v hd hw hv k H locs ls hSim hS hl
  exact va_gets hx hb (hst.2.2.1.2.2.2.1 _ hv) hS hown (hts _ hw) (fun _ z => z) hd (k H locs ls hSim hS hl)
theorem xs_getsN {cf : xCf} {D : va_G} {A : Nat → Prop} {M : xMI} {mc ms d : Nat} {p : Program} {l : Launch} {e : Env} {R : Room} {s : State} {m : MethodId} {args : Array Value} {below : List Frame} {meth : Method} {c : Code} {Qm : State → Prop} (hF : xFr cf D A M p s m args meth c) (hR : xRm R (d + 1) mc ms) : xR_getsN cf M mc ms (xW cf D A M p l e R s m args below meth c Qm) := by
  obtain ⟨hx, hb, hml, hown, hnm, hts, hst, hok⟩ := hF
  intro pc lo st μ b i C n d h v hd hw hv k H locs ls hSim hS hl
  exact va_getsN hx hb (hst.2.2.1.2.2.2.1 _ hv) hS hown (va_Nw.use rfl (hst.2.1 _ hw)) (fun _ z => z) hd (k H locs ls hSim hS hl)
theorem xs_cpyi {cf : xCf} {D : va_G} {A : Nat → Prop} {M : xMI} {mc ms d : Nat} {p : Program} {l : Launch} {e : Env} {R : Room} {s : State} {m : MethodId} {args : Array Value} {below : List Frame} {meth : Method} {c : Code} {Qm : State → Prop} (hF : xFr cf D A M p s m args meth c) (hR : xRm R (d + 1) mc ms) : xR_cpyi cf M mc ms (xW cf D A M p l e R s m args below meth c Qm) := by
  obtain ⟨hx, hb, hml, hown, hnm, hts, hst, hok⟩ := hF
  intro pc lo st μ b i t a0 a n0 n1 cA f g sp dp n hd hw hW ht ha0 ha h1 h2 h3 h4 h5 k H locs ls hSim hS hl
  obtain ⟨k0, hk0⟩ := xSim_at hSim ha0
  obtain ⟨k1, hk1⟩ := xSim_at hSim ha
  exact va_copyi hx hb (hml.trans hl.1.symm) hown (hts _ hw.1) (hts _ hw.2.1) (hts _ hw.2.2.1) (hts _ hw.2.2.2) hst.1 (xSim_P hSim _) (xSim_D hSim _) hS k0 k1 t t hk0 hk1 ht ht rfl h1 h2 h3 h4 h5 (fun _ _ => rfl) (by have := hR.1; omega) (by have := hR.2.1; show _ + (7 + 11) ≤ _; omega) hd (fun H1 locs1 hP1 hD1 hS1 => k H1 locs1 ls (xSim_set hSim hk1 hP1) hS1 hl)
theorem xs_cpyl {cf : xCf} {D : va_G} {A : Nat → Prop} {M : xMI} {mc ms d : Nat} {p : Program} {l : Launch} {e : Env} {R : Room} {s : State} {m : MethodId} {args : Array Value} {below : List Frame} {meth : Method} {c : Code} {Qm : State → Prop} (hF : xFr cf D A M p s m args meth c) (hR : xRm R (d + 1) mc ms) : xR_cpyl cf M mc ms (xW cf D A M p l e R s m args below meth c Qm) := by
  obtain ⟨hx, hb, hml, hown, hnm, hts, hst, hok⟩ := hF
  intro pc lo st μ b i t a0 a n0 n1 cA f g sp dp n hd hw hW ht ha0 ha h1 h2 h3 h4 h5 k H locs ls hSim hS hl
  obtain ⟨k0, hk0⟩ := xSim_at hSim ha0
  obtain ⟨k1, hk1⟩ := xSim_at hSim ha
  exact va_copyl hx hb (hml.trans hl.1.symm) hown (hts _ hw.1) (hts _ hw.2.1) (hts _ hw.2.2.1) (hts _ hw.2.2.2) hst.1 (xSim_P hSim _) (xSim_D hSim _) hS k0 k1 t t hk0 hk1 ht ht rfl h1 h2 h3 h4 h5 (fun _ _ => rfl) (by have := hR.1; omega) (by have := hR.2.1; show _ + (7 + 11) ≤ _; omega) hd (fun H1 locs1 hP1 hD1 hS1 => k H1 locs1 ls (xSim_set hSim hk1 hP1) hS1 hl)
theorem xs_cpyr {cf : xCf} {D : va_G} {A : Nat → Prop} {M : xMI} {mc ms d : Nat} {p : Program} {l : Launch} {e : Env} {R : Room} {s : State} {m : MethodId} {args : Array Value} {below : List Frame} {meth : Method} {c : Code} {Qm : State → Prop} (hF : xFr cf D A M p s m args meth c) (hR : xRm R (d + 1) mc ms) : xR_cpyr cf M mc ms (xW cf D A M p l e R s m args below meth c Qm) := by
  obtain ⟨hx, hb, hml, hown, hnm, hts, hst, hok⟩ := hF
  intro pc lo st μ b i t a0 a n0 n1 cA f g sp dp n hd hw hW ht ha0 ha h1 h2 h3 h4 h5 k H locs ls hSim hS hl
  obtain ⟨k1, hk1⟩ := xSim_at hSim ha
  exact x_copyr hx hb (hml.trans hl.1.symm) hown (hts _ hw.1) (hts _ hw.2.1) (hts _ hw.2.2.1) (hts _ hw.2.2.2) hst.1 (xSim_P hSim _) (xSim_D hSim _) hS (hst.2.2.1.1 _ ha0) k1 t hk1 ht h1 h2 h3 h4 h5 (by have := hR.1; omega) (by have := hR.2.1; show _ + (7 + 11) ≤ _; omega) hd (fun H1 locs1 hP1 hD1 hS1 => k H1 locs1 ls (xSim_set hSim hk1 hP1) hS1 hl)
theorem xs_mabs {cf : xCf} {D : va_G} {A : Nat → Prop} {M : xMI} {mc ms d : Nat} {p : Program} {l : Launch} {e : Env} {R : Room} {s : State} {m : MethodId} {args : Array Value} {below : List Frame} {meth : Method} {c : Code} {Qm : State → Prop} (hF : xFr cf D A M p s m args meth c) (hR : xRm R (d + 1) mc ms) : xR_mabs cf M mc ms (xW cf D A M p l e R s m args below meth c Qm) := by
  obtain ⟨hx, hb, hml, hown, hnm, hts, hst, hok⟩ := hF
  intro pc lo st μ b i x hd hw hW hc hs k H locs ls hSim hS hl
  exact va_mabs hx hb (hml.trans hl.1.symm) hown (hts _ hw.1) (hts _ hw.2.1) (hts _ hw.2.2.1) (hts _ hw.2.2.2) (by have := hR.1; omega) (by have := hR.2.1; omega) (Nat.le_trans hc hR.2.2.1) (Nat.le_trans hs hR.2.2.2) hd (k H locs ls hSim hS hl)
theorem xs_mmax {cf : xCf} {D : va_G} {A : Nat → Prop} {M : xMI} {mc ms d : Nat} {p : Program} {l : Launch} {e : Env} {R : Room} {s : State} {m : MethodId} {args : Array Value} {below : List Frame} {meth : Method} {c : Code} {Qm : State → Prop} (hF : xFr cf D A M p s m args meth c) (hR : xRm R (d + 1) mc ms) : xR_mmax cf M mc ms (xW cf D A M p l e R s m args below meth c Qm) := by
  obtain ⟨hx, hb, hml, hown, hnm, hts, hst, hok⟩ := hF
  intro pc lo st μ b i x y hd hw hW hc hs k H locs ls hSim hS hl
  exact va_mmax hx hb (hml.trans hl.1.symm) hown (hts _ hw.1) (hts _ hw.2.1) (hts _ hw.2.2.1) (hts _ hw.2.2.2) (by have := hR.1; omega) (by have := hR.2.1; omega) (Nat.le_trans hc hR.2.2.1) (Nat.le_trans hs hR.2.2.2) hd (k H locs ls hSim hS hl)
theorem xs_mmin {cf : xCf} {D : va_G} {A : Nat → Prop} {M : xMI} {mc ms d : Nat} {p : Program} {l : Launch} {e : Env} {R : Room} {s : State} {m : MethodId} {args : Array Value} {below : List Frame} {meth : Method} {c : Code} {Qm : State → Prop} (hF : xFr cf D A M p s m args meth c) (hR : xRm R (d + 1) mc ms) : xR_mmin cf M mc ms (xW cf D A M p l e R s m args below meth c Qm) := by
  obtain ⟨hx, hb, hml, hown, hnm, hts, hst, hok⟩ := hF
  intro pc lo st μ b i x y hd hw hW hc hs k H locs ls hSim hS hl
  exact va_mmin hx hb (hml.trans hl.1.symm) hown (hts _ hw.1) (hts _ hw.2.1) (hts _ hw.2.2.1) (hts _ hw.2.2.2) (by have := hR.1; omega) (by have := hR.2.1; omega) (Nat.le_trans hc hR.2.2.1) (Nat.le_trans hs hR.2.2.2) hd (k H locs ls hSim hS hl)
theorem xs_rules {cf : xCf} {D : va_G} {A : Nat → Prop} {M : xMI} {mc ms d : Nat} {p : Program} {l : Launch} {e : Env} {R : Room} {s : State} {m : MethodId} {args : Array Value} {below : List Frame} {meth : Method} {c : Code} {Qm : State → Prop} (hF : xFr cf D A M p s m args meth c) (hR : xRm R (d + 1) mc ms) : xRules cf M mc ms (xW cf D A M p l e R s m args below meth c Qm) := ⟨xs_stk hF hR, xs_div hF hR, xs_rem hF hR, xs_ldiv hF hR, xs_ldc hF hR, xs_ldcw hF hR, xs_ldc2 hF hR, xs_ldcs hF hR, xs_iloadN hF hR, xs_iload hF hR, xs_lloadN hF hR, xs_lload hF hR, xs_aloadN hF hR, xs_aload hF hR, xs_istoreN hF hR, xs_istore hF hR, xs_astoreN hF hR, xs_astore hF hR, xs_lstoreN hF hR, xs_lstore hF hR, xs_iinc hF hR, xs_ifeq hF hR, xs_iceq hF hR, xs_ifne hF hR, xs_icne hF hR, xs_iflt hF hR, xs_iclt hF hR, xs_ifge hF hR, xs_icge hF hR, xs_ifgt hF hR, xs_icgt hF hR, xs_ifle hF hR, xs_icle hF hR, xs_goto hF hR, xs_tin hF hR, xs_tout hF hR, xs_look hF hR, xs_getf hF hR, xs_getr hF hR, xs_putf hF hR, xs_putF hF hR, xs_iald hF hR, xs_lald hF hR, xs_aald hF hR, xs_ialr hF hR, xs_balr hF hR, xs_iast hF hR, xs_last hF hR, xs_aast hF hR, xs_alen hF hR, xs_alnr hF hR, xs_newi hF hR, xs_newl hF hR, xs_newq hF hR, xs_new hF hR, xs_obj hF hR, xs_gets hF hR, xs_getsN hF hR, xs_cpyi hF hR, xs_cpyl hF hR, xs_cpyr hF hR, xs_mabs hF hR, xs_mmax hF hR, xs_mmin hF hR⟩
/-- a method's words; its room at depth d; its end -/
def xws (cf : xCf) (M : xMI) : List Cond := .code M.1 M.2.1 M.2.2.1 M.2.2.2 :: cf.1
def xrm (d mc ms : Nat) : Room := { frames := d, cells := mc, slots := ms, locals := 64 * d }
def xPc (cf : xCf) (D : va_G) (A : Nat → Prop) (vs : List Value) (μ : xMem) : Array Value → State → Prop := va_Pc vs (fun U => xSim cf D A μ U.heap ∧ xSt cf D A U)
def xQc (cf : xCf) (D : va_G) (A : Nat → Prop) (Q : xQ) : Array Value → State → Outcome → State → Prop := fun _ st o t => ∃ (r : Option Value) (μ : xMem), o = .returned r ∧ Q r μ ∧ xSim cf D A μ t.heap ∧ va_F A st t
theorem xPc_blind {cf : xCf} (hok : xOK cf) {D : va_G} {A : Nat → Prop} {vs : List Value} {μ : xMem} : FrameBlind (xPc cf D A vs μ) := by
  intro a U g mk h
  exact ⟨h.1, h.2.1, xSt_blind hok h.2.2 rfl rfl⟩
theorem xGood {cf : xCf} (hok : xOK cf) {N : xMI} {n : Nat} (h : xCm cf N n) : GoodIn cf.1 (xws cf N) := by
  intro w hw
  rcases List.mem_cons.mp hw with rfl | hw
  · exact ⟨h.2.1, hok.1 _ h.2.1⟩
  · exact ⟨hw, hok.1 _ hw⟩
/-- behind a call -/
theorem xs_back {cf : xCf} {D : va_G} {A : Nat → Prop} {M : xMI} {p : Program} {l : Launch} {e : Env} {R : Room} {s : State} {m : MethodId} {args : Array Value} {below : List Frame} {meth : Method} {c : Code} {Qm : State → Prop} {H : Heap} {locs : List Loc} {b : Nat × Nat} {mc2 ms2 pc : Nat} {ls : Array Slot} {lo : xLoc} {st0 rest : List Value} {as : Array Value}
    (hr : va_Run p l e R s m args below meth c H locs b.1 b.2 mc2 ms2 (F0 m pc ls st0) rest (xQc cf D A (fun r μ2 => xW cf D A M p l e R s m args below meth c Qm (pc + 3) lo (r.toList ++ rest) μ2 (b.1 + mc2, b.2 + ms2)) as) A)
    (hS : va_S A s.heap H locs) (hl : x_has ls M.2.2.1 lo) : W p l e R s m args below meth c H locs b.1 b.2 Qm (F0 m pc ls st0) := by
  intro T hT X
  obtain ⟨v, st₀, t, T', L, h0, X', hL, e1, e2, ⟨r, μ2, hv, hq, hsim, hz, hk⟩, st⟩ := hr T hT X
  cases hv
  rw [h0] at hz hk
  obtain ⟨t2, a1, b1⟩ := hq T'.heap (locs ++ L) ls (by rw [e1]; exact hsim) ⟨Nat.le_trans hS.1 (by rw [e1]; exact hz), fun q h1 h2 => by rw [e1, hk q (Nat.lt_of_lt_of_le h1 hS.1) h2]; exact hS.2.1 q h1 h2, fun q hq => by
      rcases List.mem_append.mp hq with h | h
      · exact hS.2.2 q h
      · exact hL q h⟩ hl T' rfl X'
  exact ⟨t2, st t2 a1, b1⟩
/-- what is needed of the callees -/
def xMet (cf : xCf) (D : va_G) (A : Nat → Prop) (l : Launch) (d : Nat) : Prop := ∀ (M : xMI) (mc ms : Nat) (Q : xQ) (vs : List Value) (μ : xMem), plainName M.1.cls = true → (lg_sl vs).length ≤ M.2.2.1 → Ex cf d M mc ms Q 0 (xbeg M.2.2.1 vs) [] μ (0, 0) → Met l M.1 (xws cf M) (xrm d mc ms) (xPc cf D A vs μ) (xQc cf D A Q) mc ms A
theorem xRv_at {cf : xCf} {D : va_G} {A : Nat → Prop} {s : State} {H : Heap} {locs : List Loc} {μ : xMem} {a : Nat} {C : String} (hst : xSt cf D A s) (hSim : xSim cf D A μ H) (hS : va_S A s.heap H locs) (h : xRv cf μ a C) : ∃ cell : Cell, H[a]? = some cell ∧ cell.vm.isStatics = false ∧ s.vm.findClass C = some cell.cls := by
  rcases h with ⟨ci, fs, q, h1, h2, h3⟩ | h
  · obtain ⟨k0, hk0⟩ := xSim_at hSim h1
    rw [← h3]
    exact va_recv hst.1 (xSim_P hSim _) h2 hk0
  · obtain ⟨cell, h1, h2, h3, -⟩ := (hst.2.2.1.2.1 _ h).kept hS.2.1
    exact ⟨cell, h1, h2, h3⟩
theorem xs_callb {cf : xCf} {N : xMI} {n i mc2 ms2 d mc ms : Nat} {R : Room} {s : State} {args : Array Value} {own : String} (hok : xOK cf) (hts : ∀ w ∈ cf.1, w.before args s = true) (h : xCm cf N n) (hl : Cond.methodLink own i N.1 ∈ cf.1) (hR : xRm R (d + 1) mc ms) : CallB R s args own i N.1 N.2.1 N.2.2.1 N.2.2.2 (xws cf N) (xrm d mc2 ms2) mc2 ms2 n :=
  callB_of n hts (xGood hok h) rfl rfl rfl (hts _ h.1) (hts _ hl) h.2.2.1 ⟨hR.1, by have := hR.2.1; have := h.2.2.2.1; show 8 + (N.2.2.1 + 11) + 64 * d ≤ R.locals; omega⟩
theorem xs_C_v {cf : xCf} {D : va_G} {A : Nat → Prop} {M : xMI} {mc ms d : Nat} {p : Program} {l : Launch} {e : Env} {R : Room} {s : State} {m : MethodId} {args : Array Value} {below : List Frame} {meth : Method} {c : Code} {Qm : State → Prop} (hF : xFr cf D A M p s m args meth c) (hR : xRm R (d + 1) mc ms) (ih : xMet cf D A l d) : xC_v cf (Ex cf d) M mc ms (xW cf D A M p l e R s m args below meth c Qm) := by
  obtain ⟨hx, hb, hml, hown, hnm, hts, hst, hok⟩ := hF
  intro pc lo rest As μ b i n a mc2 ms2 N hd hc hn hrv hW h1 h2 hlen k H locs ls hSim hS hl
  have hM := ih N mc2 ms2 _ (.ref a :: As) μ hc.1.2.2.2.2 hlen k
  exact xs_back (va_runV ⟨hx, hb, hml, hown, hts⟩ hM ⟨xs_callb hok hts hc.1 hc.2.1 hR, hts _ hc.2.2.1, hts _ hc.2.2.2⟩ ⟨xPc_blind hok, xRv_at hst hSim hS hrv, fun U hU hWm => ⟨rfl, by rw [hU]; exact hSim, xSt_warm hok hst hS hU hWm⟩⟩ rfl hn hl.1 rfl (lv_room hW) hd ⟨Nat.le_trans h1 hR.2.2.1, Nat.le_trans h2 hR.2.2.2⟩) hS hl
theorem xs_C_s {cf : xCf} {D : va_G} {A : Nat → Prop} {M : xMI} {mc ms d : Nat} {p : Program} {l : Launch} {e : Env} {R : Room} {s : State} {m : MethodId} {args : Array Value} {below : List Frame} {meth : Method} {c : Code} {Qm : State → Prop} (hF : xFr cf D A M p s m args meth c) (hR : xRm R (d + 1) mc ms) (ih : xMet cf D A l d) : xC_s cf (Ex cf d) M mc ms (xW cf D A M p l e R s m args below meth c Qm) := by
  obtain ⟨hx, hb, hml, hown, hnm, hts, hst, hok⟩ := hF
  intro pc lo rest As μ b i n mc2 ms2 N hd hc hn hW h1 h2 hlen k H locs ls hSim hS hl
  rcases hc with hc | ⟨h, hc⟩
  · have hM := ih N mc2 ms2 _ As μ hc.1.2.2.2.2 hlen k
    exact xs_back (va_runS ⟨hx, hb, hml, hown, hts⟩ hM ⟨xs_callb hok hts hc.1 hc.2.1 hR, hts _ hc.2.2⟩ ⟨xPc_blind hok, fun U hU hWm => ⟨rfl, by rw [hU]; exact hSim, xSt_warm hok hst hS hU hWm⟩⟩ rfl hn hl.1 rfl (lv_room hW) hd ⟨Nat.le_trans h1 hR.2.2.1, Nat.le_trans h2 hR.2.2.2⟩) hS hl
  · have hM := ih N mc2 ms2 _ As μ hc.1.2.2.2.2 hlen k
    exact xs_back (va_runSN ⟨hx, hb, hml, hown, hts⟩ hM ⟨va_cnB n hts (xGood hok hc.1) rfl rfl rfl (hst.2.1 _ hc.2.1) (hts _ hc.1.1) hc.1.2.2.1 ⟨hR.1, by have := hR.2.1; have := hc.1.2.2.2.1; show 8 + (N.2.2.1 + 11) + 64 * d ≤ R.locals; omega⟩, hts _ hc.2.2, trivial⟩ ⟨xPc_blind hok, fun U hU hWm => ⟨rfl, by rw [hU]; exact hSim, xSt_warm hok hst hS hU hWm⟩⟩ rfl hn hl.1 rfl (lv_room hW) hd ⟨Nat.le_trans h1 hR.2.2.1, Nat.le_trans h2 hR.2.2.2⟩) hS hl
theorem xs_C_i {cf : xCf} {D : va_G} {A : Nat → Prop} {M : xMI} {mc ms d : Nat} {p : Program} {l : Launch} {e : Env} {R : Room} {s : State} {m : MethodId} {args : Array Value} {below : List Frame} {meth : Method} {c : Code} {Qm : State → Prop} (hF : xFr cf D A M p s m args meth c) (hR : xRm R (d + 1) mc ms) (ih : xMet cf D A l d) : xC_i cf (Ex cf d) M mc ms (xW cf D A M p l e R s m args below meth c Qm) := by
  obtain ⟨hx, hb, hml, hown, hnm, hts, hst, hok⟩ := hF
  intro pc lo rest As μ b i n a mc2 ms2 N hd hc hn hW h1 h2 hlen k H locs ls hSim hS hl
  rcases hc with hc | ⟨h, hc⟩
  · have hM := ih N mc2 ms2 _ (.ref a :: As) μ hc.1.2.2.2.2 hlen k
    obtain ⟨y, bs, mL, rt⟩ := N
    obtain ⟨hc1, hc2, hc3, hc4, hc5⟩ := hc
    cases hc5
    exact xs_back (va_runI ⟨hx, hb, hml, hown, hts⟩ hM ⟨xs_callb hok hts hc1 hc2 hR, hc4, hts _ hc3⟩ ⟨xPc_blind hok, fun U hU hWm => ⟨rfl, by rw [hU]; exact hSim, xSt_warm hok hst hS hU hWm⟩⟩ rfl hn hl.1 rfl (lv_room hW) hd ⟨Nat.le_trans h1 hR.2.2.1, Nat.le_trans h2 hR.2.2.2⟩) hS hl
  · have hM := ih N mc2 ms2 _ (.ref a :: As) μ hc.1.2.2.2.2 hlen k
    obtain ⟨y, bs, mL, rt⟩ := N
    obtain ⟨hc1, hc2, hc3, hc4, hc5⟩ := hc
    cases hc5
    exact xs_back (va_runIN ⟨hx, hb, hml, hown, hts⟩ hM ⟨va_cnB n hts (xGood hok hc1) rfl rfl rfl (hst.2.1 _ hc2) (hts _ hc1.1) hc1.2.2.1 ⟨hR.1, by have := hR.2.1; have h45 : mL ≤ 45 := hc1.2.2.2.1; show 8 + (mL + 11) + 64 * d ≤ R.locals; omega⟩, hc4, hts _ hc3⟩ ⟨xPc_blind hok, fun U hU hWm => ⟨rfl, by rw [hU]; exact hSim, xSt_warm hok hst hS hU hWm⟩⟩ rfl hn hl.1 rfl (lv_room hW) hd ⟨Nat.le_trans h1 hR.2.2.1, Nat.le_trans h2 hR.2.2.2⟩) hS hl
/-- a method's answers -/
theorem xs_rets {cf : xCf} {D : va_G} {A : Nat → Prop} {M : xMI} {mc ms d : Nat} {p : Program} {l : Launch} {e : Env} {R : Room} {s : State} {m : MethodId} {args : Array Value} {below : List Frame} {meth : Method} {c : Code} {Q : xQ} (hF : xFr cf D A M p s m args meth c) (hR : xRm R (d + 1) mc ms) (hr : meth.sig.returnType = M.2.2.2) (hlocks : meth.locks = false) : xRets M mc ms Q (xW cf D A M p l e R s m args below meth c (MQ below (xQc cf D A Q) args s mc ms A)) := by
  obtain ⟨hx, hb, hml, hown, hnm, hts, hst, hok⟩ := hF
  refine ⟨?_, ?_, ?_, ?_⟩
  · intro pc lo μ b ty v hd h1 h2 h3 h4 hQ H locs ls hSim hS hl
    refine W.widen h3 h4 ?_
    exact W.zret hx hb (hr.trans h1) h2 (fun t ht hW => ⟨_, μ, rfl, hQ, by rw [ht]; exact hSim, hS.F ht⟩) hS.2.2 hd
  · intro pc lo μ b v hd h1 h3 h4 hQ H locs ls hSim hS hl
    refine W.widen h3 h4 ?_
    exact W.lret hx hb (hr.trans h1) (fun t ht hW => ⟨_, μ, rfl, hQ, by rw [ht]; exact hSim, hS.F ht⟩) hS.2.2 hd
  · intro pc lo μ b C v hd h1 h3 h4 hQ H locs ls hSim hS hl
    refine W.widen h3 h4 ?_
    exact W.aret hx hb (hr.trans h1) (Or.inl ⟨C, rfl⟩) (Or.inr ⟨v, rfl⟩) (fun t ht hW => ⟨_, μ, rfl, hQ, by rw [ht]; exact hSim, hS.F ht⟩) hS.2.2 hd
  · intro pc lo μ b hd h1 h3 h4 hQ H locs ls hSim hS hl
    refine W.widen h3 h4 ?_
    exact W.vret hx hb (hr.trans h1) (fun t ht hW => ⟨_, μ, rfl, hQ, by rw [ht]; exact hSim, hS.F ht⟩) hS.2.2 hd
/-- EVERY METHOD THAT Ex TELLS OF: its contract -/
theorem x_met {cf : xCf} (hok : xOK cf) (D : va_G) (A : Nat → Prop) (l : Launch) : ∀ d, xMet cf D A l d := by
  intro d
  induction d with
  | zero => intro M mc ms Q vs μ _ _ h; exact h.elim
  | succ d ih =>
    intro M mc ms Q vs μ hy hlen hE
    refine Met.ofW (cc := M.2.1) (maxL := M.2.2.1) (ret := M.2.2.2) hy rfl ?_
    intro p e s m args below meth c s₁ B hml hv
    obtain ⟨rfl, hSim, hst⟩ := hv
    have hts := atoms_spec (ws := xws cf M) B.pre
    have hF : xFr cf D A M p s m vs.toArray meth c := ⟨B.exec, B.bytes, hml, findClass_of_methodNamed B.named, (name_of_methodNamed B.named B.method).1, fun w hw => hts w (List.mem_cons_of_mem _ hw), hst, hok⟩
    have hR : xRm (headSpec (xws cf M) (xrm (d + 1) mc ms)).room (d + 1) mc ms := ⟨Nat.le_refl _, Nat.le_refl _, Nat.le_refl _, Nat.le_refl _⟩
    have key := hE (xW cf D A M p l e (headSpec (xws cf M) (xrm (d + 1) mc ms)).room s m vs.toArray below meth c (MQ below (xQc cf D A Q) vs.toArray s mc ms A)) (xs_rules hF hR) (xs_rets (d := d) hF hR B.returns B.notSynchronized) ⟨xs_C_v hF hR ih, xs_C_s hF hR ih, xs_C_i hF hR ih⟩
    rw [lg_entry_eq]
    exact key s.heap [] _ hSim va_S.rf (xbeg_has hlen)
