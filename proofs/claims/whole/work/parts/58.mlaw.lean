/-! one law of the model -/
def ML (c c2 : tC) : Prop := ∀ g i j, ¬ (g = 50 ∧ i = 0 ∧ (j = 51 ∨ (53 ≤ j ∧ j ≤ 56))) → ¬ (g = 51 ∧ (i = 57 ∨ i = 58)) → c2 g i j = c g i j
theorem ML_rfl (c : tC) : ML c c := fun _ _ _ _ _ => rfl
theorem ML_tr {a b c : tC} (h : ML a b) (h2 : ML b c) : ML a c := fun g i j n n2 => (h2 g i j n n2).trans (h g i j n n2)
theorem MF_ML {a b : tC} (h : MF a b) : ML a b := fun g i j n _ => h g i j (by omega)
theorem MS_frL {c c2 : tC} {s e : Nat} (h : MS c s e) (h2 : ML c c2) : MS c2 s e := ⟨(h2 50 0 50 (by omega) (by omega)).trans h.1, (h2 50 0 52 (by omega) (by omega)).trans h.2.1, h.2.2⟩
/-- laws l told so far -/
def MLw (c : tC) (l : List (Nat × Int)) : Prop := c 50 0 56 = ((l.length : Nat) : Int) ∧ ∀ j, j < l.length → c 51 57 j = ((l.getD j (0, 0)).1 : Nat) ∧ c 51 58 j = (l.getD j (0, 0)).2
theorem getD_app3 {l : List (Nat × Int)} {x : Nat × Int} {j : Nat} : (l ++ [x]).getD j (0, 0) = if j = l.length then x else l.getD j (0, 0) := by
  rw [List.getD_eq_getElem?_getD, List.getD_eq_getElem?_getD]
  by_cases e : j = l.length
  · rw [if_pos e, e, List.getElem?_concat_length]; rfl
  · rw [if_neg e]
    by_cases h : j < l.length
    · rw [List.getElem?_append_left h]
    · rw [List.getElem?_eq_none (by rw [List.length_append]; simp only [List.length_cons, List.length_nil]; omega), List.getElem?_eq_none (by omega)]
theorem MLw_fr {c c2 : tC} {l : List (Nat × Int)} (h : MLw c l) (h2 : MF c c2) : MLw c2 l := by
  refine ⟨(h2 50 0 56 (by omega)).trans h.1, fun j hj => ?_⟩
  rw [h2 51 57 j (by omega), h2 51 58 j (by omega)]
  exact h.2 j hj
theorem tW_0 {T : Nat → Int} {e p : Nat} (h : p < e) (h2 : T p = 108) : tW T e p = 0 := by
  rw [tW, tWf, if_pos ⟨h, h2⟩]
theorem tW_1 {T : Nat → Int} {e p : Nat} (h : p < e) (h2 : T p = 103) : tW T e p = 1 := by
  rw [tW, tWf, if_neg (fun q => absurd (h2.symm.trans q.2) (by decide)), tWf, if_pos ⟨h, h2⟩]
theorem tW_2 {T : Nat → Int} {e p : Nat} (h : p < e) (h2 : T p = 114) : tW T e p = 2 := by
  rw [tW, tWf, if_neg (fun q => absurd (h2.symm.trans q.2) (by decide)), tWf, if_neg (fun q => absurd (h2.symm.trans q.2) (by decide)), tWf, if_pos ⟨h, h2⟩]
theorem tW_3 {T : Nat → Int} {e p : Nat} (h : p < e) (h2 : T p = 119) : tW T e p = 3 := by
  rw [tW, tWf, if_neg (fun q => absurd (h2.symm.trans q.2) (by decide)), tWf, if_neg (fun q => absurd (h2.symm.trans q.2) (by decide)), tWf, if_neg (fun q => absurd (h2.symm.trans q.2) (by decide)), tWf, if_pos ⟨h, h2⟩]
theorem tW_4 {T : Nat → Int} {e p : Nat} (h : p < e) (h2 : T p = 115) : tW T e p = 4 := by
  rw [tW, tWf, if_neg (fun q => absurd (h2.symm.trans q.2) (by decide)), tWf, if_neg (fun q => absurd (h2.symm.trans q.2) (by decide)), tWf, if_neg (fun q => absurd (h2.symm.trans q.2) (by decide)), tWf, if_neg (fun q => absurd (h2.symm.trans q.2) (by decide)), tWf, if_pos ⟨h, h2⟩]
theorem tW_5 {T : Nat → Int} {e p : Nat} (h : p < e) (h2 : T p = 112) : tW T e p = 5 := by
  rw [tW, tWf, if_neg (fun q => absurd (h2.symm.trans q.2) (by decide)), tWf, if_neg (fun q => absurd (h2.symm.trans q.2) (by decide)), tWf, if_neg (fun q => absurd (h2.symm.trans q.2) (by decide)), tWf, if_neg (fun q => absurd (h2.symm.trans q.2) (by decide)), tWf, if_neg (fun q => absurd (h2.symm.trans q.2) (by decide)), tWf, if_pos ⟨h, h2⟩]
theorem tW_6 {T : Nat → Int} {e p : Nat} (h : p < e → T p ≠ 108 ∧ T p ≠ 103 ∧ T p ≠ 114 ∧ T p ≠ 119 ∧ T p ≠ 115 ∧ T p ≠ 112) : tW T e p = 6 := by
  rw [tW, tWf, if_neg (fun q => (h q.1).1 q.2), tWf, if_neg (fun q => (h q.1).2.1 q.2), tWf, if_neg (fun q => (h q.1).2.2.1 q.2), tWf, if_neg (fun q => (h q.1).2.2.2.1 q.2), tWf, if_neg (fun q => (h q.1).2.2.2.2.1 q.2), tWf, if_neg (fun q => (h q.1).2.2.2.2.2 q.2), tWf]
theorem lOk_w {T : Nat → Int} {e p w : Nat} (h : tW T e p = w) (hw : w < 6) : lOk T e p = tSN T e (nm w) (lwl w) (lwh w) p ∧ lF T e p = tSF T e (nm w) p ∧ lQ T e p = tSQ T e (nm w) p ∧ lV T e p = tSV T e (nm w) p := by
  unfold lOk lF
  rw [h, decide_eq_true hw, if_pos hw, Bool.true_and]
  exact ⟨rfl, rfl, by rw [lQ, h], by rw [lV, h]⟩
theorem lOk_6 {T : Nat → Int} {e p : Nat} (h : tW T e p = 6) : lOk T e p = false ∧ lF T e p = p := by
  unfold lOk lF
  rw [h, if_neg (by decide)]
  exact ⟨rfl, rfl⟩
theorem m_lw0 {z : xZ} {d : Nat} {Q : tQ} {c c1 : tC} {L : tL} {s e p : Nat} {l : List (Nat × Int)} {x1 : Int} (hpe : p < e) (e9 : eT L s p = 108) (F40 : MP c c1 (p + 1)) (S40 : MS c1 s e) (hQ : MLw c l) (hl : l.length < 60) (k1 : ∀ c2, lOk (eT L s) e p = true → ML c c2 → c2 50 0 51 = ((lQ (eT L s) e p : Nat) : Int) → MLw c2 (l ++ [(tW (eT L s) e p, lV (eT L s) e p)]) → Q (some (.int (iI 1))) c2 L) (k0 : ∀ c2, lOk (eT L s) e p = false → ML c c2 → c2 50 0 55 = ((lF (eT L s) e p : Nat) : Int) → Q (some (.int (iI 0))) c2 L) : En z (d + 4) MX11_oneLaw Q 132 [some (.ref (xad z 50 0)), some (.int (iI x1)), none, none, none] [] c1 L := by
  have hs2 := S40.2.2.1
  have hw9 := lOk_w (tW_0 (T := eT L s) hpe e9) (by decide)
  refine r_iconst 133 dX11_oneLaw_132 rfl ?_
  refine r_istore2 134 dX11_oneLaw_133 rfl rfl (by decide) ?_
  refine r_aloadN 135 dX11_oneLaw_134 rfl rfl ?_
  refine r_bipush 137 dX11_oneLaw_135 rfl (by decide) ?_
  refine r_cv1 140 dX11_oneLaw_137 rfl gX11_232 rfl (by decide) (sh_50 z _) rfl rfl (Nat.le_of_ble_eq_true rfl) (Nat.le_of_ble_eq_true rfl) rfl ?_
  refine m_takes (p := p + 1) S40 F40.2 (by omega) (by decide) (fun y137 c137 P137 => ?_) (fun y137 c137 P137 Z137 => ?_)
  · have F137 := MP_tr F40 P137
    have S137 := MS_fr S40 P137.1
    refine r_ifeqF 143 dX11_oneLaw_140 rfl 165 (by decide) (by decide) (by decide) ?_
    refine r_aloadN 144 dX11_oneLaw_143 rfl rfl ?_
    refine r_bipush 146 dX11_oneLaw_144 rfl (by decide) ?_
    refine r_cv1 149 dX11_oneLaw_146 rfl gX11_232 rfl (by decide) (sh_50 z _) rfl rfl (Nat.le_of_ble_eq_true rfl) (Nat.le_of_ble_eq_true rfl) rfl ?_
    refine m_takes (p := p + 1 + 1) S137 F137.2 (by omega) (by decide) (fun y146 c146 P146 => ?_) (fun y146 c146 P146 Z146 => ?_)
    · have F146 := MP_tr F137 P146
      have S146 := MS_fr S137 P146.1
      refine r_ifeqF 152 dX11_oneLaw_149 rfl 165 (by decide) (by decide) (by decide) ?_
      refine r_aloadN 153 dX11_oneLaw_152 rfl rfl ?_
      refine r_bipush 155 dX11_oneLaw_153 rfl (by decide) ?_
      refine r_cv1 158 dX11_oneLaw_155 rfl gX11_232 rfl (by decide) (sh_50 z _) rfl rfl (Nat.le_of_ble_eq_true rfl) (Nat.le_of_ble_eq_true rfl) rfl ?_
      refine m_takes (p := p + 1 + 1 + 1) S146 F146.2 (by omega) (by decide) (fun y155 c155 P155 => ?_) (fun y155 c155 P155 Z155 => ?_)
      · have F155 := MP_tr F146 P155
        have S155 := MS_fr S146 P155.1
        refine r_ifeqF 161 dX11_oneLaw_158 rfl 165 (by decide) (by decide) (by decide) ?_
        refine r_iconst 162 dX11_oneLaw_161 rfl ?_
        refine r_goto 166 dX11_oneLaw_162 (by decide) ?_
        refine r_istore3 167 dX11_oneLaw_166 rfl rfl (by decide) ?_
        refine r_goto 398 dX11_oneLaw_167 (by decide) ?_
        refine r_iloadN 399 dX11_oneLaw_398 rfl rfl ?_
        refine r_iconst 400 dX11_oneLaw_399 rfl ?_
        refine r_iceq 408 403 dX11_oneLaw_400 rfl (by decide) (by omega) (by omega) (fun h400 => False.elim (by omega)) (fun h400 => ?_)
        refine r_iloadN 404 dX11_oneLaw_403 rfl rfl ?_
        refine r_iconst 405 dX11_oneLaw_404 rfl ?_
        refine r_icne 412 408 dX11_oneLaw_405 rfl (by decide) (by omega) (by omega) (fun h405 => ?_) (fun h405 => False.elim (by omega))
        refine r_iconst 413 dX11_oneLaw_412 rfl ?_
        refine r_istore4 415 dX11_oneLaw_413 rfl rfl (by decide) ?_
        refine r_iloadN 416 dX11_oneLaw_415 rfl rfl ?_
        refine r_ifeqF 419 dX11_oneLaw_416 rfl 468 (by decide) (by decide) (by decide) ?_
        refine r_aloadN 420 dX11_oneLaw_419 rfl rfl ?_
        refine r_bipush 422 dX11_oneLaw_420 rfl (by decide) ?_
        refine r_cv1 425 dX11_oneLaw_422 rfl gX11_232 rfl (by decide) (sh_50 z _) rfl rfl (Nat.le_of_ble_eq_true rfl) (Nat.le_of_ble_eq_true rfl) rfl ?_
        refine m_takes (p := p + 1 + 1 + 1 + 1) S155 F155.2 (by omega) (by decide) (fun y422 c422 P422 => ?_) (fun y422 c422 P422 Z422 => ?_)
        · have F422 := MP_tr F155 P422
          have S422 := MS_fr S155 P422.1
          refine r_ifeqF 428 dX11_oneLaw_425 rfl 468 (by decide) (by decide) (by decide) ?_
          refine r_aloadN 429 dX11_oneLaw_428 rfl rfl ?_
          refine r_iload 431 dX11_oneLaw_429 rfl rfl ?_
          refine r_ifeqT 438 0 dX11_oneLaw_431 (by decide) (by decide) (by decide) ?_
          refine r_iconst 439 dX11_oneLaw_438 rfl ?_
          refine r_iload 441 dX11_oneLaw_439 rfl rfl ?_
          refine r_ifeqT 449 0 dX11_oneLaw_441 (by decide) (by decide) (by decide) ?_
          refine r_iloadN 450 dX11_oneLaw_449 rfl rfl ?_
          refine r_iconst 451 dX11_oneLaw_450 rfl ?_
          refine r_icne 460 454 dX11_oneLaw_451 rfl (by decide) (by omega) (by omega) (fun h451 => ?_) (fun h451 => False.elim (by omega))
          refine r_bipush 462 dX11_oneLaw_460 rfl (by decide) ?_
          refine r_cv2 465 dX11_oneLaw_462 rfl gX11_235 rfl (by decide) (sh_50 z _) rfl rfl (Nat.le_of_ble_eq_true rfl) (Nat.le_of_ble_eq_true rfl) rfl ?_
          refine m_number (p := p + 1 + 1 + 1 + 1 + 1) S422 F422.2 (by omega) (by decide) (by decide) (fun c462 d462 P462 v462 => ?_) (fun c462 d462 P462 => ?_)
          · have hsq : tSq (eT L s) e (nm 0) p = (p + 1 + 1 + 1 + 1 + 1, true) := by
              show tSq (eT L s) e [108, 111, 115, 115, 32] p = _
              rw [tSq, if_pos ⟨hpe, e9⟩, tSq, if_pos y137, tSq, if_pos y146, tSq, if_pos y155, tSq, if_pos y422, tSq]
            have hsn : tSN (eT L s) e (nm 0) (lwl 0) (lwh 0) p = true := by unfold tSN; rw [hsq, Bool.true_and]; exact d462
            have F462 := MP_tr F422 P462
            have hq9 := MLw_fr hQ F462.1
            refine r_ifneT 470 0 dX11_oneLaw_465 (by decide) (by decide) (by decide) ?_
            refine r_aloadN 471 dX11_oneLaw_470 rfl rfl ?_
            refine r_getq 474 dX11_oneLaw_471 rfl fX11_138 (by decide) (sh_50 z _) rfl ?_
            refine r_aloadN 475 dX11_oneLaw_474 rfl rfl ?_
            refine r_geti 478 dX11_oneLaw_475 rfl fX11_238 (by decide) (sh_50 z _) rfl ?_
            rw [hq9.1]
            refine r_iloadN 479 dX11_oneLaw_478 rfl rfl ?_
            refine r_iast (n := 60) 480 dX11_oneLaw_479 (l.length) rfl rfl (by decide) (sh_51 z _) (by decide) (by omega) (by omega) ?_
            refine r_aloadN 481 dX11_oneLaw_480 rfl rfl ?_
            refine r_getq 484 dX11_oneLaw_481 rfl fX11_141 (by decide) (sh_50 z _) rfl ?_
            refine r_aloadN 485 dX11_oneLaw_484 rfl rfl ?_
            refine r_geti 488 dX11_oneLaw_485 rfl fX11_238 (by decide) (sh_50 z _) rfl ?_
            rw [cu_ap, if_neg (by omega), hq9.1]
            refine r_aloadN 489 dX11_oneLaw_488 rfl rfl ?_
            refine r_geti 492 dX11_oneLaw_489 rfl fX11_225 (by decide) (sh_50 z _) rfl ?_
            rw [cu_ap, if_neg (by omega), v462]
            refine r_iast (n := 60) 493 dX11_oneLaw_492 (l.length) rfl rfl (by decide) (sh_51 z _) (by decide) (by omega) (by omega) ?_
            refine r_aloadN 494 dX11_oneLaw_493 rfl rfl ?_
            refine r_dupr 495 dX11_oneLaw_494 rfl ?_
            refine r_geti 498 dX11_oneLaw_495 rfl fX11_238 (by decide) (sh_50 z _) rfl ?_
            rw [cu_ap, if_neg (by omega), cu_ap, if_neg (by omega), hq9.1]
            refine r_iconst 499 dX11_oneLaw_498 rfl ?_
            refine r_iadd 500 dX11_oneLaw_499 rfl ?_
            refine r_puti 503 dX11_oneLaw_500 rfl pX11_238 (by decide) (sh_50 z _) rfl ?_
            refine r_iconst 504 dX11_oneLaw_503 rfl ?_
            have hq8 : lQ (eT L s) e p = (tNum (eT L s) e 3 (p + 1 + 1 + 1 + 1 + 1) 0).1 := by rw [hw9.2.2.1]; unfold tSQ; rw [hsq]
            have hv8 : lV (eT L s) e p = (tNum (eT L s) e 3 (p + 1 + 1 + 1 + 1 + 1) 0).2 := by rw [hw9.2.2.2]; unfold tSV; rw [hsq]
            have htw : tW (eT L s) e p = 0 := tW_0 hpe e9
            refine r_zret dX11_oneLaw_504 rfl (by decide) (k1 _ (by rw [hw9.1]; exact hsn) (fun g i j n1 n2 => ?_) ?_ ⟨?_, fun j hj => ?_⟩)
            · rw [cu_ap, if_neg (by omega), cu_ap, if_neg (by omega), cu_ap, if_neg (by omega)]
              exact F462.1 g i j (by omega)
            · rw [cu_ap, if_neg (by omega), cu_ap, if_neg (by omega), cu_ap, if_neg (by omega), hq8]
              exact F462.2
            · rw [cu_ap, if_pos ⟨rfl, rfl, rfl⟩, List.length_append]
              show ((l.length : Nat) : Int) + 1 = ((l.length + 1 : Nat) : Int)
              omega
            · rw [List.length_append] at hj
              have hj2 : j < l.length + 1 := hj
              rw [getD_app3, htw, hv8]
              by_cases q : j = l.length
              · rw [if_pos q, q, cu_ap, if_neg (by omega), cu_ap, if_neg (by omega), cu_ap, if_pos ⟨rfl, rfl, rfl⟩, cu_ap, if_neg (by omega), cu_ap, if_pos ⟨rfl, rfl, rfl⟩]
                exact ⟨rfl, rfl⟩
              · rw [if_neg q, cu_ap, if_neg (by omega), cu_ap, if_neg (by omega), cu_ap, if_neg (by omega), cu_ap, if_neg (by omega), cu_ap, if_neg (by omega), cu_ap, if_neg (by omega)]
                exact hq9.2 j (by omega)
          · have hsq : tSq (eT L s) e (nm 0) p = (p + 1 + 1 + 1 + 1 + 1, true) := by
              show tSq (eT L s) e [108, 111, 115, 115, 32] p = _
              rw [tSq, if_pos ⟨hpe, e9⟩, tSq, if_pos y137, tSq, if_pos y146, tSq, if_pos y155, tSq, if_pos y422, tSq]
            have hsn : tSN (eT L s) e (nm 0) (lwl 0) (lwh 0) p = false := by unfold tSN; rw [hsq, Bool.true_and]; exact d462
            refine r_ifneF 468 dX11_oneLaw_465 rfl 470 (by decide) (by decide) (by decide) ?_
            refine r_iconst 469 dX11_oneLaw_468 rfl ?_
            have hB := MB_tr F422 P462
            exact r_zret dX11_oneLaw_469 rfl (by decide) (k0 _ (by rw [hw9.1]; exact hsn) (MF_ML hB.1) (by rw [hw9.2.1]; unfold tSF; rw [hsq]; exact hB.2))
        · refine r_ifeqT 468 0 dX11_oneLaw_425 (by decide) (by decide) (by decide) ?_
          refine r_iconst 469 dX11_oneLaw_468 rfl ?_
          have hsq : tSq (eT L s) e (nm 0) p = (p + 1 + 1 + 1 + 1, false) := by
            show tSq (eT L s) e [108, 111, 115, 115, 32] p = _
            rw [tSq, if_pos ⟨hpe, e9⟩, tSq, if_pos y137, tSq, if_pos y146, tSq, if_pos y155, tSq, if_neg y422]
          have hB := MB_tr F155 P422
          exact r_zret dX11_oneLaw_469 rfl (by decide) (k0 _ (by rw [hw9.1]; unfold tSN; rw [hsq]; rfl) (MF_ML hB.1) (by rw [hw9.2.1]; unfold tSF; rw [hsq]; exact hB.2))
      · refine r_ifeqT 165 0 dX11_oneLaw_158 (by decide) (by decide) (by decide) ?_
        refine r_iconst 166 dX11_oneLaw_165 rfl ?_
        refine r_istore3 167 dX11_oneLaw_166 rfl rfl (by decide) ?_
        refine r_goto 398 dX11_oneLaw_167 (by decide) ?_
        refine r_iloadN 399 dX11_oneLaw_398 rfl rfl ?_
        refine r_iconst 400 dX11_oneLaw_399 rfl ?_
        refine r_iceq 408 403 dX11_oneLaw_400 rfl (by decide) (by omega) (by omega) (fun h400 => False.elim (by omega)) (fun h400 => ?_)
        refine r_iloadN 404 dX11_oneLaw_403 rfl rfl ?_
        refine r_iconst 405 dX11_oneLaw_404 rfl ?_
        refine r_icne 412 408 dX11_oneLaw_405 rfl (by decide) (by omega) (by omega) (fun h405 => ?_) (fun h405 => False.elim (by omega))
        refine r_iconst 413 dX11_oneLaw_412 rfl ?_
        refine r_istore4 415 dX11_oneLaw_413 rfl rfl (by decide) ?_
        refine r_iloadN 416 dX11_oneLaw_415 rfl rfl ?_
        refine r_ifeqT 468 0 dX11_oneLaw_416 (by decide) (by decide) (by decide) ?_
        refine r_iconst 469 dX11_oneLaw_468 rfl ?_
        have hsq : tSq (eT L s) e (nm 0) p = (p + 1 + 1 + 1, false) := by
          show tSq (eT L s) e [108, 111, 115, 115, 32] p = _
          rw [tSq, if_pos ⟨hpe, e9⟩, tSq, if_pos y137, tSq, if_pos y146, tSq, if_neg y155]
        have hB := MB_tr F146 P155
        exact r_zret dX11_oneLaw_469 rfl (by decide) (k0 _ (by rw [hw9.1]; unfold tSN; rw [hsq]; rfl) (MF_ML hB.1) (by rw [hw9.2.1]; unfold tSF; rw [hsq]; exact hB.2))
    · refine r_ifeqT 165 0 dX11_oneLaw_149 (by decide) (by decide) (by decide) ?_
      refine r_iconst 166 dX11_oneLaw_165 rfl ?_
      refine r_istore3 167 dX11_oneLaw_166 rfl rfl (by decide) ?_
      refine r_goto 398 dX11_oneLaw_167 (by decide) ?_
      refine r_iloadN 399 dX11_oneLaw_398 rfl rfl ?_
      refine r_iconst 400 dX11_oneLaw_399 rfl ?_
      refine r_iceq 408 403 dX11_oneLaw_400 rfl (by decide) (by omega) (by omega) (fun h400 => False.elim (by omega)) (fun h400 => ?_)
      refine r_iloadN 404 dX11_oneLaw_403 rfl rfl ?_
      refine r_iconst 405 dX11_oneLaw_404 rfl ?_
      refine r_icne 412 408 dX11_oneLaw_405 rfl (by decide) (by omega) (by omega) (fun h405 => ?_) (fun h405 => False.elim (by omega))
      refine r_iconst 413 dX11_oneLaw_412 rfl ?_
      refine r_istore4 415 dX11_oneLaw_413 rfl rfl (by decide) ?_
      refine r_iloadN 416 dX11_oneLaw_415 rfl rfl ?_
      refine r_ifeqT 468 0 dX11_oneLaw_416 (by decide) (by decide) (by decide) ?_
      refine r_iconst 469 dX11_oneLaw_468 rfl ?_
      have hsq : tSq (eT L s) e (nm 0) p = (p + 1 + 1, false) := by
        show tSq (eT L s) e [108, 111, 115, 115, 32] p = _
        rw [tSq, if_pos ⟨hpe, e9⟩, tSq, if_pos y137, tSq, if_neg y146]
      have hB := MB_tr F137 P146
      exact r_zret dX11_oneLaw_469 rfl (by decide) (k0 _ (by rw [hw9.1]; unfold tSN; rw [hsq]; rfl) (MF_ML hB.1) (by rw [hw9.2.1]; unfold tSF; rw [hsq]; exact hB.2))
  · refine r_ifeqT 165 0 dX11_oneLaw_140 (by decide) (by decide) (by decide) ?_
    refine r_iconst 166 dX11_oneLaw_165 rfl ?_
    refine r_istore3 167 dX11_oneLaw_166 rfl rfl (by decide) ?_
    refine r_goto 398 dX11_oneLaw_167 (by decide) ?_
    refine r_iloadN 399 dX11_oneLaw_398 rfl rfl ?_
    refine r_iconst 400 dX11_oneLaw_399 rfl ?_
    refine r_iceq 408 403 dX11_oneLaw_400 rfl (by decide) (by omega) (by omega) (fun h400 => False.elim (by omega)) (fun h400 => ?_)
    refine r_iloadN 404 dX11_oneLaw_403 rfl rfl ?_
    refine r_iconst 405 dX11_oneLaw_404 rfl ?_
    refine r_icne 412 408 dX11_oneLaw_405 rfl (by decide) (by omega) (by omega) (fun h405 => ?_) (fun h405 => False.elim (by omega))
    refine r_iconst 413 dX11_oneLaw_412 rfl ?_
    refine r_istore4 415 dX11_oneLaw_413 rfl rfl (by decide) ?_
    refine r_iloadN 416 dX11_oneLaw_415 rfl rfl ?_
    refine r_ifeqT 468 0 dX11_oneLaw_416 (by decide) (by decide) (by decide) ?_
    refine r_iconst 469 dX11_oneLaw_468 rfl ?_
    have hsq : tSq (eT L s) e (nm 0) p = (p + 1, false) := by
      show tSq (eT L s) e [108, 111, 115, 115, 32] p = _
      rw [tSq, if_pos ⟨hpe, e9⟩, tSq, if_neg y137]
    have hB := MB_tr F40 P137
    exact r_zret dX11_oneLaw_469 rfl (by decide) (k0 _ (by rw [hw9.1]; unfold tSN; rw [hsq]; rfl) (MF_ML hB.1) (by rw [hw9.2.1]; unfold tSF; rw [hsq]; exact hB.2))
theorem m_lw1 {z : xZ} {d : Nat} {Q : tQ} {c c1 : tC} {L : tL} {s e p : Nat} {l : List (Nat × Int)} {x1 : Int} (hpe : p < e) (e9 : eT L s p = 103) (F40 : MP c c1 (p + 1)) (S40 : MS c1 s e) (hQ : MLw c l) (hl : l.length < 60) (k1 : ∀ c2, lOk (eT L s) e p = true → ML c c2 → c2 50 0 51 = ((lQ (eT L s) e p : Nat) : Int) → MLw c2 (l ++ [(tW (eT L s) e p, lV (eT L s) e p)]) → Q (some (.int (iI 1))) c2 L) (k0 : ∀ c2, lOk (eT L s) e p = false → ML c c2 → c2 50 0 55 = ((lF (eT L s) e p : Nat) : Int) → Q (some (.int (iI 0))) c2 L) : En z (d + 4) MX11_oneLaw Q 170 [some (.ref (xad z 50 0)), some (.int (iI x1)), none, none, none] [] c1 L := by
  have hs2 := S40.2.2.1
  have hw9 := lOk_w (tW_1 (T := eT L s) hpe e9) (by decide)
  refine r_iconst 171 dX11_oneLaw_170 rfl ?_
  refine r_istore2 172 dX11_oneLaw_171 rfl rfl (by decide) ?_
  refine r_aloadN 173 dX11_oneLaw_172 rfl rfl ?_
  refine r_bipush 175 dX11_oneLaw_173 rfl (by decide) ?_
  refine r_cv1 178 dX11_oneLaw_175 rfl gX11_232 rfl (by decide) (sh_50 z _) rfl rfl (Nat.le_of_ble_eq_true rfl) (Nat.le_of_ble_eq_true rfl) rfl ?_
  refine m_takes (p := p + 1) S40 F40.2 (by omega) (by decide) (fun y175 c175 P175 => ?_) (fun y175 c175 P175 Z175 => ?_)
  · have F175 := MP_tr F40 P175
    have S175 := MS_fr S40 P175.1
    refine r_ifeqF 181 dX11_oneLaw_178 rfl 203 (by decide) (by decide) (by decide) ?_
    refine r_aloadN 182 dX11_oneLaw_181 rfl rfl ?_
    refine r_bipush 184 dX11_oneLaw_182 rfl (by decide) ?_
    refine r_cv1 187 dX11_oneLaw_184 rfl gX11_232 rfl (by decide) (sh_50 z _) rfl rfl (Nat.le_of_ble_eq_true rfl) (Nat.le_of_ble_eq_true rfl) rfl ?_
    refine m_takes (p := p + 1 + 1) S175 F175.2 (by omega) (by decide) (fun y184 c184 P184 => ?_) (fun y184 c184 P184 Z184 => ?_)
    · have F184 := MP_tr F175 P184
      have S184 := MS_fr S175 P184.1
      refine r_ifeqF 190 dX11_oneLaw_187 rfl 203 (by decide) (by decide) (by decide) ?_
      refine r_aloadN 191 dX11_oneLaw_190 rfl rfl ?_
      refine r_bipush 193 dX11_oneLaw_191 rfl (by decide) ?_
      refine r_cv1 196 dX11_oneLaw_193 rfl gX11_232 rfl (by decide) (sh_50 z _) rfl rfl (Nat.le_of_ble_eq_true rfl) (Nat.le_of_ble_eq_true rfl) rfl ?_
      refine m_takes (p := p + 1 + 1 + 1) S184 F184.2 (by omega) (by decide) (fun y193 c193 P193 => ?_) (fun y193 c193 P193 Z193 => ?_)
      · have F193 := MP_tr F184 P193
        have S193 := MS_fr S184 P193.1
        refine r_ifeqF 199 dX11_oneLaw_196 rfl 203 (by decide) (by decide) (by decide) ?_
        refine r_iconst 200 dX11_oneLaw_199 rfl ?_
        refine r_goto 204 dX11_oneLaw_200 (by decide) ?_
        refine r_istore3 205 dX11_oneLaw_204 rfl rfl (by decide) ?_
        refine r_goto 398 dX11_oneLaw_205 (by decide) ?_
        refine r_iloadN 399 dX11_oneLaw_398 rfl rfl ?_
        refine r_iconst 400 dX11_oneLaw_399 rfl ?_
        refine r_iceq 408 403 dX11_oneLaw_400 rfl (by decide) (by omega) (by omega) (fun h400 => False.elim (by omega)) (fun h400 => ?_)
        refine r_iloadN 404 dX11_oneLaw_403 rfl rfl ?_
        refine r_iconst 405 dX11_oneLaw_404 rfl ?_
        refine r_icne 412 408 dX11_oneLaw_405 rfl (by decide) (by omega) (by omega) (fun h405 => ?_) (fun h405 => False.elim (by omega))
        refine r_iconst 413 dX11_oneLaw_412 rfl ?_
        refine r_istore4 415 dX11_oneLaw_413 rfl rfl (by decide) ?_
        refine r_iloadN 416 dX11_oneLaw_415 rfl rfl ?_
        refine r_ifeqF 419 dX11_oneLaw_416 rfl 468 (by decide) (by decide) (by decide) ?_
        refine r_aloadN 420 dX11_oneLaw_419 rfl rfl ?_
        refine r_bipush 422 dX11_oneLaw_420 rfl (by decide) ?_
        refine r_cv1 425 dX11_oneLaw_422 rfl gX11_232 rfl (by decide) (sh_50 z _) rfl rfl (Nat.le_of_ble_eq_true rfl) (Nat.le_of_ble_eq_true rfl) rfl ?_
        refine m_takes (p := p + 1 + 1 + 1 + 1) S193 F193.2 (by omega) (by decide) (fun y422 c422 P422 => ?_) (fun y422 c422 P422 Z422 => ?_)
        · have F422 := MP_tr F193 P422
          have S422 := MS_fr S193 P422.1
          refine r_ifeqF 428 dX11_oneLaw_425 rfl 468 (by decide) (by decide) (by decide) ?_
          refine r_aloadN 429 dX11_oneLaw_428 rfl rfl ?_
          refine r_iload 431 dX11_oneLaw_429 rfl rfl ?_
          refine r_ifeqT 438 0 dX11_oneLaw_431 (by decide) (by decide) (by decide) ?_
          refine r_iconst 439 dX11_oneLaw_438 rfl ?_
          refine r_iload 441 dX11_oneLaw_439 rfl rfl ?_
          refine r_ifeqT 449 0 dX11_oneLaw_441 (by decide) (by decide) (by decide) ?_
          refine r_iloadN 450 dX11_oneLaw_449 rfl rfl ?_
          refine r_iconst 451 dX11_oneLaw_450 rfl ?_
          refine r_icne 460 454 dX11_oneLaw_451 rfl (by decide) (by omega) (by omega) (fun h451 => ?_) (fun h451 => False.elim (by omega))
          refine r_bipush 462 dX11_oneLaw_460 rfl (by decide) ?_
          refine r_cv2 465 dX11_oneLaw_462 rfl gX11_235 rfl (by decide) (sh_50 z _) rfl rfl (Nat.le_of_ble_eq_true rfl) (Nat.le_of_ble_eq_true rfl) rfl ?_
          refine m_number (p := p + 1 + 1 + 1 + 1 + 1) S422 F422.2 (by omega) (by decide) (by decide) (fun c462 d462 P462 v462 => ?_) (fun c462 d462 P462 => ?_)
          · have hsq : tSq (eT L s) e (nm 1) p = (p + 1 + 1 + 1 + 1 + 1, true) := by
              show tSq (eT L s) e [103, 97, 105, 110, 32] p = _
              rw [tSq, if_pos ⟨hpe, e9⟩, tSq, if_pos y175, tSq, if_pos y184, tSq, if_pos y193, tSq, if_pos y422, tSq]
            have hsn : tSN (eT L s) e (nm 1) (lwl 1) (lwh 1) p = true := by unfold tSN; rw [hsq, Bool.true_and]; exact d462
            have F462 := MP_tr F422 P462
            have hq9 := MLw_fr hQ F462.1
            refine r_ifneT 470 0 dX11_oneLaw_465 (by decide) (by decide) (by decide) ?_
            refine r_aloadN 471 dX11_oneLaw_470 rfl rfl ?_
            refine r_getq 474 dX11_oneLaw_471 rfl fX11_138 (by decide) (sh_50 z _) rfl ?_
            refine r_aloadN 475 dX11_oneLaw_474 rfl rfl ?_
            refine r_geti 478 dX11_oneLaw_475 rfl fX11_238 (by decide) (sh_50 z _) rfl ?_
            rw [hq9.1]
            refine r_iloadN 479 dX11_oneLaw_478 rfl rfl ?_
            refine r_iast (n := 60) 480 dX11_oneLaw_479 (l.length) rfl rfl (by decide) (sh_51 z _) (by decide) (by omega) (by omega) ?_
            refine r_aloadN 481 dX11_oneLaw_480 rfl rfl ?_
            refine r_getq 484 dX11_oneLaw_481 rfl fX11_141 (by decide) (sh_50 z _) rfl ?_
            refine r_aloadN 485 dX11_oneLaw_484 rfl rfl ?_
            refine r_geti 488 dX11_oneLaw_485 rfl fX11_238 (by decide) (sh_50 z _) rfl ?_
            rw [cu_ap, if_neg (by omega), hq9.1]
            refine r_aloadN 489 dX11_oneLaw_488 rfl rfl ?_
            refine r_geti 492 dX11_oneLaw_489 rfl fX11_225 (by decide) (sh_50 z _) rfl ?_
            rw [cu_ap, if_neg (by omega), v462]
            refine r_iast (n := 60) 493 dX11_oneLaw_492 (l.length) rfl rfl (by decide) (sh_51 z _) (by decide) (by omega) (by omega) ?_
            refine r_aloadN 494 dX11_oneLaw_493 rfl rfl ?_
            refine r_dupr 495 dX11_oneLaw_494 rfl ?_
            refine r_geti 498 dX11_oneLaw_495 rfl fX11_238 (by decide) (sh_50 z _) rfl ?_
            rw [cu_ap, if_neg (by omega), cu_ap, if_neg (by omega), hq9.1]
            refine r_iconst 499 dX11_oneLaw_498 rfl ?_
            refine r_iadd 500 dX11_oneLaw_499 rfl ?_
            refine r_puti 503 dX11_oneLaw_500 rfl pX11_238 (by decide) (sh_50 z _) rfl ?_
            refine r_iconst 504 dX11_oneLaw_503 rfl ?_
            have hq8 : lQ (eT L s) e p = (tNum (eT L s) e 3 (p + 1 + 1 + 1 + 1 + 1) 0).1 := by rw [hw9.2.2.1]; unfold tSQ; rw [hsq]
            have hv8 : lV (eT L s) e p = (tNum (eT L s) e 3 (p + 1 + 1 + 1 + 1 + 1) 0).2 := by rw [hw9.2.2.2]; unfold tSV; rw [hsq]
            have htw : tW (eT L s) e p = 1 := tW_1 hpe e9
            refine r_zret dX11_oneLaw_504 rfl (by decide) (k1 _ (by rw [hw9.1]; exact hsn) (fun g i j n1 n2 => ?_) ?_ ⟨?_, fun j hj => ?_⟩)
            · rw [cu_ap, if_neg (by omega), cu_ap, if_neg (by omega), cu_ap, if_neg (by omega)]
              exact F462.1 g i j (by omega)
            · rw [cu_ap, if_neg (by omega), cu_ap, if_neg (by omega), cu_ap, if_neg (by omega), hq8]
              exact F462.2
            · rw [cu_ap, if_pos ⟨rfl, rfl, rfl⟩, List.length_append]
              show ((l.length : Nat) : Int) + 1 = ((l.length + 1 : Nat) : Int)
              omega
            · rw [List.length_append] at hj
              have hj2 : j < l.length + 1 := hj
              rw [getD_app3, htw, hv8]
              by_cases q : j = l.length
              · rw [if_pos q, q, cu_ap, if_neg (by omega), cu_ap, if_neg (by omega), cu_ap, if_pos ⟨rfl, rfl, rfl⟩, cu_ap, if_neg (by omega), cu_ap, if_pos ⟨rfl, rfl, rfl⟩]
                exact ⟨rfl, rfl⟩
              · rw [if_neg q, cu_ap, if_neg (by omega), cu_ap, if_neg (by omega), cu_ap, if_neg (by omega), cu_ap, if_neg (by omega), cu_ap, if_neg (by omega), cu_ap, if_neg (by omega)]
                exact hq9.2 j (by omega)
          · have hsq : tSq (eT L s) e (nm 1) p = (p + 1 + 1 + 1 + 1 + 1, true) := by
              show tSq (eT L s) e [103, 97, 105, 110, 32] p = _
              rw [tSq, if_pos ⟨hpe, e9⟩, tSq, if_pos y175, tSq, if_pos y184, tSq, if_pos y193, tSq, if_pos y422, tSq]
            have hsn : tSN (eT L s) e (nm 1) (lwl 1) (lwh 1) p = false := by unfold tSN; rw [hsq, Bool.true_and]; exact d462
            refine r_ifneF 468 dX11_oneLaw_465 rfl 470 (by decide) (by decide) (by decide) ?_
            refine r_iconst 469 dX11_oneLaw_468 rfl ?_
            have hB := MB_tr F422 P462
            exact r_zret dX11_oneLaw_469 rfl (by decide) (k0 _ (by rw [hw9.1]; exact hsn) (MF_ML hB.1) (by rw [hw9.2.1]; unfold tSF; rw [hsq]; exact hB.2))
        · refine r_ifeqT 468 0 dX11_oneLaw_425 (by decide) (by decide) (by decide) ?_
          refine r_iconst 469 dX11_oneLaw_468 rfl ?_
          have hsq : tSq (eT L s) e (nm 1) p = (p + 1 + 1 + 1 + 1, false) := by
            show tSq (eT L s) e [103, 97, 105, 110, 32] p = _
            rw [tSq, if_pos ⟨hpe, e9⟩, tSq, if_pos y175, tSq, if_pos y184, tSq, if_pos y193, tSq, if_neg y422]
          have hB := MB_tr F193 P422
          exact r_zret dX11_oneLaw_469 rfl (by decide) (k0 _ (by rw [hw9.1]; unfold tSN; rw [hsq]; rfl) (MF_ML hB.1) (by rw [hw9.2.1]; unfold tSF; rw [hsq]; exact hB.2))
      · refine r_ifeqT 203 0 dX11_oneLaw_196 (by decide) (by decide) (by decide) ?_
        refine r_iconst 204 dX11_oneLaw_203 rfl ?_
        refine r_istore3 205 dX11_oneLaw_204 rfl rfl (by decide) ?_
        refine r_goto 398 dX11_oneLaw_205 (by decide) ?_
        refine r_iloadN 399 dX11_oneLaw_398 rfl rfl ?_
        refine r_iconst 400 dX11_oneLaw_399 rfl ?_
        refine r_iceq 408 403 dX11_oneLaw_400 rfl (by decide) (by omega) (by omega) (fun h400 => False.elim (by omega)) (fun h400 => ?_)
        refine r_iloadN 404 dX11_oneLaw_403 rfl rfl ?_
        refine r_iconst 405 dX11_oneLaw_404 rfl ?_
        refine r_icne 412 408 dX11_oneLaw_405 rfl (by decide) (by omega) (by omega) (fun h405 => ?_) (fun h405 => False.elim (by omega))
        refine r_iconst 413 dX11_oneLaw_412 rfl ?_
        refine r_istore4 415 dX11_oneLaw_413 rfl rfl (by decide) ?_
        refine r_iloadN 416 dX11_oneLaw_415 rfl rfl ?_
        refine r_ifeqT 468 0 dX11_oneLaw_416 (by decide) (by decide) (by decide) ?_
        refine r_iconst 469 dX11_oneLaw_468 rfl ?_
        have hsq : tSq (eT L s) e (nm 1) p = (p + 1 + 1 + 1, false) := by
          show tSq (eT L s) e [103, 97, 105, 110, 32] p = _
          rw [tSq, if_pos ⟨hpe, e9⟩, tSq, if_pos y175, tSq, if_pos y184, tSq, if_neg y193]
        have hB := MB_tr F184 P193
        exact r_zret dX11_oneLaw_469 rfl (by decide) (k0 _ (by rw [hw9.1]; unfold tSN; rw [hsq]; rfl) (MF_ML hB.1) (by rw [hw9.2.1]; unfold tSF; rw [hsq]; exact hB.2))
    · refine r_ifeqT 203 0 dX11_oneLaw_187 (by decide) (by decide) (by decide) ?_
      refine r_iconst 204 dX11_oneLaw_203 rfl ?_
      refine r_istore3 205 dX11_oneLaw_204 rfl rfl (by decide) ?_
      refine r_goto 398 dX11_oneLaw_205 (by decide) ?_
      refine r_iloadN 399 dX11_oneLaw_398 rfl rfl ?_
      refine r_iconst 400 dX11_oneLaw_399 rfl ?_
      refine r_iceq 408 403 dX11_oneLaw_400 rfl (by decide) (by omega) (by omega) (fun h400 => False.elim (by omega)) (fun h400 => ?_)
      refine r_iloadN 404 dX11_oneLaw_403 rfl rfl ?_
      refine r_iconst 405 dX11_oneLaw_404 rfl ?_
      refine r_icne 412 408 dX11_oneLaw_405 rfl (by decide) (by omega) (by omega) (fun h405 => ?_) (fun h405 => False.elim (by omega))
      refine r_iconst 413 dX11_oneLaw_412 rfl ?_
      refine r_istore4 415 dX11_oneLaw_413 rfl rfl (by decide) ?_
      refine r_iloadN 416 dX11_oneLaw_415 rfl rfl ?_
      refine r_ifeqT 468 0 dX11_oneLaw_416 (by decide) (by decide) (by decide) ?_
      refine r_iconst 469 dX11_oneLaw_468 rfl ?_
      have hsq : tSq (eT L s) e (nm 1) p = (p + 1 + 1, false) := by
        show tSq (eT L s) e [103, 97, 105, 110, 32] p = _
        rw [tSq, if_pos ⟨hpe, e9⟩, tSq, if_pos y175, tSq, if_neg y184]
      have hB := MB_tr F175 P184
      exact r_zret dX11_oneLaw_469 rfl (by decide) (k0 _ (by rw [hw9.1]; unfold tSN; rw [hsq]; rfl) (MF_ML hB.1) (by rw [hw9.2.1]; unfold tSF; rw [hsq]; exact hB.2))
  · refine r_ifeqT 203 0 dX11_oneLaw_178 (by decide) (by decide) (by decide) ?_
    refine r_iconst 204 dX11_oneLaw_203 rfl ?_
    refine r_istore3 205 dX11_oneLaw_204 rfl rfl (by decide) ?_
    refine r_goto 398 dX11_oneLaw_205 (by decide) ?_
    refine r_iloadN 399 dX11_oneLaw_398 rfl rfl ?_
    refine r_iconst 400 dX11_oneLaw_399 rfl ?_
    refine r_iceq 408 403 dX11_oneLaw_400 rfl (by decide) (by omega) (by omega) (fun h400 => False.elim (by omega)) (fun h400 => ?_)
    refine r_iloadN 404 dX11_oneLaw_403 rfl rfl ?_
    refine r_iconst 405 dX11_oneLaw_404 rfl ?_
    refine r_icne 412 408 dX11_oneLaw_405 rfl (by decide) (by omega) (by omega) (fun h405 => ?_) (fun h405 => False.elim (by omega))
    refine r_iconst 413 dX11_oneLaw_412 rfl ?_
    refine r_istore4 415 dX11_oneLaw_413 rfl rfl (by decide) ?_
    refine r_iloadN 416 dX11_oneLaw_415 rfl rfl ?_
    refine r_ifeqT 468 0 dX11_oneLaw_416 (by decide) (by decide) (by decide) ?_
    refine r_iconst 469 dX11_oneLaw_468 rfl ?_
    have hsq : tSq (eT L s) e (nm 1) p = (p + 1, false) := by
      show tSq (eT L s) e [103, 97, 105, 110, 32] p = _
      rw [tSq, if_pos ⟨hpe, e9⟩, tSq, if_neg y175]
    have hB := MB_tr F40 P175
    exact r_zret dX11_oneLaw_469 rfl (by decide) (k0 _ (by rw [hw9.1]; unfold tSN; rw [hsq]; rfl) (MF_ML hB.1) (by rw [hw9.2.1]; unfold tSF; rw [hsq]; exact hB.2))
theorem m_lw2 {z : xZ} {d : Nat} {Q : tQ} {c c1 : tC} {L : tL} {s e p : Nat} {l : List (Nat × Int)} {x1 : Int} (hpe : p < e) (e9 : eT L s p = 114) (F40 : MP c c1 (p + 1)) (S40 : MS c1 s e) (hQ : MLw c l) (hl : l.length < 60) (k1 : ∀ c2, lOk (eT L s) e p = true → ML c c2 → c2 50 0 51 = ((lQ (eT L s) e p : Nat) : Int) → MLw c2 (l ++ [(tW (eT L s) e p, lV (eT L s) e p)]) → Q (some (.int (iI 1))) c2 L) (k0 : ∀ c2, lOk (eT L s) e p = false → ML c c2 → c2 50 0 55 = ((lF (eT L s) e p : Nat) : Int) → Q (some (.int (iI 0))) c2 L) : En z (d + 4) MX11_oneLaw Q 208 [some (.ref (xad z 50 0)), some (.int (iI x1)), none, none, none] [] c1 L := by
  have hs2 := S40.2.2.1
  have hw9 := lOk_w (tW_2 (T := eT L s) hpe e9) (by decide)
  refine r_iconst 209 dX11_oneLaw_208 rfl ?_
  refine r_istore2 210 dX11_oneLaw_209 rfl rfl (by decide) ?_
  refine r_aloadN 211 dX11_oneLaw_210 rfl rfl ?_
  refine r_bipush 213 dX11_oneLaw_211 rfl (by decide) ?_
  refine r_cv1 216 dX11_oneLaw_213 rfl gX11_232 rfl (by decide) (sh_50 z _) rfl rfl (Nat.le_of_ble_eq_true rfl) (Nat.le_of_ble_eq_true rfl) rfl ?_
  refine m_takes (p := p + 1) S40 F40.2 (by omega) (by decide) (fun y213 c213 P213 => ?_) (fun y213 c213 P213 Z213 => ?_)
  · have F213 := MP_tr F40 P213
    have S213 := MS_fr S40 P213.1
    refine r_ifeqF 219 dX11_oneLaw_216 rfl 250 (by decide) (by decide) (by decide) ?_
    refine r_aloadN 220 dX11_oneLaw_219 rfl rfl ?_
    refine r_bipush 222 dX11_oneLaw_220 rfl (by decide) ?_
    refine r_cv1 225 dX11_oneLaw_222 rfl gX11_232 rfl (by decide) (sh_50 z _) rfl rfl (Nat.le_of_ble_eq_true rfl) (Nat.le_of_ble_eq_true rfl) rfl ?_
    refine m_takes (p := p + 1 + 1) S213 F213.2 (by omega) (by decide) (fun y222 c222 P222 => ?_) (fun y222 c222 P222 Z222 => ?_)
    · have F222 := MP_tr F213 P222
      have S222 := MS_fr S213 P222.1
      refine r_ifeqF 228 dX11_oneLaw_225 rfl 250 (by decide) (by decide) (by decide) ?_
      refine r_aloadN 229 dX11_oneLaw_228 rfl rfl ?_
      refine r_bipush 231 dX11_oneLaw_229 rfl (by decide) ?_
      refine r_cv1 234 dX11_oneLaw_231 rfl gX11_232 rfl (by decide) (sh_50 z _) rfl rfl (Nat.le_of_ble_eq_true rfl) (Nat.le_of_ble_eq_true rfl) rfl ?_
      refine m_takes (p := p + 1 + 1 + 1) S222 F222.2 (by omega) (by decide) (fun y231 c231 P231 => ?_) (fun y231 c231 P231 Z231 => ?_)
      · have F231 := MP_tr F222 P231
        have S231 := MS_fr S222 P231.1
        refine r_ifeqF 237 dX11_oneLaw_234 rfl 250 (by decide) (by decide) (by decide) ?_
        refine r_aloadN 238 dX11_oneLaw_237 rfl rfl ?_
        refine r_bipush 240 dX11_oneLaw_238 rfl (by decide) ?_
        refine r_cv1 243 dX11_oneLaw_240 rfl gX11_232 rfl (by decide) (sh_50 z _) rfl rfl (Nat.le_of_ble_eq_true rfl) (Nat.le_of_ble_eq_true rfl) rfl ?_
        refine m_takes (p := p + 1 + 1 + 1 + 1) S231 F231.2 (by omega) (by decide) (fun y240 c240 P240 => ?_) (fun y240 c240 P240 Z240 => ?_)
        · have F240 := MP_tr F231 P240
          have S240 := MS_fr S231 P240.1
          refine r_ifeqF 246 dX11_oneLaw_243 rfl 250 (by decide) (by decide) (by decide) ?_
          refine r_iconst 247 dX11_oneLaw_246 rfl ?_
          refine r_goto 251 dX11_oneLaw_247 (by decide) ?_
          refine r_istore3 252 dX11_oneLaw_251 rfl rfl (by decide) ?_
          refine r_goto 398 dX11_oneLaw_252 (by decide) ?_
          refine r_iloadN 399 dX11_oneLaw_398 rfl rfl ?_
          refine r_iconst 400 dX11_oneLaw_399 rfl ?_
          refine r_iceq 408 403 dX11_oneLaw_400 rfl (by decide) (by omega) (by omega) (fun h400 => ?_) (fun h400 => False.elim (by omega))
          refine r_iconst 409 dX11_oneLaw_408 rfl ?_
          refine r_goto 413 dX11_oneLaw_409 (by decide) ?_
          refine r_istore4 415 dX11_oneLaw_413 rfl rfl (by decide) ?_
          refine r_iloadN 416 dX11_oneLaw_415 rfl rfl ?_
          refine r_ifeqF 419 dX11_oneLaw_416 rfl 468 (by decide) (by decide) (by decide) ?_
          refine r_aloadN 420 dX11_oneLaw_419 rfl rfl ?_
          refine r_bipush 422 dX11_oneLaw_420 rfl (by decide) ?_
          refine r_cv1 425 dX11_oneLaw_422 rfl gX11_232 rfl (by decide) (sh_50 z _) rfl rfl (Nat.le_of_ble_eq_true rfl) (Nat.le_of_ble_eq_true rfl) rfl ?_
          refine m_takes (p := p + 1 + 1 + 1 + 1 + 1) S240 F240.2 (by omega) (by decide) (fun y422 c422 P422 => ?_) (fun y422 c422 P422 Z422 => ?_)
          · have F422 := MP_tr F240 P422
            have S422 := MS_fr S240 P422.1
            refine r_ifeqF 428 dX11_oneLaw_425 rfl 468 (by decide) (by decide) (by decide) ?_
            refine r_aloadN 429 dX11_oneLaw_428 rfl rfl ?_
            refine r_iload 431 dX11_oneLaw_429 rfl rfl ?_
            refine r_ifeqF 434 dX11_oneLaw_431 rfl 438 (by decide) (by decide) (by decide) ?_
            refine r_iconst 435 dX11_oneLaw_434 rfl ?_
            refine r_goto 439 dX11_oneLaw_435 (by decide) ?_
            refine r_iload 441 dX11_oneLaw_439 rfl rfl ?_
            refine r_ifeqF 444 dX11_oneLaw_441 rfl 449 (by decide) (by decide) (by decide) ?_
            refine r_bipush 446 dX11_oneLaw_444 rfl (by decide) ?_
            refine r_goto 462 dX11_oneLaw_446 (by decide) ?_
            refine r_cv2 465 dX11_oneLaw_462 rfl gX11_235 rfl (by decide) (sh_50 z _) rfl rfl (Nat.le_of_ble_eq_true rfl) (Nat.le_of_ble_eq_true rfl) rfl ?_
            refine m_number (p := p + 1 + 1 + 1 + 1 + 1 + 1) S422 F422.2 (by omega) (by decide) (by decide) (fun c462 d462 P462 v462 => ?_) (fun c462 d462 P462 => ?_)
            · have hsq : tSq (eT L s) e (nm 2) p = (p + 1 + 1 + 1 + 1 + 1 + 1, true) := by
                show tSq (eT L s) e [114, 105, 103, 104, 116, 32] p = _
                rw [tSq, if_pos ⟨hpe, e9⟩, tSq, if_pos y213, tSq, if_pos y222, tSq, if_pos y231, tSq, if_pos y240, tSq, if_pos y422, tSq]
              have hsn : tSN (eT L s) e (nm 2) (lwl 2) (lwh 2) p = true := by unfold tSN; rw [hsq, Bool.true_and]; exact d462
              have F462 := MP_tr F422 P462
              have hq9 := MLw_fr hQ F462.1
              refine r_ifneT 470 0 dX11_oneLaw_465 (by decide) (by decide) (by decide) ?_
              refine r_aloadN 471 dX11_oneLaw_470 rfl rfl ?_
              refine r_getq 474 dX11_oneLaw_471 rfl fX11_138 (by decide) (sh_50 z _) rfl ?_
              refine r_aloadN 475 dX11_oneLaw_474 rfl rfl ?_
              refine r_geti 478 dX11_oneLaw_475 rfl fX11_238 (by decide) (sh_50 z _) rfl ?_
              rw [hq9.1]
              refine r_iloadN 479 dX11_oneLaw_478 rfl rfl ?_
              refine r_iast (n := 60) 480 dX11_oneLaw_479 (l.length) rfl rfl (by decide) (sh_51 z _) (by decide) (by omega) (by omega) ?_
              refine r_aloadN 481 dX11_oneLaw_480 rfl rfl ?_
              refine r_getq 484 dX11_oneLaw_481 rfl fX11_141 (by decide) (sh_50 z _) rfl ?_
              refine r_aloadN 485 dX11_oneLaw_484 rfl rfl ?_
              refine r_geti 488 dX11_oneLaw_485 rfl fX11_238 (by decide) (sh_50 z _) rfl ?_
              rw [cu_ap, if_neg (by omega), hq9.1]
              refine r_aloadN 489 dX11_oneLaw_488 rfl rfl ?_
              refine r_geti 492 dX11_oneLaw_489 rfl fX11_225 (by decide) (sh_50 z _) rfl ?_
              rw [cu_ap, if_neg (by omega), v462]
              refine r_iast (n := 60) 493 dX11_oneLaw_492 (l.length) rfl rfl (by decide) (sh_51 z _) (by decide) (by omega) (by omega) ?_
              refine r_aloadN 494 dX11_oneLaw_493 rfl rfl ?_
              refine r_dupr 495 dX11_oneLaw_494 rfl ?_
              refine r_geti 498 dX11_oneLaw_495 rfl fX11_238 (by decide) (sh_50 z _) rfl ?_
              rw [cu_ap, if_neg (by omega), cu_ap, if_neg (by omega), hq9.1]
              refine r_iconst 499 dX11_oneLaw_498 rfl ?_
              refine r_iadd 500 dX11_oneLaw_499 rfl ?_
              refine r_puti 503 dX11_oneLaw_500 rfl pX11_238 (by decide) (sh_50 z _) rfl ?_
              refine r_iconst 504 dX11_oneLaw_503 rfl ?_
              have hq8 : lQ (eT L s) e p = (tNum (eT L s) e 3 (p + 1 + 1 + 1 + 1 + 1 + 1) 0).1 := by rw [hw9.2.2.1]; unfold tSQ; rw [hsq]
              have hv8 : lV (eT L s) e p = (tNum (eT L s) e 3 (p + 1 + 1 + 1 + 1 + 1 + 1) 0).2 := by rw [hw9.2.2.2]; unfold tSV; rw [hsq]
              have htw : tW (eT L s) e p = 2 := tW_2 hpe e9
              refine r_zret dX11_oneLaw_504 rfl (by decide) (k1 _ (by rw [hw9.1]; exact hsn) (fun g i j n1 n2 => ?_) ?_ ⟨?_, fun j hj => ?_⟩)
              · rw [cu_ap, if_neg (by omega), cu_ap, if_neg (by omega), cu_ap, if_neg (by omega)]
                exact F462.1 g i j (by omega)
              · rw [cu_ap, if_neg (by omega), cu_ap, if_neg (by omega), cu_ap, if_neg (by omega), hq8]
                exact F462.2
              · rw [cu_ap, if_pos ⟨rfl, rfl, rfl⟩, List.length_append]
                show ((l.length : Nat) : Int) + 1 = ((l.length + 1 : Nat) : Int)
                omega
              · rw [List.length_append] at hj
                have hj2 : j < l.length + 1 := hj
                rw [getD_app3, htw, hv8]
                by_cases q : j = l.length
                · rw [if_pos q, q, cu_ap, if_neg (by omega), cu_ap, if_neg (by omega), cu_ap, if_pos ⟨rfl, rfl, rfl⟩, cu_ap, if_neg (by omega), cu_ap, if_pos ⟨rfl, rfl, rfl⟩]
                  exact ⟨rfl, rfl⟩
                · rw [if_neg q, cu_ap, if_neg (by omega), cu_ap, if_neg (by omega), cu_ap, if_neg (by omega), cu_ap, if_neg (by omega), cu_ap, if_neg (by omega), cu_ap, if_neg (by omega)]
                  exact hq9.2 j (by omega)
            · have hsq : tSq (eT L s) e (nm 2) p = (p + 1 + 1 + 1 + 1 + 1 + 1, true) := by
                show tSq (eT L s) e [114, 105, 103, 104, 116, 32] p = _
                rw [tSq, if_pos ⟨hpe, e9⟩, tSq, if_pos y213, tSq, if_pos y222, tSq, if_pos y231, tSq, if_pos y240, tSq, if_pos y422, tSq]
              have hsn : tSN (eT L s) e (nm 2) (lwl 2) (lwh 2) p = false := by unfold tSN; rw [hsq, Bool.true_and]; exact d462
              refine r_ifneF 468 dX11_oneLaw_465 rfl 470 (by decide) (by decide) (by decide) ?_
              refine r_iconst 469 dX11_oneLaw_468 rfl ?_
              have hB := MB_tr F422 P462
              exact r_zret dX11_oneLaw_469 rfl (by decide) (k0 _ (by rw [hw9.1]; exact hsn) (MF_ML hB.1) (by rw [hw9.2.1]; unfold tSF; rw [hsq]; exact hB.2))
          · refine r_ifeqT 468 0 dX11_oneLaw_425 (by decide) (by decide) (by decide) ?_
            refine r_iconst 469 dX11_oneLaw_468 rfl ?_
            have hsq : tSq (eT L s) e (nm 2) p = (p + 1 + 1 + 1 + 1 + 1, false) := by
              show tSq (eT L s) e [114, 105, 103, 104, 116, 32] p = _
              rw [tSq, if_pos ⟨hpe, e9⟩, tSq, if_pos y213, tSq, if_pos y222, tSq, if_pos y231, tSq, if_pos y240, tSq, if_neg y422]
            have hB := MB_tr F240 P422
            exact r_zret dX11_oneLaw_469 rfl (by decide) (k0 _ (by rw [hw9.1]; unfold tSN; rw [hsq]; rfl) (MF_ML hB.1) (by rw [hw9.2.1]; unfold tSF; rw [hsq]; exact hB.2))
        · refine r_ifeqT 250 0 dX11_oneLaw_243 (by decide) (by decide) (by decide) ?_
          refine r_iconst 251 dX11_oneLaw_250 rfl ?_
          refine r_istore3 252 dX11_oneLaw_251 rfl rfl (by decide) ?_
          refine r_goto 398 dX11_oneLaw_252 (by decide) ?_
          refine r_iloadN 399 dX11_oneLaw_398 rfl rfl ?_
          refine r_iconst 400 dX11_oneLaw_399 rfl ?_
          refine r_iceq 408 403 dX11_oneLaw_400 rfl (by decide) (by omega) (by omega) (fun h400 => ?_) (fun h400 => False.elim (by omega))
          refine r_iconst 409 dX11_oneLaw_408 rfl ?_
          refine r_goto 413 dX11_oneLaw_409 (by decide) ?_
          refine r_istore4 415 dX11_oneLaw_413 rfl rfl (by decide) ?_
          refine r_iloadN 416 dX11_oneLaw_415 rfl rfl ?_
          refine r_ifeqT 468 0 dX11_oneLaw_416 (by decide) (by decide) (by decide) ?_
          refine r_iconst 469 dX11_oneLaw_468 rfl ?_
          have hsq : tSq (eT L s) e (nm 2) p = (p + 1 + 1 + 1 + 1, false) := by
            show tSq (eT L s) e [114, 105, 103, 104, 116, 32] p = _
            rw [tSq, if_pos ⟨hpe, e9⟩, tSq, if_pos y213, tSq, if_pos y222, tSq, if_pos y231, tSq, if_neg y240]
          have hB := MB_tr F231 P240
          exact r_zret dX11_oneLaw_469 rfl (by decide) (k0 _ (by rw [hw9.1]; unfold tSN; rw [hsq]; rfl) (MF_ML hB.1) (by rw [hw9.2.1]; unfold tSF; rw [hsq]; exact hB.2))
      · refine r_ifeqT 250 0 dX11_oneLaw_234 (by decide) (by decide) (by decide) ?_
        refine r_iconst 251 dX11_oneLaw_250 rfl ?_
        refine r_istore3 252 dX11_oneLaw_251 rfl rfl (by decide) ?_
        refine r_goto 398 dX11_oneLaw_252 (by decide) ?_
        refine r_iloadN 399 dX11_oneLaw_398 rfl rfl ?_
        refine r_iconst 400 dX11_oneLaw_399 rfl ?_
        refine r_iceq 408 403 dX11_oneLaw_400 rfl (by decide) (by omega) (by omega) (fun h400 => ?_) (fun h400 => False.elim (by omega))
        refine r_iconst 409 dX11_oneLaw_408 rfl ?_
        refine r_goto 413 dX11_oneLaw_409 (by decide) ?_
        refine r_istore4 415 dX11_oneLaw_413 rfl rfl (by decide) ?_
        refine r_iloadN 416 dX11_oneLaw_415 rfl rfl ?_
        refine r_ifeqT 468 0 dX11_oneLaw_416 (by decide) (by decide) (by decide) ?_
        refine r_iconst 469 dX11_oneLaw_468 rfl ?_
        have hsq : tSq (eT L s) e (nm 2) p = (p + 1 + 1 + 1, false) := by
          show tSq (eT L s) e [114, 105, 103, 104, 116, 32] p = _
          rw [tSq, if_pos ⟨hpe, e9⟩, tSq, if_pos y213, tSq, if_pos y222, tSq, if_neg y231]
        have hB := MB_tr F222 P231
        exact r_zret dX11_oneLaw_469 rfl (by decide) (k0 _ (by rw [hw9.1]; unfold tSN; rw [hsq]; rfl) (MF_ML hB.1) (by rw [hw9.2.1]; unfold tSF; rw [hsq]; exact hB.2))
    · refine r_ifeqT 250 0 dX11_oneLaw_225 (by decide) (by decide) (by decide) ?_
      refine r_iconst 251 dX11_oneLaw_250 rfl ?_
      refine r_istore3 252 dX11_oneLaw_251 rfl rfl (by decide) ?_
      refine r_goto 398 dX11_oneLaw_252 (by decide) ?_
      refine r_iloadN 399 dX11_oneLaw_398 rfl rfl ?_
      refine r_iconst 400 dX11_oneLaw_399 rfl ?_
      refine r_iceq 408 403 dX11_oneLaw_400 rfl (by decide) (by omega) (by omega) (fun h400 => ?_) (fun h400 => False.elim (by omega))
      refine r_iconst 409 dX11_oneLaw_408 rfl ?_
      refine r_goto 413 dX11_oneLaw_409 (by decide) ?_
      refine r_istore4 415 dX11_oneLaw_413 rfl rfl (by decide) ?_
      refine r_iloadN 416 dX11_oneLaw_415 rfl rfl ?_
      refine r_ifeqT 468 0 dX11_oneLaw_416 (by decide) (by decide) (by decide) ?_
      refine r_iconst 469 dX11_oneLaw_468 rfl ?_
      have hsq : tSq (eT L s) e (nm 2) p = (p + 1 + 1, false) := by
        show tSq (eT L s) e [114, 105, 103, 104, 116, 32] p = _
        rw [tSq, if_pos ⟨hpe, e9⟩, tSq, if_pos y213, tSq, if_neg y222]
      have hB := MB_tr F213 P222
      exact r_zret dX11_oneLaw_469 rfl (by decide) (k0 _ (by rw [hw9.1]; unfold tSN; rw [hsq]; rfl) (MF_ML hB.1) (by rw [hw9.2.1]; unfold tSF; rw [hsq]; exact hB.2))
  · refine r_ifeqT 250 0 dX11_oneLaw_216 (by decide) (by decide) (by decide) ?_
    refine r_iconst 251 dX11_oneLaw_250 rfl ?_
    refine r_istore3 252 dX11_oneLaw_251 rfl rfl (by decide) ?_
    refine r_goto 398 dX11_oneLaw_252 (by decide) ?_
    refine r_iloadN 399 dX11_oneLaw_398 rfl rfl ?_
    refine r_iconst 400 dX11_oneLaw_399 rfl ?_
    refine r_iceq 408 403 dX11_oneLaw_400 rfl (by decide) (by omega) (by omega) (fun h400 => ?_) (fun h400 => False.elim (by omega))
    refine r_iconst 409 dX11_oneLaw_408 rfl ?_
    refine r_goto 413 dX11_oneLaw_409 (by decide) ?_
    refine r_istore4 415 dX11_oneLaw_413 rfl rfl (by decide) ?_
    refine r_iloadN 416 dX11_oneLaw_415 rfl rfl ?_
    refine r_ifeqT 468 0 dX11_oneLaw_416 (by decide) (by decide) (by decide) ?_
    refine r_iconst 469 dX11_oneLaw_468 rfl ?_
    have hsq : tSq (eT L s) e (nm 2) p = (p + 1, false) := by
      show tSq (eT L s) e [114, 105, 103, 104, 116, 32] p = _
      rw [tSq, if_pos ⟨hpe, e9⟩, tSq, if_neg y213]
    have hB := MB_tr F40 P213
    exact r_zret dX11_oneLaw_469 rfl (by decide) (k0 _ (by rw [hw9.1]; unfold tSN; rw [hsq]; rfl) (MF_ML hB.1) (by rw [hw9.2.1]; unfold tSF; rw [hsq]; exact hB.2))
theorem m_lw3 {z : xZ} {d : Nat} {Q : tQ} {c c1 : tC} {L : tL} {s e p : Nat} {l : List (Nat × Int)} {x1 : Int} (hpe : p < e) (e9 : eT L s p = 119) (F40 : MP c c1 (p + 1)) (S40 : MS c1 s e) (hQ : MLw c l) (hl : l.length < 60) (k1 : ∀ c2, lOk (eT L s) e p = true → ML c c2 → c2 50 0 51 = ((lQ (eT L s) e p : Nat) : Int) → MLw c2 (l ++ [(tW (eT L s) e p, lV (eT L s) e p)]) → Q (some (.int (iI 1))) c2 L) (k0 : ∀ c2, lOk (eT L s) e p = false → ML c c2 → c2 50 0 55 = ((lF (eT L s) e p : Nat) : Int) → Q (some (.int (iI 0))) c2 L) : En z (d + 4) MX11_oneLaw Q 255 [some (.ref (xad z 50 0)), some (.int (iI x1)), none, none, none] [] c1 L := by
  have hs2 := S40.2.2.1
  have hw9 := lOk_w (tW_3 (T := eT L s) hpe e9) (by decide)
  refine r_iconst 256 dX11_oneLaw_255 rfl ?_
  refine r_istore2 257 dX11_oneLaw_256 rfl rfl (by decide) ?_
  refine r_aloadN 258 dX11_oneLaw_257 rfl rfl ?_
  refine r_bipush 260 dX11_oneLaw_258 rfl (by decide) ?_
  refine r_cv1 263 dX11_oneLaw_260 rfl gX11_232 rfl (by decide) (sh_50 z _) rfl rfl (Nat.le_of_ble_eq_true rfl) (Nat.le_of_ble_eq_true rfl) rfl ?_
  refine m_takes (p := p + 1) S40 F40.2 (by omega) (by decide) (fun y260 c260 P260 => ?_) (fun y260 c260 P260 Z260 => ?_)
  · have F260 := MP_tr F40 P260
    have S260 := MS_fr S40 P260.1
    refine r_ifeqF 266 dX11_oneLaw_263 rfl 297 (by decide) (by decide) (by decide) ?_
    refine r_aloadN 267 dX11_oneLaw_266 rfl rfl ?_
    refine r_bipush 269 dX11_oneLaw_267 rfl (by decide) ?_
    refine r_cv1 272 dX11_oneLaw_269 rfl gX11_232 rfl (by decide) (sh_50 z _) rfl rfl (Nat.le_of_ble_eq_true rfl) (Nat.le_of_ble_eq_true rfl) rfl ?_
    refine m_takes (p := p + 1 + 1) S260 F260.2 (by omega) (by decide) (fun y269 c269 P269 => ?_) (fun y269 c269 P269 Z269 => ?_)
    · have F269 := MP_tr F260 P269
      have S269 := MS_fr S260 P269.1
      refine r_ifeqF 275 dX11_oneLaw_272 rfl 297 (by decide) (by decide) (by decide) ?_
      refine r_aloadN 276 dX11_oneLaw_275 rfl rfl ?_
      refine r_bipush 278 dX11_oneLaw_276 rfl (by decide) ?_
      refine r_cv1 281 dX11_oneLaw_278 rfl gX11_232 rfl (by decide) (sh_50 z _) rfl rfl (Nat.le_of_ble_eq_true rfl) (Nat.le_of_ble_eq_true rfl) rfl ?_
      refine m_takes (p := p + 1 + 1 + 1) S269 F269.2 (by omega) (by decide) (fun y278 c278 P278 => ?_) (fun y278 c278 P278 Z278 => ?_)
      · have F278 := MP_tr F269 P278
        have S278 := MS_fr S269 P278.1
        refine r_ifeqF 284 dX11_oneLaw_281 rfl 297 (by decide) (by decide) (by decide) ?_
        refine r_aloadN 285 dX11_oneLaw_284 rfl rfl ?_
        refine r_bipush 287 dX11_oneLaw_285 rfl (by decide) ?_
        refine r_cv1 290 dX11_oneLaw_287 rfl gX11_232 rfl (by decide) (sh_50 z _) rfl rfl (Nat.le_of_ble_eq_true rfl) (Nat.le_of_ble_eq_true rfl) rfl ?_
        refine m_takes (p := p + 1 + 1 + 1 + 1) S278 F278.2 (by omega) (by decide) (fun y287 c287 P287 => ?_) (fun y287 c287 P287 Z287 => ?_)
        · have F287 := MP_tr F278 P287
          have S287 := MS_fr S278 P287.1
          refine r_ifeqF 293 dX11_oneLaw_290 rfl 297 (by decide) (by decide) (by decide) ?_
          refine r_iconst 294 dX11_oneLaw_293 rfl ?_
          refine r_goto 298 dX11_oneLaw_294 (by decide) ?_
          refine r_istore3 299 dX11_oneLaw_298 rfl rfl (by decide) ?_
          refine r_goto 398 dX11_oneLaw_299 (by decide) ?_
          refine r_iloadN 399 dX11_oneLaw_398 rfl rfl ?_
          refine r_iconst 400 dX11_oneLaw_399 rfl ?_
          refine r_iceq 408 403 dX11_oneLaw_400 rfl (by decide) (by omega) (by omega) (fun h400 => False.elim (by omega)) (fun h400 => ?_)
          refine r_iloadN 404 dX11_oneLaw_403 rfl rfl ?_
          refine r_iconst 405 dX11_oneLaw_404 rfl ?_
          refine r_icne 412 408 dX11_oneLaw_405 rfl (by decide) (by omega) (by omega) (fun h405 => False.elim (by omega)) (fun h405 => ?_)
          refine r_iconst 409 dX11_oneLaw_408 rfl ?_
          refine r_goto 413 dX11_oneLaw_409 (by decide) ?_
          refine r_istore4 415 dX11_oneLaw_413 rfl rfl (by decide) ?_
          refine r_iloadN 416 dX11_oneLaw_415 rfl rfl ?_
          refine r_ifeqF 419 dX11_oneLaw_416 rfl 468 (by decide) (by decide) (by decide) ?_
          refine r_aloadN 420 dX11_oneLaw_419 rfl rfl ?_
          refine r_bipush 422 dX11_oneLaw_420 rfl (by decide) ?_
          refine r_cv1 425 dX11_oneLaw_422 rfl gX11_232 rfl (by decide) (sh_50 z _) rfl rfl (Nat.le_of_ble_eq_true rfl) (Nat.le_of_ble_eq_true rfl) rfl ?_
          refine m_takes (p := p + 1 + 1 + 1 + 1 + 1) S287 F287.2 (by omega) (by decide) (fun y422 c422 P422 => ?_) (fun y422 c422 P422 Z422 => ?_)
          · have F422 := MP_tr F287 P422
            have S422 := MS_fr S287 P422.1
            refine r_ifeqF 428 dX11_oneLaw_425 rfl 468 (by decide) (by decide) (by decide) ?_
            refine r_aloadN 429 dX11_oneLaw_428 rfl rfl ?_
            refine r_iload 431 dX11_oneLaw_429 rfl rfl ?_
            refine r_ifeqF 434 dX11_oneLaw_431 rfl 438 (by decide) (by decide) (by decide) ?_
            refine r_iconst 435 dX11_oneLaw_434 rfl ?_
            refine r_goto 439 dX11_oneLaw_435 (by decide) ?_
            refine r_iload 441 dX11_oneLaw_439 rfl rfl ?_
            refine r_ifeqF 444 dX11_oneLaw_441 rfl 449 (by decide) (by decide) (by decide) ?_
            refine r_bipush 446 dX11_oneLaw_444 rfl (by decide) ?_
            refine r_goto 462 dX11_oneLaw_446 (by decide) ?_
            refine r_cv2 465 dX11_oneLaw_462 rfl gX11_235 rfl (by decide) (sh_50 z _) rfl rfl (Nat.le_of_ble_eq_true rfl) (Nat.le_of_ble_eq_true rfl) rfl ?_
            refine m_number (p := p + 1 + 1 + 1 + 1 + 1 + 1) S422 F422.2 (by omega) (by decide) (by decide) (fun c462 d462 P462 v462 => ?_) (fun c462 d462 P462 => ?_)
            · have hsq : tSq (eT L s) e (nm 3) p = (p + 1 + 1 + 1 + 1 + 1 + 1, true) := by
                show tSq (eT L s) e [119, 114, 111, 110, 103, 32] p = _
                rw [tSq, if_pos ⟨hpe, e9⟩, tSq, if_pos y260, tSq, if_pos y269, tSq, if_pos y278, tSq, if_pos y287, tSq, if_pos y422, tSq]
              have hsn : tSN (eT L s) e (nm 3) (lwl 3) (lwh 3) p = true := by unfold tSN; rw [hsq, Bool.true_and]; exact d462
              have F462 := MP_tr F422 P462
              have hq9 := MLw_fr hQ F462.1
              refine r_ifneT 470 0 dX11_oneLaw_465 (by decide) (by decide) (by decide) ?_
              refine r_aloadN 471 dX11_oneLaw_470 rfl rfl ?_
              refine r_getq 474 dX11_oneLaw_471 rfl fX11_138 (by decide) (sh_50 z _) rfl ?_
              refine r_aloadN 475 dX11_oneLaw_474 rfl rfl ?_
              refine r_geti 478 dX11_oneLaw_475 rfl fX11_238 (by decide) (sh_50 z _) rfl ?_
              rw [hq9.1]
              refine r_iloadN 479 dX11_oneLaw_478 rfl rfl ?_
              refine r_iast (n := 60) 480 dX11_oneLaw_479 (l.length) rfl rfl (by decide) (sh_51 z _) (by decide) (by omega) (by omega) ?_
              refine r_aloadN 481 dX11_oneLaw_480 rfl rfl ?_
              refine r_getq 484 dX11_oneLaw_481 rfl fX11_141 (by decide) (sh_50 z _) rfl ?_
              refine r_aloadN 485 dX11_oneLaw_484 rfl rfl ?_
              refine r_geti 488 dX11_oneLaw_485 rfl fX11_238 (by decide) (sh_50 z _) rfl ?_
              rw [cu_ap, if_neg (by omega), hq9.1]
              refine r_aloadN 489 dX11_oneLaw_488 rfl rfl ?_
              refine r_geti 492 dX11_oneLaw_489 rfl fX11_225 (by decide) (sh_50 z _) rfl ?_
              rw [cu_ap, if_neg (by omega), v462]
              refine r_iast (n := 60) 493 dX11_oneLaw_492 (l.length) rfl rfl (by decide) (sh_51 z _) (by decide) (by omega) (by omega) ?_
              refine r_aloadN 494 dX11_oneLaw_493 rfl rfl ?_
              refine r_dupr 495 dX11_oneLaw_494 rfl ?_
              refine r_geti 498 dX11_oneLaw_495 rfl fX11_238 (by decide) (sh_50 z _) rfl ?_
              rw [cu_ap, if_neg (by omega), cu_ap, if_neg (by omega), hq9.1]
              refine r_iconst 499 dX11_oneLaw_498 rfl ?_
              refine r_iadd 500 dX11_oneLaw_499 rfl ?_
              refine r_puti 503 dX11_oneLaw_500 rfl pX11_238 (by decide) (sh_50 z _) rfl ?_
              refine r_iconst 504 dX11_oneLaw_503 rfl ?_
              have hq8 : lQ (eT L s) e p = (tNum (eT L s) e 3 (p + 1 + 1 + 1 + 1 + 1 + 1) 0).1 := by rw [hw9.2.2.1]; unfold tSQ; rw [hsq]
              have hv8 : lV (eT L s) e p = (tNum (eT L s) e 3 (p + 1 + 1 + 1 + 1 + 1 + 1) 0).2 := by rw [hw9.2.2.2]; unfold tSV; rw [hsq]
              have htw : tW (eT L s) e p = 3 := tW_3 hpe e9
              refine r_zret dX11_oneLaw_504 rfl (by decide) (k1 _ (by rw [hw9.1]; exact hsn) (fun g i j n1 n2 => ?_) ?_ ⟨?_, fun j hj => ?_⟩)
              · rw [cu_ap, if_neg (by omega), cu_ap, if_neg (by omega), cu_ap, if_neg (by omega)]
                exact F462.1 g i j (by omega)
              · rw [cu_ap, if_neg (by omega), cu_ap, if_neg (by omega), cu_ap, if_neg (by omega), hq8]
                exact F462.2
              · rw [cu_ap, if_pos ⟨rfl, rfl, rfl⟩, List.length_append]
                show ((l.length : Nat) : Int) + 1 = ((l.length + 1 : Nat) : Int)
                omega
              · rw [List.length_append] at hj
                have hj2 : j < l.length + 1 := hj
                rw [getD_app3, htw, hv8]
                by_cases q : j = l.length
                · rw [if_pos q, q, cu_ap, if_neg (by omega), cu_ap, if_neg (by omega), cu_ap, if_pos ⟨rfl, rfl, rfl⟩, cu_ap, if_neg (by omega), cu_ap, if_pos ⟨rfl, rfl, rfl⟩]
                  exact ⟨rfl, rfl⟩
                · rw [if_neg q, cu_ap, if_neg (by omega), cu_ap, if_neg (by omega), cu_ap, if_neg (by omega), cu_ap, if_neg (by omega), cu_ap, if_neg (by omega), cu_ap, if_neg (by omega)]
                  exact hq9.2 j (by omega)
            · have hsq : tSq (eT L s) e (nm 3) p = (p + 1 + 1 + 1 + 1 + 1 + 1, true) := by
                show tSq (eT L s) e [119, 114, 111, 110, 103, 32] p = _
                rw [tSq, if_pos ⟨hpe, e9⟩, tSq, if_pos y260, tSq, if_pos y269, tSq, if_pos y278, tSq, if_pos y287, tSq, if_pos y422, tSq]
              have hsn : tSN (eT L s) e (nm 3) (lwl 3) (lwh 3) p = false := by unfold tSN; rw [hsq, Bool.true_and]; exact d462
              refine r_ifneF 468 dX11_oneLaw_465 rfl 470 (by decide) (by decide) (by decide) ?_
              refine r_iconst 469 dX11_oneLaw_468 rfl ?_
              have hB := MB_tr F422 P462
              exact r_zret dX11_oneLaw_469 rfl (by decide) (k0 _ (by rw [hw9.1]; exact hsn) (MF_ML hB.1) (by rw [hw9.2.1]; unfold tSF; rw [hsq]; exact hB.2))
          · refine r_ifeqT 468 0 dX11_oneLaw_425 (by decide) (by decide) (by decide) ?_
            refine r_iconst 469 dX11_oneLaw_468 rfl ?_
            have hsq : tSq (eT L s) e (nm 3) p = (p + 1 + 1 + 1 + 1 + 1, false) := by
              show tSq (eT L s) e [119, 114, 111, 110, 103, 32] p = _
              rw [tSq, if_pos ⟨hpe, e9⟩, tSq, if_pos y260, tSq, if_pos y269, tSq, if_pos y278, tSq, if_pos y287, tSq, if_neg y422]
            have hB := MB_tr F287 P422
            exact r_zret dX11_oneLaw_469 rfl (by decide) (k0 _ (by rw [hw9.1]; unfold tSN; rw [hsq]; rfl) (MF_ML hB.1) (by rw [hw9.2.1]; unfold tSF; rw [hsq]; exact hB.2))
        · refine r_ifeqT 297 0 dX11_oneLaw_290 (by decide) (by decide) (by decide) ?_
          refine r_iconst 298 dX11_oneLaw_297 rfl ?_
          refine r_istore3 299 dX11_oneLaw_298 rfl rfl (by decide) ?_
          refine r_goto 398 dX11_oneLaw_299 (by decide) ?_
          refine r_iloadN 399 dX11_oneLaw_398 rfl rfl ?_
          refine r_iconst 400 dX11_oneLaw_399 rfl ?_
          refine r_iceq 408 403 dX11_oneLaw_400 rfl (by decide) (by omega) (by omega) (fun h400 => False.elim (by omega)) (fun h400 => ?_)
          refine r_iloadN 404 dX11_oneLaw_403 rfl rfl ?_
          refine r_iconst 405 dX11_oneLaw_404 rfl ?_
          refine r_icne 412 408 dX11_oneLaw_405 rfl (by decide) (by omega) (by omega) (fun h405 => False.elim (by omega)) (fun h405 => ?_)
          refine r_iconst 409 dX11_oneLaw_408 rfl ?_
          refine r_goto 413 dX11_oneLaw_409 (by decide) ?_
          refine r_istore4 415 dX11_oneLaw_413 rfl rfl (by decide) ?_
          refine r_iloadN 416 dX11_oneLaw_415 rfl rfl ?_
          refine r_ifeqT 468 0 dX11_oneLaw_416 (by decide) (by decide) (by decide) ?_
          refine r_iconst 469 dX11_oneLaw_468 rfl ?_
          have hsq : tSq (eT L s) e (nm 3) p = (p + 1 + 1 + 1 + 1, false) := by
            show tSq (eT L s) e [119, 114, 111, 110, 103, 32] p = _
            rw [tSq, if_pos ⟨hpe, e9⟩, tSq, if_pos y260, tSq, if_pos y269, tSq, if_pos y278, tSq, if_neg y287]
          have hB := MB_tr F278 P287
          exact r_zret dX11_oneLaw_469 rfl (by decide) (k0 _ (by rw [hw9.1]; unfold tSN; rw [hsq]; rfl) (MF_ML hB.1) (by rw [hw9.2.1]; unfold tSF; rw [hsq]; exact hB.2))
      · refine r_ifeqT 297 0 dX11_oneLaw_281 (by decide) (by decide) (by decide) ?_
        refine r_iconst 298 dX11_oneLaw_297 rfl ?_
        refine r_istore3 299 dX11_oneLaw_298 rfl rfl (by decide) ?_
        refine r_goto 398 dX11_oneLaw_299 (by decide) ?_
        refine r_iloadN 399 dX11_oneLaw_398 rfl rfl ?_
        refine r_iconst 400 dX11_oneLaw_399 rfl ?_
        refine r_iceq 408 403 dX11_oneLaw_400 rfl (by decide) (by omega) (by omega) (fun h400 => False.elim (by omega)) (fun h400 => ?_)
        refine r_iloadN 404 dX11_oneLaw_403 rfl rfl ?_
        refine r_iconst 405 dX11_oneLaw_404 rfl ?_
        refine r_icne 412 408 dX11_oneLaw_405 rfl (by decide) (by omega) (by omega) (fun h405 => False.elim (by omega)) (fun h405 => ?_)
        refine r_iconst 409 dX11_oneLaw_408 rfl ?_
        refine r_goto 413 dX11_oneLaw_409 (by decide) ?_
        refine r_istore4 415 dX11_oneLaw_413 rfl rfl (by decide) ?_
        refine r_iloadN 416 dX11_oneLaw_415 rfl rfl ?_
        refine r_ifeqT 468 0 dX11_oneLaw_416 (by decide) (by decide) (by decide) ?_
        refine r_iconst 469 dX11_oneLaw_468 rfl ?_
        have hsq : tSq (eT L s) e (nm 3) p = (p + 1 + 1 + 1, false) := by
          show tSq (eT L s) e [119, 114, 111, 110, 103, 32] p = _
          rw [tSq, if_pos ⟨hpe, e9⟩, tSq, if_pos y260, tSq, if_pos y269, tSq, if_neg y278]
        have hB := MB_tr F269 P278
        exact r_zret dX11_oneLaw_469 rfl (by decide) (k0 _ (by rw [hw9.1]; unfold tSN; rw [hsq]; rfl) (MF_ML hB.1) (by rw [hw9.2.1]; unfold tSF; rw [hsq]; exact hB.2))
    · refine r_ifeqT 297 0 dX11_oneLaw_272 (by decide) (by decide) (by decide) ?_
      refine r_iconst 298 dX11_oneLaw_297 rfl ?_
      refine r_istore3 299 dX11_oneLaw_298 rfl rfl (by decide) ?_
      refine r_goto 398 dX11_oneLaw_299 (by decide) ?_
      refine r_iloadN 399 dX11_oneLaw_398 rfl rfl ?_
      refine r_iconst 400 dX11_oneLaw_399 rfl ?_
      refine r_iceq 408 403 dX11_oneLaw_400 rfl (by decide) (by omega) (by omega) (fun h400 => False.elim (by omega)) (fun h400 => ?_)
      refine r_iloadN 404 dX11_oneLaw_403 rfl rfl ?_
      refine r_iconst 405 dX11_oneLaw_404 rfl ?_
      refine r_icne 412 408 dX11_oneLaw_405 rfl (by decide) (by omega) (by omega) (fun h405 => False.elim (by omega)) (fun h405 => ?_)
      refine r_iconst 409 dX11_oneLaw_408 rfl ?_
      refine r_goto 413 dX11_oneLaw_409 (by decide) ?_
      refine r_istore4 415 dX11_oneLaw_413 rfl rfl (by decide) ?_
      refine r_iloadN 416 dX11_oneLaw_415 rfl rfl ?_
      refine r_ifeqT 468 0 dX11_oneLaw_416 (by decide) (by decide) (by decide) ?_
      refine r_iconst 469 dX11_oneLaw_468 rfl ?_
      have hsq : tSq (eT L s) e (nm 3) p = (p + 1 + 1, false) := by
        show tSq (eT L s) e [119, 114, 111, 110, 103, 32] p = _
        rw [tSq, if_pos ⟨hpe, e9⟩, tSq, if_pos y260, tSq, if_neg y269]
      have hB := MB_tr F260 P269
      exact r_zret dX11_oneLaw_469 rfl (by decide) (k0 _ (by rw [hw9.1]; unfold tSN; rw [hsq]; rfl) (MF_ML hB.1) (by rw [hw9.2.1]; unfold tSF; rw [hsq]; exact hB.2))
  · refine r_ifeqT 297 0 dX11_oneLaw_263 (by decide) (by decide) (by decide) ?_
    refine r_iconst 298 dX11_oneLaw_297 rfl ?_
    refine r_istore3 299 dX11_oneLaw_298 rfl rfl (by decide) ?_
    refine r_goto 398 dX11_oneLaw_299 (by decide) ?_
    refine r_iloadN 399 dX11_oneLaw_398 rfl rfl ?_
    refine r_iconst 400 dX11_oneLaw_399 rfl ?_
    refine r_iceq 408 403 dX11_oneLaw_400 rfl (by decide) (by omega) (by omega) (fun h400 => False.elim (by omega)) (fun h400 => ?_)
    refine r_iloadN 404 dX11_oneLaw_403 rfl rfl ?_
    refine r_iconst 405 dX11_oneLaw_404 rfl ?_
    refine r_icne 412 408 dX11_oneLaw_405 rfl (by decide) (by omega) (by omega) (fun h405 => False.elim (by omega)) (fun h405 => ?_)
    refine r_iconst 409 dX11_oneLaw_408 rfl ?_
    refine r_goto 413 dX11_oneLaw_409 (by decide) ?_
    refine r_istore4 415 dX11_oneLaw_413 rfl rfl (by decide) ?_
    refine r_iloadN 416 dX11_oneLaw_415 rfl rfl ?_
    refine r_ifeqT 468 0 dX11_oneLaw_416 (by decide) (by decide) (by decide) ?_
    refine r_iconst 469 dX11_oneLaw_468 rfl ?_
    have hsq : tSq (eT L s) e (nm 3) p = (p + 1, false) := by
      show tSq (eT L s) e [119, 114, 111, 110, 103, 32] p = _
      rw [tSq, if_pos ⟨hpe, e9⟩, tSq, if_neg y260]
    have hB := MB_tr F40 P260
    exact r_zret dX11_oneLaw_469 rfl (by decide) (k0 _ (by rw [hw9.1]; unfold tSN; rw [hsq]; rfl) (MF_ML hB.1) (by rw [hw9.2.1]; unfold tSF; rw [hsq]; exact hB.2))
theorem m_lw4 {z : xZ} {d : Nat} {Q : tQ} {c c1 : tC} {L : tL} {s e p : Nat} {l : List (Nat × Int)} {x1 : Int} (hpe : p < e) (e9 : eT L s p = 115) (F40 : MP c c1 (p + 1)) (S40 : MS c1 s e) (hQ : MLw c l) (hl : l.length < 60) (k1 : ∀ c2, lOk (eT L s) e p = true → ML c c2 → c2 50 0 51 = ((lQ (eT L s) e p : Nat) : Int) → MLw c2 (l ++ [(tW (eT L s) e p, lV (eT L s) e p)]) → Q (some (.int (iI 1))) c2 L) (k0 : ∀ c2, lOk (eT L s) e p = false → ML c c2 → c2 50 0 55 = ((lF (eT L s) e p : Nat) : Int) → Q (some (.int (iI 0))) c2 L) : En z (d + 4) MX11_oneLaw Q 302 [some (.ref (xad z 50 0)), some (.int (iI x1)), none, none, none] [] c1 L := by
  have hs2 := S40.2.2.1
  have hw9 := lOk_w (tW_4 (T := eT L s) hpe e9) (by decide)
  refine r_iconst 303 dX11_oneLaw_302 rfl ?_
  refine r_istore2 304 dX11_oneLaw_303 rfl rfl (by decide) ?_
  refine r_aloadN 305 dX11_oneLaw_304 rfl rfl ?_
  refine r_bipush 307 dX11_oneLaw_305 rfl (by decide) ?_
  refine r_cv1 310 dX11_oneLaw_307 rfl gX11_232 rfl (by decide) (sh_50 z _) rfl rfl (Nat.le_of_ble_eq_true rfl) (Nat.le_of_ble_eq_true rfl) rfl ?_
  refine m_takes (p := p + 1) S40 F40.2 (by omega) (by decide) (fun y307 c307 P307 => ?_) (fun y307 c307 P307 Z307 => ?_)
  · have F307 := MP_tr F40 P307
    have S307 := MS_fr S40 P307.1
    refine r_ifeqF 313 dX11_oneLaw_310 rfl 335 (by decide) (by decide) (by decide) ?_
    refine r_aloadN 314 dX11_oneLaw_313 rfl rfl ?_
    refine r_bipush 316 dX11_oneLaw_314 rfl (by decide) ?_
    refine r_cv1 319 dX11_oneLaw_316 rfl gX11_232 rfl (by decide) (sh_50 z _) rfl rfl (Nat.le_of_ble_eq_true rfl) (Nat.le_of_ble_eq_true rfl) rfl ?_
    refine m_takes (p := p + 1 + 1) S307 F307.2 (by omega) (by decide) (fun y316 c316 P316 => ?_) (fun y316 c316 P316 Z316 => ?_)
    · have F316 := MP_tr F307 P316
      have S316 := MS_fr S307 P316.1
      refine r_ifeqF 322 dX11_oneLaw_319 rfl 335 (by decide) (by decide) (by decide) ?_
      refine r_aloadN 323 dX11_oneLaw_322 rfl rfl ?_
      refine r_bipush 325 dX11_oneLaw_323 rfl (by decide) ?_
      refine r_cv1 328 dX11_oneLaw_325 rfl gX11_232 rfl (by decide) (sh_50 z _) rfl rfl (Nat.le_of_ble_eq_true rfl) (Nat.le_of_ble_eq_true rfl) rfl ?_
      refine m_takes (p := p + 1 + 1 + 1) S316 F316.2 (by omega) (by decide) (fun y325 c325 P325 => ?_) (fun y325 c325 P325 Z325 => ?_)
      · have F325 := MP_tr F316 P325
        have S325 := MS_fr S316 P325.1
        refine r_ifeqF 331 dX11_oneLaw_328 rfl 335 (by decide) (by decide) (by decide) ?_
        refine r_iconst 332 dX11_oneLaw_331 rfl ?_
        refine r_goto 336 dX11_oneLaw_332 (by decide) ?_
        refine r_istore3 337 dX11_oneLaw_336 rfl rfl (by decide) ?_
        refine r_goto 398 dX11_oneLaw_337 (by decide) ?_
        refine r_iloadN 399 dX11_oneLaw_398 rfl rfl ?_
        refine r_iconst 400 dX11_oneLaw_399 rfl ?_
        refine r_iceq 408 403 dX11_oneLaw_400 rfl (by decide) (by omega) (by omega) (fun h400 => False.elim (by omega)) (fun h400 => ?_)
        refine r_iloadN 404 dX11_oneLaw_403 rfl rfl ?_
        refine r_iconst 405 dX11_oneLaw_404 rfl ?_
        refine r_icne 412 408 dX11_oneLaw_405 rfl (by decide) (by omega) (by omega) (fun h405 => ?_) (fun h405 => False.elim (by omega))
        refine r_iconst 413 dX11_oneLaw_412 rfl ?_
        refine r_istore4 415 dX11_oneLaw_413 rfl rfl (by decide) ?_
        refine r_iloadN 416 dX11_oneLaw_415 rfl rfl ?_
        refine r_ifeqF 419 dX11_oneLaw_416 rfl 468 (by decide) (by decide) (by decide) ?_
        refine r_aloadN 420 dX11_oneLaw_419 rfl rfl ?_
        refine r_bipush 422 dX11_oneLaw_420 rfl (by decide) ?_
        refine r_cv1 425 dX11_oneLaw_422 rfl gX11_232 rfl (by decide) (sh_50 z _) rfl rfl (Nat.le_of_ble_eq_true rfl) (Nat.le_of_ble_eq_true rfl) rfl ?_
        refine m_takes (p := p + 1 + 1 + 1 + 1) S325 F325.2 (by omega) (by decide) (fun y422 c422 P422 => ?_) (fun y422 c422 P422 Z422 => ?_)
        · have F422 := MP_tr F325 P422
          have S422 := MS_fr S325 P422.1
          refine r_ifeqF 428 dX11_oneLaw_425 rfl 468 (by decide) (by decide) (by decide) ?_
          refine r_aloadN 429 dX11_oneLaw_428 rfl rfl ?_
          refine r_iload 431 dX11_oneLaw_429 rfl rfl ?_
          refine r_ifeqT 438 0 dX11_oneLaw_431 (by decide) (by decide) (by decide) ?_
          refine r_iconst 439 dX11_oneLaw_438 rfl ?_
          refine r_iload 441 dX11_oneLaw_439 rfl rfl ?_
          refine r_ifeqT 449 0 dX11_oneLaw_441 (by decide) (by decide) (by decide) ?_
          refine r_iloadN 450 dX11_oneLaw_449 rfl rfl ?_
          refine r_iconst 451 dX11_oneLaw_450 rfl ?_
          refine r_icne 460 454 dX11_oneLaw_451 rfl (by decide) (by omega) (by omega) (fun h451 => ?_) (fun h451 => False.elim (by omega))
          refine r_bipush 462 dX11_oneLaw_460 rfl (by decide) ?_
          refine r_cv2 465 dX11_oneLaw_462 rfl gX11_235 rfl (by decide) (sh_50 z _) rfl rfl (Nat.le_of_ble_eq_true rfl) (Nat.le_of_ble_eq_true rfl) rfl ?_
          refine m_number (p := p + 1 + 1 + 1 + 1 + 1) S422 F422.2 (by omega) (by decide) (by decide) (fun c462 d462 P462 v462 => ?_) (fun c462 d462 P462 => ?_)
          · have hsq : tSq (eT L s) e (nm 4) p = (p + 1 + 1 + 1 + 1 + 1, true) := by
              show tSq (eT L s) e [115, 112, 97, 110, 32] p = _
              rw [tSq, if_pos ⟨hpe, e9⟩, tSq, if_pos y307, tSq, if_pos y316, tSq, if_pos y325, tSq, if_pos y422, tSq]
            have hsn : tSN (eT L s) e (nm 4) (lwl 4) (lwh 4) p = true := by unfold tSN; rw [hsq, Bool.true_and]; exact d462
            have F462 := MP_tr F422 P462
            have hq9 := MLw_fr hQ F462.1
            refine r_ifneT 470 0 dX11_oneLaw_465 (by decide) (by decide) (by decide) ?_
            refine r_aloadN 471 dX11_oneLaw_470 rfl rfl ?_
            refine r_getq 474 dX11_oneLaw_471 rfl fX11_138 (by decide) (sh_50 z _) rfl ?_
            refine r_aloadN 475 dX11_oneLaw_474 rfl rfl ?_
            refine r_geti 478 dX11_oneLaw_475 rfl fX11_238 (by decide) (sh_50 z _) rfl ?_
            rw [hq9.1]
            refine r_iloadN 479 dX11_oneLaw_478 rfl rfl ?_
            refine r_iast (n := 60) 480 dX11_oneLaw_479 (l.length) rfl rfl (by decide) (sh_51 z _) (by decide) (by omega) (by omega) ?_
            refine r_aloadN 481 dX11_oneLaw_480 rfl rfl ?_
            refine r_getq 484 dX11_oneLaw_481 rfl fX11_141 (by decide) (sh_50 z _) rfl ?_
            refine r_aloadN 485 dX11_oneLaw_484 rfl rfl ?_
            refine r_geti 488 dX11_oneLaw_485 rfl fX11_238 (by decide) (sh_50 z _) rfl ?_
            rw [cu_ap, if_neg (by omega), hq9.1]
            refine r_aloadN 489 dX11_oneLaw_488 rfl rfl ?_
            refine r_geti 492 dX11_oneLaw_489 rfl fX11_225 (by decide) (sh_50 z _) rfl ?_
            rw [cu_ap, if_neg (by omega), v462]
            refine r_iast (n := 60) 493 dX11_oneLaw_492 (l.length) rfl rfl (by decide) (sh_51 z _) (by decide) (by omega) (by omega) ?_
            refine r_aloadN 494 dX11_oneLaw_493 rfl rfl ?_
            refine r_dupr 495 dX11_oneLaw_494 rfl ?_
            refine r_geti 498 dX11_oneLaw_495 rfl fX11_238 (by decide) (sh_50 z _) rfl ?_
            rw [cu_ap, if_neg (by omega), cu_ap, if_neg (by omega), hq9.1]
            refine r_iconst 499 dX11_oneLaw_498 rfl ?_
            refine r_iadd 500 dX11_oneLaw_499 rfl ?_
            refine r_puti 503 dX11_oneLaw_500 rfl pX11_238 (by decide) (sh_50 z _) rfl ?_
            refine r_iconst 504 dX11_oneLaw_503 rfl ?_
            have hq8 : lQ (eT L s) e p = (tNum (eT L s) e 3 (p + 1 + 1 + 1 + 1 + 1) 0).1 := by rw [hw9.2.2.1]; unfold tSQ; rw [hsq]
            have hv8 : lV (eT L s) e p = (tNum (eT L s) e 3 (p + 1 + 1 + 1 + 1 + 1) 0).2 := by rw [hw9.2.2.2]; unfold tSV; rw [hsq]
            have htw : tW (eT L s) e p = 4 := tW_4 hpe e9
            refine r_zret dX11_oneLaw_504 rfl (by decide) (k1 _ (by rw [hw9.1]; exact hsn) (fun g i j n1 n2 => ?_) ?_ ⟨?_, fun j hj => ?_⟩)
            · rw [cu_ap, if_neg (by omega), cu_ap, if_neg (by omega), cu_ap, if_neg (by omega)]
              exact F462.1 g i j (by omega)
            · rw [cu_ap, if_neg (by omega), cu_ap, if_neg (by omega), cu_ap, if_neg (by omega), hq8]
              exact F462.2
            · rw [cu_ap, if_pos ⟨rfl, rfl, rfl⟩, List.length_append]
              show ((l.length : Nat) : Int) + 1 = ((l.length + 1 : Nat) : Int)
              omega
            · rw [List.length_append] at hj
              have hj2 : j < l.length + 1 := hj
              rw [getD_app3, htw, hv8]
              by_cases q : j = l.length
              · rw [if_pos q, q, cu_ap, if_neg (by omega), cu_ap, if_neg (by omega), cu_ap, if_pos ⟨rfl, rfl, rfl⟩, cu_ap, if_neg (by omega), cu_ap, if_pos ⟨rfl, rfl, rfl⟩]
                exact ⟨rfl, rfl⟩
              · rw [if_neg q, cu_ap, if_neg (by omega), cu_ap, if_neg (by omega), cu_ap, if_neg (by omega), cu_ap, if_neg (by omega), cu_ap, if_neg (by omega), cu_ap, if_neg (by omega)]
                exact hq9.2 j (by omega)
          · have hsq : tSq (eT L s) e (nm 4) p = (p + 1 + 1 + 1 + 1 + 1, true) := by
              show tSq (eT L s) e [115, 112, 97, 110, 32] p = _
              rw [tSq, if_pos ⟨hpe, e9⟩, tSq, if_pos y307, tSq, if_pos y316, tSq, if_pos y325, tSq, if_pos y422, tSq]
            have hsn : tSN (eT L s) e (nm 4) (lwl 4) (lwh 4) p = false := by unfold tSN; rw [hsq, Bool.true_and]; exact d462
            refine r_ifneF 468 dX11_oneLaw_465 rfl 470 (by decide) (by decide) (by decide) ?_
            refine r_iconst 469 dX11_oneLaw_468 rfl ?_
            have hB := MB_tr F422 P462
            exact r_zret dX11_oneLaw_469 rfl (by decide) (k0 _ (by rw [hw9.1]; exact hsn) (MF_ML hB.1) (by rw [hw9.2.1]; unfold tSF; rw [hsq]; exact hB.2))
        · refine r_ifeqT 468 0 dX11_oneLaw_425 (by decide) (by decide) (by decide) ?_
          refine r_iconst 469 dX11_oneLaw_468 rfl ?_
          have hsq : tSq (eT L s) e (nm 4) p = (p + 1 + 1 + 1 + 1, false) := by
            show tSq (eT L s) e [115, 112, 97, 110, 32] p = _
            rw [tSq, if_pos ⟨hpe, e9⟩, tSq, if_pos y307, tSq, if_pos y316, tSq, if_pos y325, tSq, if_neg y422]
          have hB := MB_tr F325 P422
          exact r_zret dX11_oneLaw_469 rfl (by decide) (k0 _ (by rw [hw9.1]; unfold tSN; rw [hsq]; rfl) (MF_ML hB.1) (by rw [hw9.2.1]; unfold tSF; rw [hsq]; exact hB.2))
      · refine r_ifeqT 335 0 dX11_oneLaw_328 (by decide) (by decide) (by decide) ?_
        refine r_iconst 336 dX11_oneLaw_335 rfl ?_
        refine r_istore3 337 dX11_oneLaw_336 rfl rfl (by decide) ?_
        refine r_goto 398 dX11_oneLaw_337 (by decide) ?_
        refine r_iloadN 399 dX11_oneLaw_398 rfl rfl ?_
        refine r_iconst 400 dX11_oneLaw_399 rfl ?_
        refine r_iceq 408 403 dX11_oneLaw_400 rfl (by decide) (by omega) (by omega) (fun h400 => False.elim (by omega)) (fun h400 => ?_)
        refine r_iloadN 404 dX11_oneLaw_403 rfl rfl ?_
        refine r_iconst 405 dX11_oneLaw_404 rfl ?_
        refine r_icne 412 408 dX11_oneLaw_405 rfl (by decide) (by omega) (by omega) (fun h405 => ?_) (fun h405 => False.elim (by omega))
        refine r_iconst 413 dX11_oneLaw_412 rfl ?_
        refine r_istore4 415 dX11_oneLaw_413 rfl rfl (by decide) ?_
        refine r_iloadN 416 dX11_oneLaw_415 rfl rfl ?_
        refine r_ifeqT 468 0 dX11_oneLaw_416 (by decide) (by decide) (by decide) ?_
        refine r_iconst 469 dX11_oneLaw_468 rfl ?_
        have hsq : tSq (eT L s) e (nm 4) p = (p + 1 + 1 + 1, false) := by
          show tSq (eT L s) e [115, 112, 97, 110, 32] p = _
          rw [tSq, if_pos ⟨hpe, e9⟩, tSq, if_pos y307, tSq, if_pos y316, tSq, if_neg y325]
        have hB := MB_tr F316 P325
        exact r_zret dX11_oneLaw_469 rfl (by decide) (k0 _ (by rw [hw9.1]; unfold tSN; rw [hsq]; rfl) (MF_ML hB.1) (by rw [hw9.2.1]; unfold tSF; rw [hsq]; exact hB.2))
    · refine r_ifeqT 335 0 dX11_oneLaw_319 (by decide) (by decide) (by decide) ?_
      refine r_iconst 336 dX11_oneLaw_335 rfl ?_
      refine r_istore3 337 dX11_oneLaw_336 rfl rfl (by decide) ?_
      refine r_goto 398 dX11_oneLaw_337 (by decide) ?_
      refine r_iloadN 399 dX11_oneLaw_398 rfl rfl ?_
      refine r_iconst 400 dX11_oneLaw_399 rfl ?_
      refine r_iceq 408 403 dX11_oneLaw_400 rfl (by decide) (by omega) (by omega) (fun h400 => False.elim (by omega)) (fun h400 => ?_)
      refine r_iloadN 404 dX11_oneLaw_403 rfl rfl ?_
      refine r_iconst 405 dX11_oneLaw_404 rfl ?_
      refine r_icne 412 408 dX11_oneLaw_405 rfl (by decide) (by omega) (by omega) (fun h405 => ?_) (fun h405 => False.elim (by omega))
      refine r_iconst 413 dX11_oneLaw_412 rfl ?_
      refine r_istore4 415 dX11_oneLaw_413 rfl rfl (by decide) ?_
      refine r_iloadN 416 dX11_oneLaw_415 rfl rfl ?_
      refine r_ifeqT 468 0 dX11_oneLaw_416 (by decide) (by decide) (by decide) ?_
      refine r_iconst 469 dX11_oneLaw_468 rfl ?_
      have hsq : tSq (eT L s) e (nm 4) p = (p + 1 + 1, false) := by
        show tSq (eT L s) e [115, 112, 97, 110, 32] p = _
        rw [tSq, if_pos ⟨hpe, e9⟩, tSq, if_pos y307, tSq, if_neg y316]
      have hB := MB_tr F307 P316
      exact r_zret dX11_oneLaw_469 rfl (by decide) (k0 _ (by rw [hw9.1]; unfold tSN; rw [hsq]; rfl) (MF_ML hB.1) (by rw [hw9.2.1]; unfold tSF; rw [hsq]; exact hB.2))
  · refine r_ifeqT 335 0 dX11_oneLaw_310 (by decide) (by decide) (by decide) ?_
    refine r_iconst 336 dX11_oneLaw_335 rfl ?_
    refine r_istore3 337 dX11_oneLaw_336 rfl rfl (by decide) ?_
    refine r_goto 398 dX11_oneLaw_337 (by decide) ?_
    refine r_iloadN 399 dX11_oneLaw_398 rfl rfl ?_
    refine r_iconst 400 dX11_oneLaw_399 rfl ?_
    refine r_iceq 408 403 dX11_oneLaw_400 rfl (by decide) (by omega) (by omega) (fun h400 => False.elim (by omega)) (fun h400 => ?_)
    refine r_iloadN 404 dX11_oneLaw_403 rfl rfl ?_
    refine r_iconst 405 dX11_oneLaw_404 rfl ?_
    refine r_icne 412 408 dX11_oneLaw_405 rfl (by decide) (by omega) (by omega) (fun h405 => ?_) (fun h405 => False.elim (by omega))
    refine r_iconst 413 dX11_oneLaw_412 rfl ?_
    refine r_istore4 415 dX11_oneLaw_413 rfl rfl (by decide) ?_
    refine r_iloadN 416 dX11_oneLaw_415 rfl rfl ?_
    refine r_ifeqT 468 0 dX11_oneLaw_416 (by decide) (by decide) (by decide) ?_
    refine r_iconst 469 dX11_oneLaw_468 rfl ?_
    have hsq : tSq (eT L s) e (nm 4) p = (p + 1, false) := by
      show tSq (eT L s) e [115, 112, 97, 110, 32] p = _
      rw [tSq, if_pos ⟨hpe, e9⟩, tSq, if_neg y307]
    have hB := MB_tr F40 P307
    exact r_zret dX11_oneLaw_469 rfl (by decide) (k0 _ (by rw [hw9.1]; unfold tSN; rw [hsq]; rfl) (MF_ML hB.1) (by rw [hw9.2.1]; unfold tSF; rw [hsq]; exact hB.2))
theorem m_lw5 {z : xZ} {d : Nat} {Q : tQ} {c c1 : tC} {L : tL} {s e p : Nat} {l : List (Nat × Int)} {x1 : Int} (hpe : p < e) (e9 : eT L s p = 112) (F40 : MP c c1 (p + 1)) (S40 : MS c1 s e) (hQ : MLw c l) (hl : l.length < 60) (k1 : ∀ c2, lOk (eT L s) e p = true → ML c c2 → c2 50 0 51 = ((lQ (eT L s) e p : Nat) : Int) → MLw c2 (l ++ [(tW (eT L s) e p, lV (eT L s) e p)]) → Q (some (.int (iI 1))) c2 L) (k0 : ∀ c2, lOk (eT L s) e p = false → ML c c2 → c2 50 0 55 = ((lF (eT L s) e p : Nat) : Int) → Q (some (.int (iI 0))) c2 L) : En z (d + 4) MX11_oneLaw Q 340 [some (.ref (xad z 50 0)), some (.int (iI x1)), none, none, none] [] c1 L := by
  have hs2 := S40.2.2.1
  have hw9 := lOk_w (tW_5 (T := eT L s) hpe e9) (by decide)
  refine r_iconst 341 dX11_oneLaw_340 rfl ?_
  refine r_istore2 342 dX11_oneLaw_341 rfl rfl (by decide) ?_
  refine r_aloadN 343 dX11_oneLaw_342 rfl rfl ?_
  refine r_bipush 345 dX11_oneLaw_343 rfl (by decide) ?_
  refine r_cv1 348 dX11_oneLaw_345 rfl gX11_232 rfl (by decide) (sh_50 z _) rfl rfl (Nat.le_of_ble_eq_true rfl) (Nat.le_of_ble_eq_true rfl) rfl ?_
  refine m_takes (p := p + 1) S40 F40.2 (by omega) (by decide) (fun y345 c345 P345 => ?_) (fun y345 c345 P345 Z345 => ?_)
  · have F345 := MP_tr F40 P345
    have S345 := MS_fr S40 P345.1
    refine r_ifeqF 351 dX11_oneLaw_348 rfl 382 (by decide) (by decide) (by decide) ?_
    refine r_aloadN 352 dX11_oneLaw_351 rfl rfl ?_
    refine r_bipush 354 dX11_oneLaw_352 rfl (by decide) ?_
    refine r_cv1 357 dX11_oneLaw_354 rfl gX11_232 rfl (by decide) (sh_50 z _) rfl rfl (Nat.le_of_ble_eq_true rfl) (Nat.le_of_ble_eq_true rfl) rfl ?_
    refine m_takes (p := p + 1 + 1) S345 F345.2 (by omega) (by decide) (fun y354 c354 P354 => ?_) (fun y354 c354 P354 Z354 => ?_)
    · have F354 := MP_tr F345 P354
      have S354 := MS_fr S345 P354.1
      refine r_ifeqF 360 dX11_oneLaw_357 rfl 382 (by decide) (by decide) (by decide) ?_
      refine r_aloadN 361 dX11_oneLaw_360 rfl rfl ?_
      refine r_bipush 363 dX11_oneLaw_361 rfl (by decide) ?_
      refine r_cv1 366 dX11_oneLaw_363 rfl gX11_232 rfl (by decide) (sh_50 z _) rfl rfl (Nat.le_of_ble_eq_true rfl) (Nat.le_of_ble_eq_true rfl) rfl ?_
      refine m_takes (p := p + 1 + 1 + 1) S354 F354.2 (by omega) (by decide) (fun y363 c363 P363 => ?_) (fun y363 c363 P363 Z363 => ?_)
      · have F363 := MP_tr F354 P363
        have S363 := MS_fr S354 P363.1
        refine r_ifeqF 369 dX11_oneLaw_366 rfl 382 (by decide) (by decide) (by decide) ?_
        refine r_aloadN 370 dX11_oneLaw_369 rfl rfl ?_
        refine r_bipush 372 dX11_oneLaw_370 rfl (by decide) ?_
        refine r_cv1 375 dX11_oneLaw_372 rfl gX11_232 rfl (by decide) (sh_50 z _) rfl rfl (Nat.le_of_ble_eq_true rfl) (Nat.le_of_ble_eq_true rfl) rfl ?_
        refine m_takes (p := p + 1 + 1 + 1 + 1) S363 F363.2 (by omega) (by decide) (fun y372 c372 P372 => ?_) (fun y372 c372 P372 Z372 => ?_)
        · have F372 := MP_tr F363 P372
          have S372 := MS_fr S363 P372.1
          refine r_ifeqF 378 dX11_oneLaw_375 rfl 382 (by decide) (by decide) (by decide) ?_
          refine r_iconst 379 dX11_oneLaw_378 rfl ?_
          refine r_goto 383 dX11_oneLaw_379 (by decide) ?_
          refine r_istore3 384 dX11_oneLaw_383 rfl rfl (by decide) ?_
          refine r_goto 398 dX11_oneLaw_384 (by decide) ?_
          refine r_iloadN 399 dX11_oneLaw_398 rfl rfl ?_
          refine r_iconst 400 dX11_oneLaw_399 rfl ?_
          refine r_iceq 408 403 dX11_oneLaw_400 rfl (by decide) (by omega) (by omega) (fun h400 => False.elim (by omega)) (fun h400 => ?_)
          refine r_iloadN 404 dX11_oneLaw_403 rfl rfl ?_
          refine r_iconst 405 dX11_oneLaw_404 rfl ?_
          refine r_icne 412 408 dX11_oneLaw_405 rfl (by decide) (by omega) (by omega) (fun h405 => ?_) (fun h405 => False.elim (by omega))
          refine r_iconst 413 dX11_oneLaw_412 rfl ?_
          refine r_istore4 415 dX11_oneLaw_413 rfl rfl (by decide) ?_
          refine r_iloadN 416 dX11_oneLaw_415 rfl rfl ?_
          refine r_ifeqF 419 dX11_oneLaw_416 rfl 468 (by decide) (by decide) (by decide) ?_
          refine r_aloadN 420 dX11_oneLaw_419 rfl rfl ?_
          refine r_bipush 422 dX11_oneLaw_420 rfl (by decide) ?_
          refine r_cv1 425 dX11_oneLaw_422 rfl gX11_232 rfl (by decide) (sh_50 z _) rfl rfl (Nat.le_of_ble_eq_true rfl) (Nat.le_of_ble_eq_true rfl) rfl ?_
          refine m_takes (p := p + 1 + 1 + 1 + 1 + 1) S372 F372.2 (by omega) (by decide) (fun y422 c422 P422 => ?_) (fun y422 c422 P422 Z422 => ?_)
          · have F422 := MP_tr F372 P422
            have S422 := MS_fr S372 P422.1
            refine r_ifeqF 428 dX11_oneLaw_425 rfl 468 (by decide) (by decide) (by decide) ?_
            refine r_aloadN 429 dX11_oneLaw_428 rfl rfl ?_
            refine r_iload 431 dX11_oneLaw_429 rfl rfl ?_
            refine r_ifeqT 438 0 dX11_oneLaw_431 (by decide) (by decide) (by decide) ?_
            refine r_iconst 439 dX11_oneLaw_438 rfl ?_
            refine r_iload 441 dX11_oneLaw_439 rfl rfl ?_
            refine r_ifeqT 449 0 dX11_oneLaw_441 (by decide) (by decide) (by decide) ?_
            refine r_iloadN 450 dX11_oneLaw_449 rfl rfl ?_
            refine r_iconst 451 dX11_oneLaw_450 rfl ?_
            refine r_icne 460 454 dX11_oneLaw_451 rfl (by decide) (by omega) (by omega) (fun h451 => False.elim (by omega)) (fun h451 => ?_)
            refine r_sipush 457 dX11_oneLaw_454 rfl (by decide) ?_
            refine r_goto 462 dX11_oneLaw_457 (by decide) ?_
            refine r_cv2 465 dX11_oneLaw_462 rfl gX11_235 rfl (by decide) (sh_50 z _) rfl rfl (Nat.le_of_ble_eq_true rfl) (Nat.le_of_ble_eq_true rfl) rfl ?_
            refine m_number (p := p + 1 + 1 + 1 + 1 + 1 + 1) S422 F422.2 (by omega) (by decide) (by decide) (fun c462 d462 P462 v462 => ?_) (fun c462 d462 P462 => ?_)
            · have hsq : tSq (eT L s) e (nm 5) p = (p + 1 + 1 + 1 + 1 + 1 + 1, true) := by
                show tSq (eT L s) e [112, 97, 112, 101, 114, 32] p = _
                rw [tSq, if_pos ⟨hpe, e9⟩, tSq, if_pos y345, tSq, if_pos y354, tSq, if_pos y363, tSq, if_pos y372, tSq, if_pos y422, tSq]
              have hsn : tSN (eT L s) e (nm 5) (lwl 5) (lwh 5) p = true := by unfold tSN; rw [hsq, Bool.true_and]; exact d462
              have F462 := MP_tr F422 P462
              have hq9 := MLw_fr hQ F462.1
              refine r_ifneT 470 0 dX11_oneLaw_465 (by decide) (by decide) (by decide) ?_
              refine r_aloadN 471 dX11_oneLaw_470 rfl rfl ?_
              refine r_getq 474 dX11_oneLaw_471 rfl fX11_138 (by decide) (sh_50 z _) rfl ?_
              refine r_aloadN 475 dX11_oneLaw_474 rfl rfl ?_
              refine r_geti 478 dX11_oneLaw_475 rfl fX11_238 (by decide) (sh_50 z _) rfl ?_
              rw [hq9.1]
              refine r_iloadN 479 dX11_oneLaw_478 rfl rfl ?_
              refine r_iast (n := 60) 480 dX11_oneLaw_479 (l.length) rfl rfl (by decide) (sh_51 z _) (by decide) (by omega) (by omega) ?_
              refine r_aloadN 481 dX11_oneLaw_480 rfl rfl ?_
              refine r_getq 484 dX11_oneLaw_481 rfl fX11_141 (by decide) (sh_50 z _) rfl ?_
              refine r_aloadN 485 dX11_oneLaw_484 rfl rfl ?_
              refine r_geti 488 dX11_oneLaw_485 rfl fX11_238 (by decide) (sh_50 z _) rfl ?_
              rw [cu_ap, if_neg (by omega), hq9.1]
              refine r_aloadN 489 dX11_oneLaw_488 rfl rfl ?_
              refine r_geti 492 dX11_oneLaw_489 rfl fX11_225 (by decide) (sh_50 z _) rfl ?_
              rw [cu_ap, if_neg (by omega), v462]
              refine r_iast (n := 60) 493 dX11_oneLaw_492 (l.length) rfl rfl (by decide) (sh_51 z _) (by decide) (by omega) (by omega) ?_
              refine r_aloadN 494 dX11_oneLaw_493 rfl rfl ?_
              refine r_dupr 495 dX11_oneLaw_494 rfl ?_
              refine r_geti 498 dX11_oneLaw_495 rfl fX11_238 (by decide) (sh_50 z _) rfl ?_
              rw [cu_ap, if_neg (by omega), cu_ap, if_neg (by omega), hq9.1]
              refine r_iconst 499 dX11_oneLaw_498 rfl ?_
              refine r_iadd 500 dX11_oneLaw_499 rfl ?_
              refine r_puti 503 dX11_oneLaw_500 rfl pX11_238 (by decide) (sh_50 z _) rfl ?_
              refine r_iconst 504 dX11_oneLaw_503 rfl ?_
              have hq8 : lQ (eT L s) e p = (tNum (eT L s) e 3 (p + 1 + 1 + 1 + 1 + 1 + 1) 0).1 := by rw [hw9.2.2.1]; unfold tSQ; rw [hsq]
              have hv8 : lV (eT L s) e p = (tNum (eT L s) e 3 (p + 1 + 1 + 1 + 1 + 1 + 1) 0).2 := by rw [hw9.2.2.2]; unfold tSV; rw [hsq]
              have htw : tW (eT L s) e p = 5 := tW_5 hpe e9
              refine r_zret dX11_oneLaw_504 rfl (by decide) (k1 _ (by rw [hw9.1]; exact hsn) (fun g i j n1 n2 => ?_) ?_ ⟨?_, fun j hj => ?_⟩)
              · rw [cu_ap, if_neg (by omega), cu_ap, if_neg (by omega), cu_ap, if_neg (by omega)]
                exact F462.1 g i j (by omega)
              · rw [cu_ap, if_neg (by omega), cu_ap, if_neg (by omega), cu_ap, if_neg (by omega), hq8]
                exact F462.2
              · rw [cu_ap, if_pos ⟨rfl, rfl, rfl⟩, List.length_append]
                show ((l.length : Nat) : Int) + 1 = ((l.length + 1 : Nat) : Int)
                omega
              · rw [List.length_append] at hj
                have hj2 : j < l.length + 1 := hj
                rw [getD_app3, htw, hv8]
                by_cases q : j = l.length
                · rw [if_pos q, q, cu_ap, if_neg (by omega), cu_ap, if_neg (by omega), cu_ap, if_pos ⟨rfl, rfl, rfl⟩, cu_ap, if_neg (by omega), cu_ap, if_pos ⟨rfl, rfl, rfl⟩]
                  exact ⟨rfl, rfl⟩
                · rw [if_neg q, cu_ap, if_neg (by omega), cu_ap, if_neg (by omega), cu_ap, if_neg (by omega), cu_ap, if_neg (by omega), cu_ap, if_neg (by omega), cu_ap, if_neg (by omega)]
                  exact hq9.2 j (by omega)
            · have hsq : tSq (eT L s) e (nm 5) p = (p + 1 + 1 + 1 + 1 + 1 + 1, true) := by
                show tSq (eT L s) e [112, 97, 112, 101, 114, 32] p = _
                rw [tSq, if_pos ⟨hpe, e9⟩, tSq, if_pos y345, tSq, if_pos y354, tSq, if_pos y363, tSq, if_pos y372, tSq, if_pos y422, tSq]
              have hsn : tSN (eT L s) e (nm 5) (lwl 5) (lwh 5) p = false := by unfold tSN; rw [hsq, Bool.true_and]; exact d462
              refine r_ifneF 468 dX11_oneLaw_465 rfl 470 (by decide) (by decide) (by decide) ?_
              refine r_iconst 469 dX11_oneLaw_468 rfl ?_
              have hB := MB_tr F422 P462
              exact r_zret dX11_oneLaw_469 rfl (by decide) (k0 _ (by rw [hw9.1]; exact hsn) (MF_ML hB.1) (by rw [hw9.2.1]; unfold tSF; rw [hsq]; exact hB.2))
          · refine r_ifeqT 468 0 dX11_oneLaw_425 (by decide) (by decide) (by decide) ?_
            refine r_iconst 469 dX11_oneLaw_468 rfl ?_
            have hsq : tSq (eT L s) e (nm 5) p = (p + 1 + 1 + 1 + 1 + 1, false) := by
              show tSq (eT L s) e [112, 97, 112, 101, 114, 32] p = _
              rw [tSq, if_pos ⟨hpe, e9⟩, tSq, if_pos y345, tSq, if_pos y354, tSq, if_pos y363, tSq, if_pos y372, tSq, if_neg y422]
            have hB := MB_tr F372 P422
            exact r_zret dX11_oneLaw_469 rfl (by decide) (k0 _ (by rw [hw9.1]; unfold tSN; rw [hsq]; rfl) (MF_ML hB.1) (by rw [hw9.2.1]; unfold tSF; rw [hsq]; exact hB.2))
        · refine r_ifeqT 382 0 dX11_oneLaw_375 (by decide) (by decide) (by decide) ?_
          refine r_iconst 383 dX11_oneLaw_382 rfl ?_
          refine r_istore3 384 dX11_oneLaw_383 rfl rfl (by decide) ?_
          refine r_goto 398 dX11_oneLaw_384 (by decide) ?_
          refine r_iloadN 399 dX11_oneLaw_398 rfl rfl ?_
          refine r_iconst 400 dX11_oneLaw_399 rfl ?_
          refine r_iceq 408 403 dX11_oneLaw_400 rfl (by decide) (by omega) (by omega) (fun h400 => False.elim (by omega)) (fun h400 => ?_)
          refine r_iloadN 404 dX11_oneLaw_403 rfl rfl ?_
          refine r_iconst 405 dX11_oneLaw_404 rfl ?_
          refine r_icne 412 408 dX11_oneLaw_405 rfl (by decide) (by omega) (by omega) (fun h405 => ?_) (fun h405 => False.elim (by omega))
          refine r_iconst 413 dX11_oneLaw_412 rfl ?_
          refine r_istore4 415 dX11_oneLaw_413 rfl rfl (by decide) ?_
          refine r_iloadN 416 dX11_oneLaw_415 rfl rfl ?_
          refine r_ifeqT 468 0 dX11_oneLaw_416 (by decide) (by decide) (by decide) ?_
          refine r_iconst 469 dX11_oneLaw_468 rfl ?_
          have hsq : tSq (eT L s) e (nm 5) p = (p + 1 + 1 + 1 + 1, false) := by
            show tSq (eT L s) e [112, 97, 112, 101, 114, 32] p = _
            rw [tSq, if_pos ⟨hpe, e9⟩, tSq, if_pos y345, tSq, if_pos y354, tSq, if_pos y363, tSq, if_neg y372]
          have hB := MB_tr F363 P372
          exact r_zret dX11_oneLaw_469 rfl (by decide) (k0 _ (by rw [hw9.1]; unfold tSN; rw [hsq]; rfl) (MF_ML hB.1) (by rw [hw9.2.1]; unfold tSF; rw [hsq]; exact hB.2))
      · refine r_ifeqT 382 0 dX11_oneLaw_366 (by decide) (by decide) (by decide) ?_
        refine r_iconst 383 dX11_oneLaw_382 rfl ?_
        refine r_istore3 384 dX11_oneLaw_383 rfl rfl (by decide) ?_
        refine r_goto 398 dX11_oneLaw_384 (by decide) ?_
        refine r_iloadN 399 dX11_oneLaw_398 rfl rfl ?_
        refine r_iconst 400 dX11_oneLaw_399 rfl ?_
        refine r_iceq 408 403 dX11_oneLaw_400 rfl (by decide) (by omega) (by omega) (fun h400 => False.elim (by omega)) (fun h400 => ?_)
        refine r_iloadN 404 dX11_oneLaw_403 rfl rfl ?_
        refine r_iconst 405 dX11_oneLaw_404 rfl ?_
        refine r_icne 412 408 dX11_oneLaw_405 rfl (by decide) (by omega) (by omega) (fun h405 => ?_) (fun h405 => False.elim (by omega))
        refine r_iconst 413 dX11_oneLaw_412 rfl ?_
        refine r_istore4 415 dX11_oneLaw_413 rfl rfl (by decide) ?_
        refine r_iloadN 416 dX11_oneLaw_415 rfl rfl ?_
        refine r_ifeqT 468 0 dX11_oneLaw_416 (by decide) (by decide) (by decide) ?_
        refine r_iconst 469 dX11_oneLaw_468 rfl ?_
        have hsq : tSq (eT L s) e (nm 5) p = (p + 1 + 1 + 1, false) := by
          show tSq (eT L s) e [112, 97, 112, 101, 114, 32] p = _
          rw [tSq, if_pos ⟨hpe, e9⟩, tSq, if_pos y345, tSq, if_pos y354, tSq, if_neg y363]
        have hB := MB_tr F354 P363
        exact r_zret dX11_oneLaw_469 rfl (by decide) (k0 _ (by rw [hw9.1]; unfold tSN; rw [hsq]; rfl) (MF_ML hB.1) (by rw [hw9.2.1]; unfold tSF; rw [hsq]; exact hB.2))
    · refine r_ifeqT 382 0 dX11_oneLaw_357 (by decide) (by decide) (by decide) ?_
      refine r_iconst 383 dX11_oneLaw_382 rfl ?_
      refine r_istore3 384 dX11_oneLaw_383 rfl rfl (by decide) ?_
      refine r_goto 398 dX11_oneLaw_384 (by decide) ?_
      refine r_iloadN 399 dX11_oneLaw_398 rfl rfl ?_
      refine r_iconst 400 dX11_oneLaw_399 rfl ?_
      refine r_iceq 408 403 dX11_oneLaw_400 rfl (by decide) (by omega) (by omega) (fun h400 => False.elim (by omega)) (fun h400 => ?_)
      refine r_iloadN 404 dX11_oneLaw_403 rfl rfl ?_
      refine r_iconst 405 dX11_oneLaw_404 rfl ?_
      refine r_icne 412 408 dX11_oneLaw_405 rfl (by decide) (by omega) (by omega) (fun h405 => ?_) (fun h405 => False.elim (by omega))
      refine r_iconst 413 dX11_oneLaw_412 rfl ?_
      refine r_istore4 415 dX11_oneLaw_413 rfl rfl (by decide) ?_
      refine r_iloadN 416 dX11_oneLaw_415 rfl rfl ?_
      refine r_ifeqT 468 0 dX11_oneLaw_416 (by decide) (by decide) (by decide) ?_
      refine r_iconst 469 dX11_oneLaw_468 rfl ?_
      have hsq : tSq (eT L s) e (nm 5) p = (p + 1 + 1, false) := by
        show tSq (eT L s) e [112, 97, 112, 101, 114, 32] p = _
        rw [tSq, if_pos ⟨hpe, e9⟩, tSq, if_pos y345, tSq, if_neg y354]
      have hB := MB_tr F345 P354
      exact r_zret dX11_oneLaw_469 rfl (by decide) (k0 _ (by rw [hw9.1]; unfold tSN; rw [hsq]; rfl) (MF_ML hB.1) (by rw [hw9.2.1]; unfold tSF; rw [hsq]; exact hB.2))
  · refine r_ifeqT 382 0 dX11_oneLaw_348 (by decide) (by decide) (by decide) ?_
    refine r_iconst 383 dX11_oneLaw_382 rfl ?_
    refine r_istore3 384 dX11_oneLaw_383 rfl rfl (by decide) ?_
    refine r_goto 398 dX11_oneLaw_384 (by decide) ?_
    refine r_iloadN 399 dX11_oneLaw_398 rfl rfl ?_
    refine r_iconst 400 dX11_oneLaw_399 rfl ?_
    refine r_iceq 408 403 dX11_oneLaw_400 rfl (by decide) (by omega) (by omega) (fun h400 => False.elim (by omega)) (fun h400 => ?_)
    refine r_iloadN 404 dX11_oneLaw_403 rfl rfl ?_
    refine r_iconst 405 dX11_oneLaw_404 rfl ?_
    refine r_icne 412 408 dX11_oneLaw_405 rfl (by decide) (by omega) (by omega) (fun h405 => ?_) (fun h405 => False.elim (by omega))
    refine r_iconst 413 dX11_oneLaw_412 rfl ?_
    refine r_istore4 415 dX11_oneLaw_413 rfl rfl (by decide) ?_
    refine r_iloadN 416 dX11_oneLaw_415 rfl rfl ?_
    refine r_ifeqT 468 0 dX11_oneLaw_416 (by decide) (by decide) (by decide) ?_
    refine r_iconst 469 dX11_oneLaw_468 rfl ?_
    have hsq : tSq (eT L s) e (nm 5) p = (p + 1, false) := by
      show tSq (eT L s) e [112, 97, 112, 101, 114, 32] p = _
      rw [tSq, if_pos ⟨hpe, e9⟩, tSq, if_neg y345]
    have hB := MB_tr F40 P345
    exact r_zret dX11_oneLaw_469 rfl (by decide) (k0 _ (by rw [hw9.1]; unfold tSN; rw [hsq]; rfl) (MF_ML hB.1) (by rw [hw9.2.1]; unfold tSF; rw [hsq]; exact hB.2))
theorem m_oneLaw {z : xZ} {d : Nat} {Q : tQ} {c : tC} {L : tL} {s e p : Nat} {l : List (Nat × Int)} (hs : MS c s e) (ha : c 50 0 51 = (p : Int)) (hp : p ≤ e) (hQ : MLw c l) (hl : l.length < 60) (k1 : ∀ c2, lOk (eT L s) e p = true → ML c c2 → c2 50 0 51 = ((lQ (eT L s) e p : Nat) : Int) → MLw c2 (l ++ [(tW (eT L s) e p, lV (eT L s) e p)]) → Q (some (.int (iI 1))) c2 L) (k0 : ∀ c2, lOk (eT L s) e p = false → ML c c2 → c2 50 0 55 = ((lF (eT L s) e p : Nat) : Int) → Q (some (.int (iI 0))) c2 L) : En z (d + 4) MX11_oneLaw Q 0 [some (.ref (xad z 50 0)), none, none, none, none] [] c L := by
  have hs1 := hs.2.1
  have hs2 := hs.2.2.1
  have hs3 := hs.2.2.2
  have hT1 := (eT_in L s p).1
  have hT2 := (eT_in L s p).2
  refine r_aloadN 1 dX11_oneLaw_0 rfl rfl ?_
  refine r_geti 4 dX11_oneLaw_1 rfl fX11_203 (by decide) (sh_50 z _) rfl ?_
  rw [ha]
  refine r_aloadN 5 dX11_oneLaw_4 rfl rfl ?_
  refine r_geti 8 dX11_oneLaw_5 rfl fX11_206 (by decide) (sh_50 z _) rfl ?_
  rw [hs1]
  refine r_icge 18 11 dX11_oneLaw_8 rfl (by decide) (by omega) (by omega) (fun h8 => ?_) (fun h8 => ?_)
  · refine r_iconst 19 dX11_oneLaw_18 rfl ?_
    refine r_istore1 20 dX11_oneLaw_19 rfl rfl (by decide) ?_
    refine r_aloadN 21 dX11_oneLaw_20 rfl rfl ?_
    refine r_geti 24 dX11_oneLaw_21 rfl fX11_203 (by decide) (sh_50 z _) rfl ?_
    rw [ha]
    refine r_aloadN 25 dX11_oneLaw_24 rfl rfl ?_
    refine r_geti 28 dX11_oneLaw_25 rfl fX11_206 (by decide) (sh_50 z _) rfl ?_
    rw [hs1]
    refine r_iclt 40 31 dX11_oneLaw_28 rfl (by decide) (by omega) (by omega) (fun h28 => ?_) (fun h28 => ?_)
    · exfalso; omega
    · refine r_aloadN 32 dX11_oneLaw_31 rfl rfl ?_
      refine r_aloadN 33 dX11_oneLaw_32 rfl rfl ?_
      refine r_geti 36 dX11_oneLaw_33 rfl fX11_203 (by decide) (sh_50 z _) rfl ?_
      rw [ha]
      refine r_cv1 39 dX11_oneLaw_36 rfl gX11_219 rfl (by decide) (sh_50 z _) rfl rfl (Nat.le_of_ble_eq_true rfl) (Nat.le_of_ble_eq_true rfl) rfl ?_
      refine m_wrong ?_
      have hw9 := lOk_6 (tW_6 (T := eT L s) (e := e) (p := p) (fun q => absurd q (by omega)))
      exact r_zret dX11_oneLaw_39 rfl (by decide) (k0 _ hw9.1 (MF_ML (MF_cu (by omega))) (by rw [hw9.2, cu_ap, if_pos ⟨rfl, rfl, rfl⟩]))
  · refine r_aloadN 12 dX11_oneLaw_11 rfl rfl ?_
    refine r_cv0 15 dX11_oneLaw_12 rfl gX11_215 rfl (by decide) (sh_50 z _) rfl rfl (Nat.le_of_ble_eq_true rfl) (Nat.le_of_ble_eq_true rfl) rfl ?_
    refine m_ltr hs ha (by omega) ?_
    refine r_goto 19 dX11_oneLaw_15 (by decide) ?_
    refine r_istore1 20 dX11_oneLaw_19 rfl rfl (by decide) ?_
    refine r_aloadN 21 dX11_oneLaw_20 rfl rfl ?_
    refine r_geti 24 dX11_oneLaw_21 rfl fX11_203 (by decide) (sh_50 z _) rfl ?_
    rw [ha]
    refine r_aloadN 25 dX11_oneLaw_24 rfl rfl ?_
    refine r_geti 28 dX11_oneLaw_25 rfl fX11_206 (by decide) (sh_50 z _) rfl ?_
    rw [hs1]
    refine r_iclt 40 31 dX11_oneLaw_28 rfl (by decide) (by omega) (by omega) (fun h28 => ?_) (fun h28 => ?_)
    · have hpe : p < e := by omega
      refine r_aloadN 41 dX11_oneLaw_40 rfl rfl ?_
      refine r_dupr 42 dX11_oneLaw_41 rfl ?_
      refine r_geti 45 dX11_oneLaw_42 rfl fX11_203 (by decide) (sh_50 z _) rfl ?_
      rw [ha]
      refine r_iconst 46 dX11_oneLaw_45 rfl ?_
      refine r_iadd 47 dX11_oneLaw_46 rfl ?_
      rw [show (p : Int) + 1 = ((p + 1 : Nat) : Int) by omega]
      refine r_puti 50 dX11_oneLaw_47 rfl pX11_203 (by decide) (sh_50 z _) rfl ?_
      have F40 : MP c (cu c 50 0 51 ((p + 1 : Nat) : Int)) (p + 1) := ⟨MF_cu (by omega), by rw [cu_ap, if_pos ⟨rfl, rfl, rfl⟩]⟩
      have S40 := MS_fr hs F40.1
      refine r_iloadN 51 dX11_oneLaw_50 rfl rfl ?_
      rcases (show eT L s p = 103 ∨ eT L s p = 104 ∨ eT L s p = 105 ∨ eT L s p = 106 ∨ eT L s p = 107 ∨ eT L s p = 108 ∨ eT L s p = 109 ∨ eT L s p = 110 ∨ eT L s p = 111 ∨ eT L s p = 112 ∨ eT L s p = 113 ∨ eT L s p = 114 ∨ eT L s p = 115 ∨ eT L s p = 116 ∨ eT L s p = 117 ∨ eT L s p = 118 ∨ eT L s p = 119 ∨ ¬ (103 ≤ eT L s p ∧ eT L s p ≤ 119) by omega) with e9 | e9 | e9 | e9 | e9 | e9 | e9 | e9 | e9 | e9 | e9 | e9 | e9 | e9 | e9 | e9 | e9 | e9
      · refine r_tin (119) 170 dX11_oneLaw_51 (by omega) (by omega) (by omega) (by rw [e9]; rfl) (by decide) ?_
        exact m_lw1 hpe e9 F40 S40 hQ hl k1 k0
      · refine r_tin (336) 387 dX11_oneLaw_51 (by omega) (by omega) (by omega) (by rw [e9]; rfl) (by decide) ?_
        refine r_aloadN 388 dX11_oneLaw_387 rfl rfl ?_
        refine r_aloadN 389 dX11_oneLaw_388 rfl rfl ?_
        refine r_geti 392 dX11_oneLaw_389 rfl fX11_203 (by decide) (sh_50 z _) rfl ?_
        rw [cu_ap, if_pos ⟨rfl, rfl, rfl⟩]
        refine r_iconst 393 dX11_oneLaw_392 rfl ?_
        refine r_isub 394 dX11_oneLaw_393 rfl ?_
        rw [show ((p + 1 : Nat) : Int) - 1 = (p : Int) by omega]
        refine r_cv1 397 dX11_oneLaw_394 rfl gX11_219 rfl (by decide) (sh_50 z _) rfl rfl (Nat.le_of_ble_eq_true rfl) (Nat.le_of_ble_eq_true rfl) rfl ?_
        refine m_wrong ?_
        have hw9 := lOk_6 (tW_6 (T := eT L s) (e := e) (p := p) (fun _ => by omega))
        exact r_zret dX11_oneLaw_397 rfl (by decide) (k0 _ hw9.1 (MF_ML (MF_tr F40.1 (MF_cu (by omega)))) (by rw [hw9.2, cu_ap, if_pos ⟨rfl, rfl, rfl⟩]))
      · refine r_tin (336) 387 dX11_oneLaw_51 (by omega) (by omega) (by omega) (by rw [e9]; rfl) (by decide) ?_
        refine r_aloadN 388 dX11_oneLaw_387 rfl rfl ?_
        refine r_aloadN 389 dX11_oneLaw_388 rfl rfl ?_
        refine r_geti 392 dX11_oneLaw_389 rfl fX11_203 (by decide) (sh_50 z _) rfl ?_
        rw [cu_ap, if_pos ⟨rfl, rfl, rfl⟩]
        refine r_iconst 393 dX11_oneLaw_392 rfl ?_
        refine r_isub 394 dX11_oneLaw_393 rfl ?_
        rw [show ((p + 1 : Nat) : Int) - 1 = (p : Int) by omega]
        refine r_cv1 397 dX11_oneLaw_394 rfl gX11_219 rfl (by decide) (sh_50 z _) rfl rfl (Nat.le_of_ble_eq_true rfl) (Nat.le_of_ble_eq_true rfl) rfl ?_
        refine m_wrong ?_
        have hw9 := lOk_6 (tW_6 (T := eT L s) (e := e) (p := p) (fun _ => by omega))
        exact r_zret dX11_oneLaw_397 rfl (by decide) (k0 _ hw9.1 (MF_ML (MF_tr F40.1 (MF_cu (by omega)))) (by rw [hw9.2, cu_ap, if_pos ⟨rfl, rfl, rfl⟩]))
      · refine r_tin (336) 387 dX11_oneLaw_51 (by omega) (by omega) (by omega) (by rw [e9]; rfl) (by decide) ?_
        refine r_aloadN 388 dX11_oneLaw_387 rfl rfl ?_
        refine r_aloadN 389 dX11_oneLaw_388 rfl rfl ?_
        refine r_geti 392 dX11_oneLaw_389 rfl fX11_203 (by decide) (sh_50 z _) rfl ?_
        rw [cu_ap, if_pos ⟨rfl, rfl, rfl⟩]
        refine r_iconst 393 dX11_oneLaw_392 rfl ?_
        refine r_isub 394 dX11_oneLaw_393 rfl ?_
        rw [show ((p + 1 : Nat) : Int) - 1 = (p : Int) by omega]
        refine r_cv1 397 dX11_oneLaw_394 rfl gX11_219 rfl (by decide) (sh_50 z _) rfl rfl (Nat.le_of_ble_eq_true rfl) (Nat.le_of_ble_eq_true rfl) rfl ?_
        refine m_wrong ?_
        have hw9 := lOk_6 (tW_6 (T := eT L s) (e := e) (p := p) (fun _ => by omega))
        exact r_zret dX11_oneLaw_397 rfl (by decide) (k0 _ hw9.1 (MF_ML (MF_tr F40.1 (MF_cu (by omega)))) (by rw [hw9.2, cu_ap, if_pos ⟨rfl, rfl, rfl⟩]))
      · refine r_tin (336) 387 dX11_oneLaw_51 (by omega) (by omega) (by omega) (by rw [e9]; rfl) (by decide) ?_
        refine r_aloadN 388 dX11_oneLaw_387 rfl rfl ?_
        refine r_aloadN 389 dX11_oneLaw_388 rfl rfl ?_
        refine r_geti 392 dX11_oneLaw_389 rfl fX11_203 (by decide) (sh_50 z _) rfl ?_
        rw [cu_ap, if_pos ⟨rfl, rfl, rfl⟩]
        refine r_iconst 393 dX11_oneLaw_392 rfl ?_
        refine r_isub 394 dX11_oneLaw_393 rfl ?_
        rw [show ((p + 1 : Nat) : Int) - 1 = (p : Int) by omega]
        refine r_cv1 397 dX11_oneLaw_394 rfl gX11_219 rfl (by decide) (sh_50 z _) rfl rfl (Nat.le_of_ble_eq_true rfl) (Nat.le_of_ble_eq_true rfl) rfl ?_
        refine m_wrong ?_
        have hw9 := lOk_6 (tW_6 (T := eT L s) (e := e) (p := p) (fun _ => by omega))
        exact r_zret dX11_oneLaw_397 rfl (by decide) (k0 _ hw9.1 (MF_ML (MF_tr F40.1 (MF_cu (by omega)))) (by rw [hw9.2, cu_ap, if_pos ⟨rfl, rfl, rfl⟩]))
      · refine r_tin (81) 132 dX11_oneLaw_51 (by omega) (by omega) (by omega) (by rw [e9]; rfl) (by decide) ?_
        exact m_lw0 hpe e9 F40 S40 hQ hl k1 k0
      · refine r_tin (336) 387 dX11_oneLaw_51 (by omega) (by omega) (by omega) (by rw [e9]; rfl) (by decide) ?_
        refine r_aloadN 388 dX11_oneLaw_387 rfl rfl ?_
        refine r_aloadN 389 dX11_oneLaw_388 rfl rfl ?_
        refine r_geti 392 dX11_oneLaw_389 rfl fX11_203 (by decide) (sh_50 z _) rfl ?_
        rw [cu_ap, if_pos ⟨rfl, rfl, rfl⟩]
        refine r_iconst 393 dX11_oneLaw_392 rfl ?_
        refine r_isub 394 dX11_oneLaw_393 rfl ?_
        rw [show ((p + 1 : Nat) : Int) - 1 = (p : Int) by omega]
        refine r_cv1 397 dX11_oneLaw_394 rfl gX11_219 rfl (by decide) (sh_50 z _) rfl rfl (Nat.le_of_ble_eq_true rfl) (Nat.le_of_ble_eq_true rfl) rfl ?_
        refine m_wrong ?_
        have hw9 := lOk_6 (tW_6 (T := eT L s) (e := e) (p := p) (fun _ => by omega))
        exact r_zret dX11_oneLaw_397 rfl (by decide) (k0 _ hw9.1 (MF_ML (MF_tr F40.1 (MF_cu (by omega)))) (by rw [hw9.2, cu_ap, if_pos ⟨rfl, rfl, rfl⟩]))
      · refine r_tin (336) 387 dX11_oneLaw_51 (by omega) (by omega) (by omega) (by rw [e9]; rfl) (by decide) ?_
        refine r_aloadN 388 dX11_oneLaw_387 rfl rfl ?_
        refine r_aloadN 389 dX11_oneLaw_388 rfl rfl ?_
        refine r_geti 392 dX11_oneLaw_389 rfl fX11_203 (by decide) (sh_50 z _) rfl ?_
        rw [cu_ap, if_pos ⟨rfl, rfl, rfl⟩]
        refine r_iconst 393 dX11_oneLaw_392 rfl ?_
        refine r_isub 394 dX11_oneLaw_393 rfl ?_
        rw [show ((p + 1 : Nat) : Int) - 1 = (p : Int) by omega]
        refine r_cv1 397 dX11_oneLaw_394 rfl gX11_219 rfl (by decide) (sh_50 z _) rfl rfl (Nat.le_of_ble_eq_true rfl) (Nat.le_of_ble_eq_true rfl) rfl ?_
        refine m_wrong ?_
        have hw9 := lOk_6 (tW_6 (T := eT L s) (e := e) (p := p) (fun _ => by omega))
        exact r_zret dX11_oneLaw_397 rfl (by decide) (k0 _ hw9.1 (MF_ML (MF_tr F40.1 (MF_cu (by omega)))) (by rw [hw9.2, cu_ap, if_pos ⟨rfl, rfl, rfl⟩]))
      · refine r_tin (336) 387 dX11_oneLaw_51 (by omega) (by omega) (by omega) (by rw [e9]; rfl) (by decide) ?_
        refine r_aloadN 388 dX11_oneLaw_387 rfl rfl ?_
        refine r_aloadN 389 dX11_oneLaw_388 rfl rfl ?_
        refine r_geti 392 dX11_oneLaw_389 rfl fX11_203 (by decide) (sh_50 z _) rfl ?_
        rw [cu_ap, if_pos ⟨rfl, rfl, rfl⟩]
        refine r_iconst 393 dX11_oneLaw_392 rfl ?_
        refine r_isub 394 dX11_oneLaw_393 rfl ?_
        rw [show ((p + 1 : Nat) : Int) - 1 = (p : Int) by omega]
        refine r_cv1 397 dX11_oneLaw_394 rfl gX11_219 rfl (by decide) (sh_50 z _) rfl rfl (Nat.le_of_ble_eq_true rfl) (Nat.le_of_ble_eq_true rfl) rfl ?_
        refine m_wrong ?_
        have hw9 := lOk_6 (tW_6 (T := eT L s) (e := e) (p := p) (fun _ => by omega))
        exact r_zret dX11_oneLaw_397 rfl (by decide) (k0 _ hw9.1 (MF_ML (MF_tr F40.1 (MF_cu (by omega)))) (by rw [hw9.2, cu_ap, if_pos ⟨rfl, rfl, rfl⟩]))
      · refine r_tin (289) 340 dX11_oneLaw_51 (by omega) (by omega) (by omega) (by rw [e9]; rfl) (by decide) ?_
        exact m_lw5 hpe e9 F40 S40 hQ hl k1 k0
      · refine r_tin (336) 387 dX11_oneLaw_51 (by omega) (by omega) (by omega) (by rw [e9]; rfl) (by decide) ?_
        refine r_aloadN 388 dX11_oneLaw_387 rfl rfl ?_
        refine r_aloadN 389 dX11_oneLaw_388 rfl rfl ?_
        refine r_geti 392 dX11_oneLaw_389 rfl fX11_203 (by decide) (sh_50 z _) rfl ?_
        rw [cu_ap, if_pos ⟨rfl, rfl, rfl⟩]
        refine r_iconst 393 dX11_oneLaw_392 rfl ?_
        refine r_isub 394 dX11_oneLaw_393 rfl ?_
        rw [show ((p + 1 : Nat) : Int) - 1 = (p : Int) by omega]
        refine r_cv1 397 dX11_oneLaw_394 rfl gX11_219 rfl (by decide) (sh_50 z _) rfl rfl (Nat.le_of_ble_eq_true rfl) (Nat.le_of_ble_eq_true rfl) rfl ?_
        refine m_wrong ?_
        have hw9 := lOk_6 (tW_6 (T := eT L s) (e := e) (p := p) (fun _ => by omega))
        exact r_zret dX11_oneLaw_397 rfl (by decide) (k0 _ hw9.1 (MF_ML (MF_tr F40.1 (MF_cu (by omega)))) (by rw [hw9.2, cu_ap, if_pos ⟨rfl, rfl, rfl⟩]))
      · refine r_tin (157) 208 dX11_oneLaw_51 (by omega) (by omega) (by omega) (by rw [e9]; rfl) (by decide) ?_
        exact m_lw2 hpe e9 F40 S40 hQ hl k1 k0
      · refine r_tin (251) 302 dX11_oneLaw_51 (by omega) (by omega) (by omega) (by rw [e9]; rfl) (by decide) ?_
        exact m_lw4 hpe e9 F40 S40 hQ hl k1 k0
      · refine r_tin (336) 387 dX11_oneLaw_51 (by omega) (by omega) (by omega) (by rw [e9]; rfl) (by decide) ?_
        refine r_aloadN 388 dX11_oneLaw_387 rfl rfl ?_
        refine r_aloadN 389 dX11_oneLaw_388 rfl rfl ?_
        refine r_geti 392 dX11_oneLaw_389 rfl fX11_203 (by decide) (sh_50 z _) rfl ?_
        rw [cu_ap, if_pos ⟨rfl, rfl, rfl⟩]
        refine r_iconst 393 dX11_oneLaw_392 rfl ?_
        refine r_isub 394 dX11_oneLaw_393 rfl ?_
        rw [show ((p + 1 : Nat) : Int) - 1 = (p : Int) by omega]
        refine r_cv1 397 dX11_oneLaw_394 rfl gX11_219 rfl (by decide) (sh_50 z _) rfl rfl (Nat.le_of_ble_eq_true rfl) (Nat.le_of_ble_eq_true rfl) rfl ?_
        refine m_wrong ?_
        have hw9 := lOk_6 (tW_6 (T := eT L s) (e := e) (p := p) (fun _ => by omega))
        exact r_zret dX11_oneLaw_397 rfl (by decide) (k0 _ hw9.1 (MF_ML (MF_tr F40.1 (MF_cu (by omega)))) (by rw [hw9.2, cu_ap, if_pos ⟨rfl, rfl, rfl⟩]))
      · refine r_tin (336) 387 dX11_oneLaw_51 (by omega) (by omega) (by omega) (by rw [e9]; rfl) (by decide) ?_
        refine r_aloadN 388 dX11_oneLaw_387 rfl rfl ?_
        refine r_aloadN 389 dX11_oneLaw_388 rfl rfl ?_
        refine r_geti 392 dX11_oneLaw_389 rfl fX11_203 (by decide) (sh_50 z _) rfl ?_
        rw [cu_ap, if_pos ⟨rfl, rfl, rfl⟩]
        refine r_iconst 393 dX11_oneLaw_392 rfl ?_
        refine r_isub 394 dX11_oneLaw_393 rfl ?_
        rw [show ((p + 1 : Nat) : Int) - 1 = (p : Int) by omega]
        refine r_cv1 397 dX11_oneLaw_394 rfl gX11_219 rfl (by decide) (sh_50 z _) rfl rfl (Nat.le_of_ble_eq_true rfl) (Nat.le_of_ble_eq_true rfl) rfl ?_
        refine m_wrong ?_
        have hw9 := lOk_6 (tW_6 (T := eT L s) (e := e) (p := p) (fun _ => by omega))
        exact r_zret dX11_oneLaw_397 rfl (by decide) (k0 _ hw9.1 (MF_ML (MF_tr F40.1 (MF_cu (by omega)))) (by rw [hw9.2, cu_ap, if_pos ⟨rfl, rfl, rfl⟩]))
      · refine r_tin (336) 387 dX11_oneLaw_51 (by omega) (by omega) (by omega) (by rw [e9]; rfl) (by decide) ?_
        refine r_aloadN 388 dX11_oneLaw_387 rfl rfl ?_
        refine r_aloadN 389 dX11_oneLaw_388 rfl rfl ?_
        refine r_geti 392 dX11_oneLaw_389 rfl fX11_203 (by decide) (sh_50 z _) rfl ?_
        rw [cu_ap, if_pos ⟨rfl, rfl, rfl⟩]
        refine r_iconst 393 dX11_oneLaw_392 rfl ?_
        refine r_isub 394 dX11_oneLaw_393 rfl ?_
        rw [show ((p + 1 : Nat) : Int) - 1 = (p : Int) by omega]
        refine r_cv1 397 dX11_oneLaw_394 rfl gX11_219 rfl (by decide) (sh_50 z _) rfl rfl (Nat.le_of_ble_eq_true rfl) (Nat.le_of_ble_eq_true rfl) rfl ?_
        refine m_wrong ?_
        have hw9 := lOk_6 (tW_6 (T := eT L s) (e := e) (p := p) (fun _ => by omega))
        exact r_zret dX11_oneLaw_397 rfl (by decide) (k0 _ hw9.1 (MF_ML (MF_tr F40.1 (MF_cu (by omega)))) (by rw [hw9.2, cu_ap, if_pos ⟨rfl, rfl, rfl⟩]))
      · refine r_tin (204) 255 dX11_oneLaw_51 (by omega) (by omega) (by omega) (by rw [e9]; rfl) (by decide) ?_
        exact m_lw3 hpe e9 F40 S40 hQ hl k1 k0
      · refine r_tout 387 dX11_oneLaw_51 (by omega) (by omega) (by decide) ?_
        refine r_aloadN 388 dX11_oneLaw_387 rfl rfl ?_
        refine r_aloadN 389 dX11_oneLaw_388 rfl rfl ?_
        refine r_geti 392 dX11_oneLaw_389 rfl fX11_203 (by decide) (sh_50 z _) rfl ?_
        rw [cu_ap, if_pos ⟨rfl, rfl, rfl⟩]
        refine r_iconst 393 dX11_oneLaw_392 rfl ?_
        refine r_isub 394 dX11_oneLaw_393 rfl ?_
        rw [show ((p + 1 : Nat) : Int) - 1 = (p : Int) by omega]
        refine r_cv1 397 dX11_oneLaw_394 rfl gX11_219 rfl (by decide) (sh_50 z _) rfl rfl (Nat.le_of_ble_eq_true rfl) (Nat.le_of_ble_eq_true rfl) rfl ?_
        refine m_wrong ?_
        have hw9 := lOk_6 (tW_6 (T := eT L s) (e := e) (p := p) (fun _ => by omega))
        exact r_zret dX11_oneLaw_397 rfl (by decide) (k0 _ hw9.1 (MF_ML (MF_tr F40.1 (MF_cu (by omega)))) (by rw [hw9.2, cu_ap, if_pos ⟨rfl, rfl, rfl⟩]))
    · refine r_aloadN 32 dX11_oneLaw_31 rfl rfl ?_
      refine r_aloadN 33 dX11_oneLaw_32 rfl rfl ?_
      refine r_geti 36 dX11_oneLaw_33 rfl fX11_203 (by decide) (sh_50 z _) rfl ?_
      rw [ha]
      refine r_cv1 39 dX11_oneLaw_36 rfl gX11_219 rfl (by decide) (sh_50 z _) rfl rfl (Nat.le_of_ble_eq_true rfl) (Nat.le_of_ble_eq_true rfl) rfl ?_
      refine m_wrong ?_
      have hw9 := lOk_6 (tW_6 (T := eT L s) (e := e) (p := p) (fun q => absurd q (by omega)))
      exact r_zret dX11_oneLaw_39 rfl (by decide) (k0 _ hw9.1 (MF_ML (MF_cu (by omega))) (by rw [hw9.2, cu_ap, if_pos ⟨rfl, rfl, rfl⟩]))
