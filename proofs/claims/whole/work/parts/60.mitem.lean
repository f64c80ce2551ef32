/-! an item of the model: b the memory before it, m items there already -/
def MI (c : tC) (l : List tI) : Prop := c 50 0 56 = ((l.length : Nat) : Int) ∧ ∀ j, j < l.length → c 51 59 j = (l.getD j (0, 0, 0, 0, 0)).1 ∧ c 51 60 j = (l.getD j (0, 0, 0, 0, 0)).2.1 ∧ c 51 61 j = (l.getD j (0, 0, 0, 0, 0)).2.2.1 ∧ c 51 62 j = (l.getD j (0, 0, 0, 0, 0)).2.2.2.1 ∧ c 51 63 j = (l.getD j (0, 0, 0, 0, 0)).2.2.2.2
def MV (c c2 : tC) : Prop := ∀ g i j, ¬ (g = 50 ∧ i = 0 ∧ (j = 51 ∨ (53 ≤ j ∧ j ≤ 56))) → ¬ (g = 51 ∧ 59 ≤ i ∧ i ≤ 63) → c2 g i j = c g i j
theorem MV_tr {a b c : tC} (h : MV a b) (h2 : MV b c) : MV a c := fun g i j n n2 => (h2 g i j n n2).trans (h g i j n n2)
theorem MF_MV {a b : tC} (h : MF a b) : MV a b := fun g i j n _ => h g i j (by omega)
theorem MS_frV {c c2 : tC} {s e : Nat} (h : MS c s e) (h2 : MV c c2) : MS c2 s e := ⟨(h2 50 0 50 (by omega) (by omega)).trans h.1, (h2 50 0 52 (by omega) (by omega)).trans h.2.1, h.2.2⟩
theorem MI_fr {c c2 : tC} {l : List tI} (h : MI c l) (h2 : MF c c2) : MI c2 l := by
  refine ⟨(h2 50 0 56 (by omega)).trans h.1, fun j hj => ?_⟩
  rw [h2 51 59 j (by omega), h2 51 60 j (by omega), h2 51 61 j (by omega), h2 51 62 j (by omega), h2 51 63 j (by omega)]
  exact h.2 j hj
def IS (b c : tC) (s e m q : Nat) : Prop := (∀ g i j, ¬ (g = 50 ∧ i = 0 ∧ (j = 51 ∨ (53 ≤ j ∧ j ≤ 55))) → ¬ (g = 51 ∧ (59 ≤ i ∧ i ≤ 63) ∧ j = m) → c g i j = b g i j) ∧ MS c s e ∧ c 50 0 51 = (q : Int) ∧ c 50 0 56 = (m : Int)
theorem IS_mp {b c c2 : tC} {s e m q q' : Nat} (h : IS b c s e m q) (h2 : MP c c2 q') : IS b c2 s e m q' := ⟨fun g i j n1 n2 => (h2.1 g i j n1).trans (h.1 g i j n1 n2), MS_fr h.2.1 h2.1, h2.2, (h2.1 50 0 56 (by omega)).trans h.2.2.2⟩
theorem IS_w {b c : tC} {s e m q f : Nat} {v : Int} (h : IS b c s e m q) (hf : 59 ≤ f ∧ f ≤ 63) : IS b (cu c 51 f m v) s e m q := by
  refine ⟨fun g i j n1 n2 => ?_, ⟨?_, ?_, h.2.1.2.2⟩, ?_, ?_⟩
  · rw [cu_ap, if_neg (by omega)]; exact h.1 g i j n1 n2
  · rw [cu_ap, if_neg (by omega)]; exact h.2.1.1
  · rw [cu_ap, if_neg (by omega)]; exact h.2.1.2.1
  · rw [cu_ap, if_neg (by omega)]; exact h.2.2.1
  · rw [cu_ap, if_neg (by omega)]; exact h.2.2.2
theorem IS_MB {b c c2 : tC} {s e m q q' : Nat} (h : IS b c s e m q) (h2 : MB c c2 q') : MV b c2 := fun g i j n1 n2 => (h2.1 g i j (by omega)).trans (h.1 g i j (by omega) (by omega))
theorem m_it290 {z : xZ} {d : Nat} {Q : tQ} {b c : tC} {L : tL} {s e p m q : Nat} {n ov x1 : Int} {l : List tI} (hov : ov = if iOn (eT L s) e p = true then 0 else 1) (hP : MI b l ∧ l.length = m ∧ b 50 0 2 = n) (hl : m < 8) (hnn : 0 ≤ n ∧ n ≤ 14) (hI : IS b c s e m q) (a0 : iO (eT L s) e p = true) (a1 : i1 (eT L s) e n p = true) (a2 : i2 (eT L s) e p = true) (a3 : i3 (eT L s) e p = true) (hqe : q3 (eT L s) e p = q) (hq : q ≤ e) (w59 : c 51 59 m = ov) (w60 : c 51 60 m = u1 (eT L s) e p) (w61 : c 51 61 m = u2 (eT L s) e p) (w62 : c 51 62 m = u3 (eT L s) e p) (k1 : ∀ c2, iOk (eT L s) e n p = true → MV b c2 → c2 50 0 51 = ((iQ (eT L s) e p : Nat) : Int) → MI c2 (l ++ [iX (eT L s) e p]) → Q (some (.int (iI 1))) c2 L) (k0 : ∀ c2, iOk (eT L s) e n p = false → MV b c2 → c2 50 0 55 = ((iF (eT L s) e n p : Nat) : Int) → Q (some (.int (iI 0))) c2 L) (w63 : c 51 63 m = 0) : En z (d + 4) MX11_item Q 290 [some (.ref (xad z 50 0)), some (.int (iI x1))] [] c L := by
  have SS := hI.2.1
  have hs2 := SS.2.2.1
  have FS : MP c c q := ⟨MF_rfl c, hI.2.2.1⟩
  have hT1 := (eT_in L s q).1
  have hT2 := (eT_in L s q).2
  obtain ⟨hP1, hP2, hP3⟩ := hP
  refine r_aloadN 291 dX11_item_290 rfl rfl ?_
  refine r_geti 294 dX11_item_291 rfl fX11_203 (by decide) (sh_50 z _) rfl ?_
  rw [hI.2.2.1]
  refine r_aloadN 295 dX11_item_294 rfl rfl ?_
  refine r_geti 298 dX11_item_295 rfl fX11_206 (by decide) (sh_50 z _) rfl ?_
  rw [SS.2.1]
  refine r_icge 390 301 dX11_item_298 rfl (by decide) (by omega) (by omega) (fun h298 => ?_) (fun h298 => ?_)
  · refine r_aloadN 391 dX11_item_390 rfl rfl ?_
    refine r_dupr 392 dX11_item_391 rfl ?_
    refine r_geti 395 dX11_item_392 rfl fX11_238 (by decide) (sh_50 z _) rfl ?_
    rw [hI.2.2.2]
    refine r_iconst 396 dX11_item_395 rfl ?_
    refine r_iadd 397 dX11_item_396 rfl ?_
    refine r_puti 400 dX11_item_397 rfl pX11_238 (by decide) (sh_50 z _) rfl ?_
    refine r_iconst 401 dX11_item_400 rfl ?_
    have aA : iA (eT L s) e p = false := decide_eq_false (by rw [hqe]; omega)
    have hx : iX (eT L s) e p = (ov, u1 (eT L s) e p, u2 (eT L s) e p, u3 (eT L s) e p, 0) := by unfold iX; rw [if_neg (bne aA), hov]
    refine r_zret dX11_item_401 rfl (by decide) (k1 _ (by unfold iOk; rw [if_pos a0, if_pos a1, if_pos a2, if_pos a3, if_neg (bne aA)]) (fun g i j n1 n2 => ?_) ?_ ⟨?_, fun j hj => ?_⟩)
    · rw [cu_ap, if_neg (by omega)]
      exact hI.1 g i j (by omega) (by omega)
    · unfold iQ
      rw [if_neg (bne aA), cu_ap, if_neg (by omega)]
      rw [hqe]; exact hI.2.2.1
    · rw [cu_ap, if_pos ⟨rfl, rfl, rfl⟩, List.length_append, hP2]
      show (m : Int) + 1 = ((m + 1 : Nat) : Int)
      omega
    · rw [List.length_append, hP2] at hj
      have hj2 : j < m + 1 := hj
      rw [getD_app2, hP2]
      by_cases z9 : j = m
      · rw [if_pos z9, z9, hx, cu_ap, if_neg (by omega), cu_ap, if_neg (by omega), cu_ap, if_neg (by omega), cu_ap, if_neg (by omega), cu_ap, if_neg (by omega)]
        exact ⟨w59, w60, w61, w62, w63⟩
      · rw [if_neg z9, cu_ap, if_neg (by omega), cu_ap, if_neg (by omega), cu_ap, if_neg (by omega), cu_ap, if_neg (by omega), cu_ap, if_neg (by omega), hI.1 51 59 j (by omega) (by omega), hI.1 51 60 j (by omega) (by omega), hI.1 51 61 j (by omega) (by omega), hI.1 51 62 j (by omega) (by omega), hI.1 51 63 j (by omega) (by omega)]
        exact hP1.2 j (by omega)
  · refine r_aloadN 302 dX11_item_301 rfl rfl ?_
    refine r_cv0 305 dX11_item_302 rfl gX11_215 rfl (by decide) (sh_50 z _) rfl rfl (Nat.le_of_ble_eq_true rfl) (Nat.le_of_ble_eq_true rfl) rfl ?_
    refine m_ltr SS hI.2.2.1 (by omega) ?_
    refine r_bipush 307 dX11_item_305 rfl (by decide) ?_
    refine r_icne 390 310 dX11_item_307 rfl (by decide) (by omega) (by omega) (fun h307 => ?_) (fun h307 => ?_)
    · refine r_aloadN 391 dX11_item_390 rfl rfl ?_
      refine r_dupr 392 dX11_item_391 rfl ?_
      refine r_geti 395 dX11_item_392 rfl fX11_238 (by decide) (sh_50 z _) rfl ?_
      rw [hI.2.2.2]
      refine r_iconst 396 dX11_item_395 rfl ?_
      refine r_iadd 397 dX11_item_396 rfl ?_
      refine r_puti 400 dX11_item_397 rfl pX11_238 (by decide) (sh_50 z _) rfl ?_
      refine r_iconst 401 dX11_item_400 rfl ?_
      have aA : iA (eT L s) e p = false := decide_eq_false (by rw [hqe]; omega)
      have hx : iX (eT L s) e p = (ov, u1 (eT L s) e p, u2 (eT L s) e p, u3 (eT L s) e p, 0) := by unfold iX; rw [if_neg (bne aA), hov]
      refine r_zret dX11_item_401 rfl (by decide) (k1 _ (by unfold iOk; rw [if_pos a0, if_pos a1, if_pos a2, if_pos a3, if_neg (bne aA)]) (fun g i j n1 n2 => ?_) ?_ ⟨?_, fun j hj => ?_⟩)
      · rw [cu_ap, if_neg (by omega)]
        exact hI.1 g i j (by omega) (by omega)
      · unfold iQ
        rw [if_neg (bne aA), cu_ap, if_neg (by omega)]
        rw [hqe]; exact hI.2.2.1
      · rw [cu_ap, if_pos ⟨rfl, rfl, rfl⟩, List.length_append, hP2]
        show (m : Int) + 1 = ((m + 1 : Nat) : Int)
        omega
      · rw [List.length_append, hP2] at hj
        have hj2 : j < m + 1 := hj
        rw [getD_app2, hP2]
        by_cases z9 : j = m
        · rw [if_pos z9, z9, hx, cu_ap, if_neg (by omega), cu_ap, if_neg (by omega), cu_ap, if_neg (by omega), cu_ap, if_neg (by omega), cu_ap, if_neg (by omega)]
          exact ⟨w59, w60, w61, w62, w63⟩
        · rw [if_neg z9, cu_ap, if_neg (by omega), cu_ap, if_neg (by omega), cu_ap, if_neg (by omega), cu_ap, if_neg (by omega), cu_ap, if_neg (by omega), hI.1 51 59 j (by omega) (by omega), hI.1 51 60 j (by omega) (by omega), hI.1 51 61 j (by omega) (by omega), hI.1 51 62 j (by omega) (by omega), hI.1 51 63 j (by omega) (by omega)]
          exact hP1.2 j (by omega)
    · refine r_aloadN 311 dX11_item_310 rfl rfl ?_
      refine r_dupr 312 dX11_item_311 rfl ?_
      refine r_geti 315 dX11_item_312 rfl fX11_203 (by decide) (sh_50 z _) rfl ?_
      rw [hI.2.2.1]
      refine r_iconst 316 dX11_item_315 rfl ?_
      refine r_iadd 317 dX11_item_316 rfl ?_
      rw [show (q : Int) + 1 = ((q + 1 : Nat) : Int) by omega]
      refine r_puti 320 dX11_item_317 rfl pX11_203 (by decide) (sh_50 z _) rfl ?_
      have y0 : q < e ∧ eT L s q = 32 := by omega
      have aA : iA (eT L s) e p = true := decide_eq_true (by rw [hqe]; exact y0)
      have F0 : MP c (cu c 50 0 51 ((q + 1 : Nat) : Int)) (q + 1) := ⟨MF_cu (by omega), by rw [cu_ap, if_pos ⟨rfl, rfl, rfl⟩]⟩
      have S0 := MS_fr SS F0.1
      refine r_aloadN 321 dX11_item_320 rfl rfl ?_
      refine r_bipush 323 dX11_item_321 rfl (by decide) ?_
      refine r_cv1 326 dX11_item_323 rfl gX11_232 rfl (by decide) (sh_50 z _) rfl rfl (Nat.le_of_ble_eq_true rfl) (Nat.le_of_ble_eq_true rfl) rfl ?_
      refine m_takes (p := q + 1) S0 F0.2 (by omega) (by decide) (fun y323 c323 P323 => ?_) (fun y323 c323 P323 Z323 => ?_)
      · have F323 := MP_tr F0 P323
        have S323 := MS_fr S0 P323.1
        refine r_ifeqF 329 dX11_item_326 rfl 375 (by decide) (by decide) (by decide) ?_
        refine r_aloadN 330 dX11_item_329 rfl rfl ?_
        refine r_bipush 332 dX11_item_330 rfl (by decide) ?_
        refine r_cv1 335 dX11_item_332 rfl gX11_232 rfl (by decide) (sh_50 z _) rfl rfl (Nat.le_of_ble_eq_true rfl) (Nat.le_of_ble_eq_true rfl) rfl ?_
        refine m_takes (p := q + 1 + 1) S323 F323.2 (by omega) (by decide) (fun y332 c332 P332 => ?_) (fun y332 c332 P332 Z332 => ?_)
        · have F332 := MP_tr F323 P332
          have S332 := MS_fr S323 P332.1
          refine r_ifeqF 338 dX11_item_335 rfl 375 (by decide) (by decide) (by decide) ?_
          refine r_aloadN 339 dX11_item_338 rfl rfl ?_
          refine r_bipush 341 dX11_item_339 rfl (by decide) ?_
          refine r_cv1 344 dX11_item_341 rfl gX11_232 rfl (by decide) (sh_50 z _) rfl rfl (Nat.le_of_ble_eq_true rfl) (Nat.le_of_ble_eq_true rfl) rfl ?_
          refine m_takes (p := q + 1 + 1 + 1) S332 F332.2 (by omega) (by decide) (fun y341 c341 P341 => ?_) (fun y341 c341 P341 Z341 => ?_)
          · have F341 := MP_tr F332 P341
            have S341 := MS_fr S332 P341.1
            refine r_ifeqF 347 dX11_item_344 rfl 375 (by decide) (by decide) (by decide) ?_
            refine r_aloadN 348 dX11_item_347 rfl rfl ?_
            refine r_bipush 350 dX11_item_348 rfl (by decide) ?_
            refine r_cv1 353 dX11_item_350 rfl gX11_232 rfl (by decide) (sh_50 z _) rfl rfl (Nat.le_of_ble_eq_true rfl) (Nat.le_of_ble_eq_true rfl) rfl ?_
            refine m_takes (p := q + 1 + 1 + 1 + 1) S341 F341.2 (by omega) (by decide) (fun y350 c350 P350 => ?_) (fun y350 c350 P350 Z350 => ?_)
            · have F350 := MP_tr F341 P350
              have S350 := MS_fr S341 P350.1
              refine r_ifeqF 356 dX11_item_353 rfl 375 (by decide) (by decide) (by decide) ?_
              refine r_aloadN 357 dX11_item_356 rfl rfl ?_
              refine r_bipush 359 dX11_item_357 rfl (by decide) ?_
              refine r_cv1 362 dX11_item_359 rfl gX11_232 rfl (by decide) (sh_50 z _) rfl rfl (Nat.le_of_ble_eq_true rfl) (Nat.le_of_ble_eq_true rfl) rfl ?_
              refine m_takes (p := q + 1 + 1 + 1 + 1 + 1) S350 F350.2 (by omega) (by decide) (fun y359 c359 P359 => ?_) (fun y359 c359 P359 Z359 => ?_)
              · have F359 := MP_tr F350 P359
                have S359 := MS_fr S350 P359.1
                refine r_ifeqF 365 dX11_item_362 rfl 375 (by decide) (by decide) (by decide) ?_
                refine r_aloadN 366 dX11_item_365 rfl rfl ?_
                refine r_iconst 367 dX11_item_366 rfl ?_
                refine r_bipush 369 dX11_item_367 rfl (by decide) ?_
                refine r_cv2 372 dX11_item_369 rfl gX11_235 rfl (by decide) (sh_50 z _) rfl rfl (Nat.le_of_ble_eq_true rfl) (Nat.le_of_ble_eq_true rfl) rfl ?_
                refine m_number (p := q + 1 + 1 + 1 + 1 + 1 + 1) S359 F359.2 (by omega) (by decide) (by decide) (fun cN dN PN vN => ?_) (fun cN dN PN => ?_)
                · have hsq : tSq (eT L s) e (nm 10) q = (q + 1 + 1 + 1 + 1 + 1 + 1, true) := by
                    show tSq (eT L s) e [32, 101, 97, 99, 104, 32] q = _
                    rw [tSq, if_pos y0, tSq, if_pos y323, tSq, if_pos y332, tSq, if_pos y341, tSq, if_pos y350, tSq, if_pos y359, tSq]
                  have hsn : tSN (eT L s) e (nm 10) 1 99 (q3 (eT L s) e p) = true := by unfold tSN; rw [hqe, hsq, Bool.true_and]; exact dN
                  have ht3 := tNum_3 (T := eT L s) (e := e) (p := q + 1 + 1 + 1 + 1 + 1 + 1) (by omega)
                  have FN := MP_tr F359 PN
                  have IN := IS_mp hI FN
                  have hqn : q4 (eT L s) e p = (tNum (eT L s) e 3 (q + 1 + 1 + 1 + 1 + 1 + 1) 0).1 := by
                    show tSQ (eT L s) e (nm 10) (q3 (eT L s) e p) = _
                    unfold tSQ
                    rw [hqe, hsq]
                  have hvn : u4 (eT L s) e p = (tNum (eT L s) e 3 (q + 1 + 1 + 1 + 1 + 1 + 1) 0).2 := by
                    show tSV (eT L s) e (nm 10) (q3 (eT L s) e p) = _
                    unfold tSV
                    rw [hqe, hsq]
                  refine r_ifneT 377 0 dX11_item_372 (by decide) (by decide) (by decide) ?_
                  refine r_aloadN 378 dX11_item_377 rfl rfl ?_
                  refine r_getq 381 dX11_item_378 rfl fX11_156 (by decide) (sh_50 z _) rfl ?_
                  refine r_aloadN 382 dX11_item_381 rfl rfl ?_
                  refine r_geti 385 dX11_item_382 rfl fX11_238 (by decide) (sh_50 z _) rfl ?_
                  rw [IN.2.2.2]
                  refine r_aloadN 386 dX11_item_385 rfl rfl ?_
                  refine r_geti 389 dX11_item_386 rfl fX11_225 (by decide) (sh_50 z _) rfl ?_
                  rw [vN]
                  refine r_iast (n := 8) 390 dX11_item_389 (m) rfl rfl (by decide) (sh_51 z _) (by decide) (by omega) (by omega) ?_
                  refine r_aloadN 391 dX11_item_390 rfl rfl ?_
                  refine r_dupr 392 dX11_item_391 rfl ?_
                  refine r_geti 395 dX11_item_392 rfl fX11_238 (by decide) (sh_50 z _) rfl ?_
                  rw [cu_ap, if_neg (by omega), IN.2.2.2]
                  refine r_iconst 396 dX11_item_395 rfl ?_
                  refine r_iadd 397 dX11_item_396 rfl ?_
                  refine r_puti 400 dX11_item_397 rfl pX11_238 (by decide) (sh_50 z _) rfl ?_
                  refine r_iconst 401 dX11_item_400 rfl ?_
                  have hx : iX (eT L s) e p = (ov, u1 (eT L s) e p, u2 (eT L s) e p, u3 (eT L s) e p, u4 (eT L s) e p) := by unfold iX; rw [if_pos aA, hov]
                  refine r_zret dX11_item_401 rfl (by decide) (k1 _ (by unfold iOk; rw [if_pos a0, if_pos a1, if_pos a2, if_pos a3, if_pos aA]; exact hsn) (fun g i j n1 n2 => ?_) ?_ ⟨?_, fun j hj => ?_⟩)
                  · rw [cu_ap, if_neg (by omega), cu_ap, if_neg (by omega)]
                    exact IN.1 g i j (by omega) (by omega)
                  · unfold iQ
                    rw [if_pos aA, cu_ap, if_neg (by omega), cu_ap, if_neg (by omega)]
                    rw [show q4 (eT L s) e p = _ from hqn]; exact IN.2.2.1
                  · rw [cu_ap, if_pos ⟨rfl, rfl, rfl⟩, List.length_append, hP2]
                    show (m : Int) + 1 = ((m + 1 : Nat) : Int)
                    omega
                  · rw [List.length_append, hP2] at hj
                    have hj2 : j < m + 1 := hj
                    rw [getD_app2, hP2]
                    by_cases z9 : j = m
                    · rw [if_pos z9, z9, hx, cu_ap, if_neg (by omega), cu_ap, if_neg (by omega), cu_ap, if_neg (by omega), cu_ap, if_neg (by omega), cu_ap, if_neg (by omega), cu_ap, if_neg (by omega), cu_ap, if_neg (by omega), cu_ap, if_neg (by omega), cu_ap, if_neg (by omega), cu_ap, if_pos ⟨rfl, rfl, rfl⟩]
                      exact ⟨(FN.1 51 59 m (by omega)).trans w59, (FN.1 51 60 m (by omega)).trans w60, (FN.1 51 61 m (by omega)).trans w61, (FN.1 51 62 m (by omega)).trans w62, hvn.symm⟩
                    · rw [if_neg z9, cu_ap, if_neg (by omega), cu_ap, if_neg (by omega), cu_ap, if_neg (by omega), cu_ap, if_neg (by omega), cu_ap, if_neg (by omega), cu_ap, if_neg (by omega), cu_ap, if_neg (by omega), cu_ap, if_neg (by omega), cu_ap, if_neg (by omega), cu_ap, if_neg (by omega), IN.1 51 59 j (by omega) (by omega), IN.1 51 60 j (by omega) (by omega), IN.1 51 61 j (by omega) (by omega), IN.1 51 62 j (by omega) (by omega), IN.1 51 63 j (by omega) (by omega)]
                      exact hP1.2 j (by omega)
                · have hsq : tSq (eT L s) e (nm 10) q = (q + 1 + 1 + 1 + 1 + 1 + 1, true) := by
                    show tSq (eT L s) e [32, 101, 97, 99, 104, 32] q = _
                    rw [tSq, if_pos y0, tSq, if_pos y323, tSq, if_pos y332, tSq, if_pos y341, tSq, if_pos y350, tSq, if_pos y359, tSq]
                  have hsn : tSN (eT L s) e (nm 10) 1 99 (q3 (eT L s) e p) = false := by unfold tSN; rw [hqe, hsq, Bool.true_and]; exact dN
                  have ht3 := tNum_3 (T := eT L s) (e := e) (p := q + 1 + 1 + 1 + 1 + 1 + 1) (by omega)
                  refine r_ifneF 375 dX11_item_372 rfl 377 (by decide) (by decide) (by decide) ?_
                  refine r_iconst 376 dX11_item_375 rfl ?_
                  have A : tSN (eT L s) e (nm 10) 1 99 (q3 (eT L s) e p) = false := by exact hsn
                  have hB := MB_tr F359 PN
                  refine r_zret dX11_item_376 rfl (by decide) (k0 _ (by unfold iOk; rw [if_pos a0, if_pos a1, if_pos a2, if_pos a3, if_pos aA]; exact A) (IS_MB hI hB) ?_)
                  have hf : iF (eT L s) e n p = tSF (eT L s) e (nm 10) (q3 (eT L s) e p) := by unfold iF; rw [if_pos a0, if_pos a1, if_pos a2, if_pos a3]
                  rw [hf]
                  unfold tSF
                  rw [hqe, hsq]
                  exact hB.2
              · refine r_ifeqT 375 0 dX11_item_362 (by decide) (by decide) (by decide) ?_
                refine r_iconst 376 dX11_item_375 rfl ?_
                have hsq : tSq (eT L s) e (nm 10) q = (q + 1 + 1 + 1 + 1 + 1, false) := by
                  show tSq (eT L s) e [32, 101, 97, 99, 104, 32] q = _
                  rw [tSq, if_pos y0, tSq, if_pos y323, tSq, if_pos y332, tSq, if_pos y341, tSq, if_pos y350, tSq, if_neg y359]
                have A : tSN (eT L s) e (nm 10) 1 99 (q3 (eT L s) e p) = false := by unfold tSN; rw [hqe, hsq]; rfl
                have hB := MB_tr F350 P359
                refine r_zret dX11_item_376 rfl (by decide) (k0 _ (by unfold iOk; rw [if_pos a0, if_pos a1, if_pos a2, if_pos a3, if_pos aA]; exact A) (IS_MB hI hB) ?_)
                have hf : iF (eT L s) e n p = tSF (eT L s) e (nm 10) (q3 (eT L s) e p) := by unfold iF; rw [if_pos a0, if_pos a1, if_pos a2, if_pos a3]
                rw [hf]
                unfold tSF
                rw [hqe, hsq]
                exact hB.2
            · refine r_ifeqT 375 0 dX11_item_353 (by decide) (by decide) (by decide) ?_
              refine r_iconst 376 dX11_item_375 rfl ?_
              have hsq : tSq (eT L s) e (nm 10) q = (q + 1 + 1 + 1 + 1, false) := by
                show tSq (eT L s) e [32, 101, 97, 99, 104, 32] q = _
                rw [tSq, if_pos y0, tSq, if_pos y323, tSq, if_pos y332, tSq, if_pos y341, tSq, if_neg y350]
              have A : tSN (eT L s) e (nm 10) 1 99 (q3 (eT L s) e p) = false := by unfold tSN; rw [hqe, hsq]; rfl
              have hB := MB_tr F341 P350
              refine r_zret dX11_item_376 rfl (by decide) (k0 _ (by unfold iOk; rw [if_pos a0, if_pos a1, if_pos a2, if_pos a3, if_pos aA]; exact A) (IS_MB hI hB) ?_)
              have hf : iF (eT L s) e n p = tSF (eT L s) e (nm 10) (q3 (eT L s) e p) := by unfold iF; rw [if_pos a0, if_pos a1, if_pos a2, if_pos a3]
              rw [hf]
              unfold tSF
              rw [hqe, hsq]
              exact hB.2
          · refine r_ifeqT 375 0 dX11_item_344 (by decide) (by decide) (by decide) ?_
            refine r_iconst 376 dX11_item_375 rfl ?_
            have hsq : tSq (eT L s) e (nm 10) q = (q + 1 + 1 + 1, false) := by
              show tSq (eT L s) e [32, 101, 97, 99, 104, 32] q = _
              rw [tSq, if_pos y0, tSq, if_pos y323, tSq, if_pos y332, tSq, if_neg y341]
            have A : tSN (eT L s) e (nm 10) 1 99 (q3 (eT L s) e p) = false := by unfold tSN; rw [hqe, hsq]; rfl
            have hB := MB_tr F332 P341
            refine r_zret dX11_item_376 rfl (by decide) (k0 _ (by unfold iOk; rw [if_pos a0, if_pos a1, if_pos a2, if_pos a3, if_pos aA]; exact A) (IS_MB hI hB) ?_)
            have hf : iF (eT L s) e n p = tSF (eT L s) e (nm 10) (q3 (eT L s) e p) := by unfold iF; rw [if_pos a0, if_pos a1, if_pos a2, if_pos a3]
            rw [hf]
            unfold tSF
            rw [hqe, hsq]
            exact hB.2
        · refine r_ifeqT 375 0 dX11_item_335 (by decide) (by decide) (by decide) ?_
          refine r_iconst 376 dX11_item_375 rfl ?_
          have hsq : tSq (eT L s) e (nm 10) q = (q + 1 + 1, false) := by
            show tSq (eT L s) e [32, 101, 97, 99, 104, 32] q = _
            rw [tSq, if_pos y0, tSq, if_pos y323, tSq, if_neg y332]
          have A : tSN (eT L s) e (nm 10) 1 99 (q3 (eT L s) e p) = false := by unfold tSN; rw [hqe, hsq]; rfl
          have hB := MB_tr F323 P332
          refine r_zret dX11_item_376 rfl (by decide) (k0 _ (by unfold iOk; rw [if_pos a0, if_pos a1, if_pos a2, if_pos a3, if_pos aA]; exact A) (IS_MB hI hB) ?_)
          have hf : iF (eT L s) e n p = tSF (eT L s) e (nm 10) (q3 (eT L s) e p) := by unfold iF; rw [if_pos a0, if_pos a1, if_pos a2, if_pos a3]
          rw [hf]
          unfold tSF
          rw [hqe, hsq]
          exact hB.2
      · refine r_ifeqT 375 0 dX11_item_326 (by decide) (by decide) (by decide) ?_
        refine r_iconst 376 dX11_item_375 rfl ?_
        have hsq : tSq (eT L s) e (nm 10) q = (q + 1, false) := by
          show tSq (eT L s) e [32, 101, 97, 99, 104, 32] q = _
          rw [tSq, if_pos y0, tSq, if_neg y323]
        have A : tSN (eT L s) e (nm 10) 1 99 (q3 (eT L s) e p) = false := by unfold tSN; rw [hqe, hsq]; rfl
        have hB := MB_tr F0 P323
        refine r_zret dX11_item_376 rfl (by decide) (k0 _ (by unfold iOk; rw [if_pos a0, if_pos a1, if_pos a2, if_pos a3, if_pos aA]; exact A) (IS_MB hI hB) ?_)
        have hf : iF (eT L s) e n p = tSF (eT L s) e (nm 10) (q3 (eT L s) e p) := by unfold iF; rw [if_pos a0, if_pos a1, if_pos a2, if_pos a3]
        rw [hf]
        unfold tSF
        rw [hqe, hsq]
        exact hB.2
theorem m_it210 {z : xZ} {d : Nat} {Q : tQ} {b c : tC} {L : tL} {s e p m q : Nat} {n ov x1 : Int} {l : List tI} (hov : ov = if iOn (eT L s) e p = true then 0 else 1) (hP : MI b l ∧ l.length = m ∧ b 50 0 2 = n) (hl : m < 8) (hnn : 0 ≤ n ∧ n ≤ 14) (hI : IS b c s e m q) (a0 : iO (eT L s) e p = true) (a1 : i1 (eT L s) e n p = true) (a2 : i2 (eT L s) e p = true) (hqe : q2 (eT L s) e p = q) (hq : q ≤ e) (w59 : c 51 59 m = ov) (w60 : c 51 60 m = u1 (eT L s) e p) (w61 : c 51 61 m = u2 (eT L s) e p) (k1 : ∀ c2, iOk (eT L s) e n p = true → MV b c2 → c2 50 0 51 = ((iQ (eT L s) e p : Nat) : Int) → MI c2 (l ++ [iX (eT L s) e p]) → Q (some (.int (iI 1))) c2 L) (k0 : ∀ c2, iOk (eT L s) e n p = false → MV b c2 → c2 50 0 55 = ((iF (eT L s) e n p : Nat) : Int) → Q (some (.int (iI 0))) c2 L) : En z (d + 4) MX11_item Q 210 [some (.ref (xad z 50 0)), some (.int (iI x1))] [] c L := by
  have SS := hI.2.1
  have hs2 := SS.2.2.1
  have FS : MP c c q := ⟨MF_rfl c, hI.2.2.1⟩
  have hu2 : 0 ≤ u2 (eT L s) e p ∧ u2 (eT L s) e p ≤ 239 := by
    have a0b := of_decide_eq_true a0
    have r1 := tSQ_rng (T := eT L s) (e := e) (l := iW (eT L s) e p) (p := p + 1) (by omega)
    exact (tSN_rng (p := q1 (eT L s) e p) r1.1.2 a2).2
  refine r_aloadN 211 dX11_item_210 rfl rfl ?_
  refine r_bipush 213 dX11_item_211 rfl (by decide) ?_
  refine r_cv1 216 dX11_item_213 rfl gX11_232 rfl (by decide) (sh_50 z _) rfl rfl (Nat.le_of_ble_eq_true rfl) (Nat.le_of_ble_eq_true rfl) rfl ?_
  refine m_takes (p := q) SS FS.2 (by omega) (by decide) (fun y213 c213 P213 => ?_) (fun y213 c213 P213 Z213 => ?_)
  · have F213 := MP_tr FS P213
    have S213 := MS_fr SS P213.1
    refine r_ifeqF 219 dX11_item_216 rfl 265 (by decide) (by decide) (by decide) ?_
    refine r_aloadN 220 dX11_item_219 rfl rfl ?_
    refine r_bipush 222 dX11_item_220 rfl (by decide) ?_
    refine r_cv1 225 dX11_item_222 rfl gX11_232 rfl (by decide) (sh_50 z _) rfl rfl (Nat.le_of_ble_eq_true rfl) (Nat.le_of_ble_eq_true rfl) rfl ?_
    refine m_takes (p := q + 1) S213 F213.2 (by omega) (by decide) (fun y222 c222 P222 => ?_) (fun y222 c222 P222 Z222 => ?_)
    · have F222 := MP_tr F213 P222
      have S222 := MS_fr S213 P222.1
      refine r_ifeqF 228 dX11_item_225 rfl 265 (by decide) (by decide) (by decide) ?_
      refine r_aloadN 229 dX11_item_228 rfl rfl ?_
      refine r_bipush 231 dX11_item_229 rfl (by decide) ?_
      refine r_cv1 234 dX11_item_231 rfl gX11_232 rfl (by decide) (sh_50 z _) rfl rfl (Nat.le_of_ble_eq_true rfl) (Nat.le_of_ble_eq_true rfl) rfl ?_
      refine m_takes (p := q + 1 + 1) S222 F222.2 (by omega) (by decide) (fun y231 c231 P231 => ?_) (fun y231 c231 P231 Z231 => ?_)
      · have F231 := MP_tr F222 P231
        have S231 := MS_fr S222 P231.1
        refine r_ifeqF 237 dX11_item_234 rfl 265 (by decide) (by decide) (by decide) ?_
        refine r_aloadN 238 dX11_item_237 rfl rfl ?_
        refine r_bipush 240 dX11_item_238 rfl (by decide) ?_
        refine r_cv1 243 dX11_item_240 rfl gX11_232 rfl (by decide) (sh_50 z _) rfl rfl (Nat.le_of_ble_eq_true rfl) (Nat.le_of_ble_eq_true rfl) rfl ?_
        refine m_takes (p := q + 1 + 1 + 1) S231 F231.2 (by omega) (by decide) (fun y240 c240 P240 => ?_) (fun y240 c240 P240 Z240 => ?_)
        · have F240 := MP_tr F231 P240
          have S240 := MS_fr S231 P240.1
          refine r_ifeqF 246 dX11_item_243 rfl 265 (by decide) (by decide) (by decide) ?_
          refine r_aloadN 247 dX11_item_246 rfl rfl ?_
          refine r_aloadN 248 dX11_item_247 rfl rfl ?_
          refine r_getq 251 dX11_item_248 rfl fX11_150 (by decide) (sh_50 z _) rfl ?_
          refine r_aloadN 252 dX11_item_251 rfl rfl ?_
          refine r_geti 255 dX11_item_252 rfl fX11_238 (by decide) (sh_50 z _) rfl ?_
          rw [(F240.1 50 0 56 (by omega)).trans hI.2.2.2]
          refine r_iald (n := 8) 256 dX11_item_255 (m) rfl rfl (by decide) (sh_51 z _) (by decide) (by omega) (by omega) ?_
          rw [(F240.1 51 61 m (by omega)).trans w61]
          refine r_sipush 259 dX11_item_256 rfl (by decide) ?_
          refine r_cv2 262 dX11_item_259 rfl gX11_235 rfl (by decide) (sh_50 z _) rfl rfl (Nat.le_of_ble_eq_true rfl) (Nat.le_of_ble_eq_true rfl) rfl ?_
          refine m_number (p := q + 1 + 1 + 1 + 1) S240 F240.2 (by omega) (by constructor <;> omega) (by decide) (fun cN dN PN vN => ?_) (fun cN dN PN => ?_)
          · have hsq : tSq (eT L s) e (nm 9) q = (q + 1 + 1 + 1 + 1, true) := by
              show tSq (eT L s) e [32, 116, 111, 32] q = _
              rw [tSq, if_pos y213, tSq, if_pos y222, tSq, if_pos y231, tSq, if_pos y240, tSq]
            have hsn : tSN (eT L s) e (nm 9) (u2 (eT L s) e p) 239 (q2 (eT L s) e p) = true := by unfold tSN; rw [hqe, hsq, Bool.true_and]; exact dN
            have ht3 := tNum_3 (T := eT L s) (e := e) (p := q + 1 + 1 + 1 + 1) (by omega)
            have FN := MP_tr F240 PN
            have IN := IS_mp hI FN
            have hqn : q3 (eT L s) e p = (tNum (eT L s) e 3 (q + 1 + 1 + 1 + 1) 0).1 := by
              show tSQ (eT L s) e (nm 9) (q2 (eT L s) e p) = _
              unfold tSQ
              rw [hqe, hsq]
            have hvn : u3 (eT L s) e p = (tNum (eT L s) e 3 (q + 1 + 1 + 1 + 1) 0).2 := by
              show tSV (eT L s) e (nm 9) (q2 (eT L s) e p) = _
              unfold tSV
              rw [hqe, hsq]
            refine r_ifneT 267 0 dX11_item_262 (by decide) (by decide) (by decide) ?_
            refine r_aloadN 268 dX11_item_267 rfl rfl ?_
            refine r_getq 271 dX11_item_268 rfl fX11_153 (by decide) (sh_50 z _) rfl ?_
            refine r_aloadN 272 dX11_item_271 rfl rfl ?_
            refine r_geti 275 dX11_item_272 rfl fX11_238 (by decide) (sh_50 z _) rfl ?_
            rw [IN.2.2.2]
            refine r_aloadN 276 dX11_item_275 rfl rfl ?_
            refine r_geti 279 dX11_item_276 rfl fX11_225 (by decide) (sh_50 z _) rfl ?_
            rw [vN]
            refine r_iast (n := 8) 280 dX11_item_279 (m) rfl rfl (by decide) (sh_51 z _) (by decide) (by omega) (by omega) ?_
            refine r_aloadN 281 dX11_item_280 rfl rfl ?_
            refine r_getq 284 dX11_item_281 rfl fX11_156 (by decide) (sh_50 z _) rfl ?_
            refine r_aloadN 285 dX11_item_284 rfl rfl ?_
            refine r_geti 288 dX11_item_285 rfl fX11_238 (by decide) (sh_50 z _) rfl ?_
            rw [cu_ap, if_neg (by omega), IN.2.2.2]
            refine r_iconst 289 dX11_item_288 rfl ?_
            refine r_iast (n := 8) 290 dX11_item_289 (m) rfl rfl (by decide) (sh_51 z _) (by decide) (by omega) (by omega) ?_
            exact m_it290 hov hP hl hnn (IS_w (IS_w IN (by omega)) (by omega)) a0 a1 a2 hsn hqn (by omega) (by rw [cu_ap, if_neg (by omega), cu_ap, if_neg (by omega)]; exact (FN.1 51 59 m (by omega)).trans w59) (by rw [cu_ap, if_neg (by omega), cu_ap, if_neg (by omega)]; exact (FN.1 51 60 m (by omega)).trans w60) (by rw [cu_ap, if_neg (by omega), cu_ap, if_neg (by omega)]; exact (FN.1 51 61 m (by omega)).trans w61) (by rw [cu_ap, if_neg (by omega)]; rw [cu_ap, if_pos ⟨rfl, rfl, rfl⟩]; exact hvn.symm) k1 k0 (by rw [cu_ap, if_pos ⟨rfl, rfl, rfl⟩])
          · have hsq : tSq (eT L s) e (nm 9) q = (q + 1 + 1 + 1 + 1, true) := by
              show tSq (eT L s) e [32, 116, 111, 32] q = _
              rw [tSq, if_pos y213, tSq, if_pos y222, tSq, if_pos y231, tSq, if_pos y240, tSq]
            have hsn : tSN (eT L s) e (nm 9) (u2 (eT L s) e p) 239 (q2 (eT L s) e p) = false := by unfold tSN; rw [hqe, hsq, Bool.true_and]; exact dN
            have ht3 := tNum_3 (T := eT L s) (e := e) (p := q + 1 + 1 + 1 + 1) (by omega)
            refine r_ifneF 265 dX11_item_262 rfl 267 (by decide) (by decide) (by decide) ?_
            refine r_iconst 266 dX11_item_265 rfl ?_
            have A : tSN (eT L s) e (nm 9) (u2 (eT L s) e p) 239 (q2 (eT L s) e p) = false := by exact hsn
            have hB := MB_tr F240 PN
            refine r_zret dX11_item_266 rfl (by decide) (k0 _ (by unfold iOk; rw [if_pos a0, if_pos a1, if_pos a2, if_neg (bne A)]) (IS_MB hI hB) ?_)
            have hf : iF (eT L s) e n p = tSF (eT L s) e (nm 9) (q2 (eT L s) e p) := by unfold iF; rw [if_pos a0, if_pos a1, if_pos a2, if_neg (bne A)]
            rw [hf]
            unfold tSF
            rw [hqe, hsq]
            exact hB.2
        · refine r_ifeqT 265 0 dX11_item_243 (by decide) (by decide) (by decide) ?_
          refine r_iconst 266 dX11_item_265 rfl ?_
          have hsq : tSq (eT L s) e (nm 9) q = (q + 1 + 1 + 1, false) := by
            show tSq (eT L s) e [32, 116, 111, 32] q = _
            rw [tSq, if_pos y213, tSq, if_pos y222, tSq, if_pos y231, tSq, if_neg y240]
          have A : tSN (eT L s) e (nm 9) (u2 (eT L s) e p) 239 (q2 (eT L s) e p) = false := by unfold tSN; rw [hqe, hsq]; rfl
          have hB := MB_tr F231 P240
          refine r_zret dX11_item_266 rfl (by decide) (k0 _ (by unfold iOk; rw [if_pos a0, if_pos a1, if_pos a2, if_neg (bne A)]) (IS_MB hI hB) ?_)
          have hf : iF (eT L s) e n p = tSF (eT L s) e (nm 9) (q2 (eT L s) e p) := by unfold iF; rw [if_pos a0, if_pos a1, if_pos a2, if_neg (bne A)]
          rw [hf]
          unfold tSF
          rw [hqe, hsq]
          exact hB.2
      · refine r_ifeqT 265 0 dX11_item_234 (by decide) (by decide) (by decide) ?_
        refine r_iconst 266 dX11_item_265 rfl ?_
        have hsq : tSq (eT L s) e (nm 9) q = (q + 1 + 1, false) := by
          show tSq (eT L s) e [32, 116, 111, 32] q = _
          rw [tSq, if_pos y213, tSq, if_pos y222, tSq, if_neg y231]
        have A : tSN (eT L s) e (nm 9) (u2 (eT L s) e p) 239 (q2 (eT L s) e p) = false := by unfold tSN; rw [hqe, hsq]; rfl
        have hB := MB_tr F222 P231
        refine r_zret dX11_item_266 rfl (by decide) (k0 _ (by unfold iOk; rw [if_pos a0, if_pos a1, if_pos a2, if_neg (bne A)]) (IS_MB hI hB) ?_)
        have hf : iF (eT L s) e n p = tSF (eT L s) e (nm 9) (q2 (eT L s) e p) := by unfold iF; rw [if_pos a0, if_pos a1, if_pos a2, if_neg (bne A)]
        rw [hf]
        unfold tSF
        rw [hqe, hsq]
        exact hB.2
    · refine r_ifeqT 265 0 dX11_item_225 (by decide) (by decide) (by decide) ?_
      refine r_iconst 266 dX11_item_265 rfl ?_
      have hsq : tSq (eT L s) e (nm 9) q = (q + 1, false) := by
        show tSq (eT L s) e [32, 116, 111, 32] q = _
        rw [tSq, if_pos y213, tSq, if_neg y222]
      have A : tSN (eT L s) e (nm 9) (u2 (eT L s) e p) 239 (q2 (eT L s) e p) = false := by unfold tSN; rw [hqe, hsq]; rfl
      have hB := MB_tr F213 P222
      refine r_zret dX11_item_266 rfl (by decide) (k0 _ (by unfold iOk; rw [if_pos a0, if_pos a1, if_pos a2, if_neg (bne A)]) (IS_MB hI hB) ?_)
      have hf : iF (eT L s) e n p = tSF (eT L s) e (nm 9) (q2 (eT L s) e p) := by unfold iF; rw [if_pos a0, if_pos a1, if_pos a2, if_neg (bne A)]
      rw [hf]
      unfold tSF
      rw [hqe, hsq]
      exact hB.2
  · refine r_ifeqT 265 0 dX11_item_216 (by decide) (by decide) (by decide) ?_
    refine r_iconst 266 dX11_item_265 rfl ?_
    have hsq : tSq (eT L s) e (nm 9) q = (q, false) := by
      show tSq (eT L s) e [32, 116, 111, 32] q = _
      rw [tSq, if_neg y213]
    have A : tSN (eT L s) e (nm 9) (u2 (eT L s) e p) 239 (q2 (eT L s) e p) = false := by unfold tSN; rw [hqe, hsq]; rfl
    have hB := MB_tr FS P213
    refine r_zret dX11_item_266 rfl (by decide) (k0 _ (by unfold iOk; rw [if_pos a0, if_pos a1, if_pos a2, if_neg (bne A)]) (IS_MB hI hB) ?_)
    have hf : iF (eT L s) e n p = tSF (eT L s) e (nm 9) (q2 (eT L s) e p) := by unfold iF; rw [if_pos a0, if_pos a1, if_pos a2, if_neg (bne A)]
    rw [hf]
    unfold tSF
    rw [hqe, hsq]
    exact hB.2
theorem m_it130 {z : xZ} {d : Nat} {Q : tQ} {b c : tC} {L : tL} {s e p m q : Nat} {n ov x1 : Int} {l : List tI} (hov : ov = if iOn (eT L s) e p = true then 0 else 1) (hP : MI b l ∧ l.length = m ∧ b 50 0 2 = n) (hl : m < 8) (hnn : 0 ≤ n ∧ n ≤ 14) (hI : IS b c s e m q) (a0 : iO (eT L s) e p = true) (a1 : i1 (eT L s) e n p = true) (hqe : q1 (eT L s) e p = q) (hq : q ≤ e) (w59 : c 51 59 m = ov) (w60 : c 51 60 m = u1 (eT L s) e p) (k1 : ∀ c2, iOk (eT L s) e n p = true → MV b c2 → c2 50 0 51 = ((iQ (eT L s) e p : Nat) : Int) → MI c2 (l ++ [iX (eT L s) e p]) → Q (some (.int (iI 1))) c2 L) (k0 : ∀ c2, iOk (eT L s) e n p = false → MV b c2 → c2 50 0 55 = ((iF (eT L s) e n p : Nat) : Int) → Q (some (.int (iI 0))) c2 L) : En z (d + 4) MX11_item Q 130 [some (.ref (xad z 50 0)), some (.int (iI x1))] [] c L := by
  have SS := hI.2.1
  have hs2 := SS.2.2.1
  have FS : MP c c q := ⟨MF_rfl c, hI.2.2.1⟩
  refine r_aloadN 131 dX11_item_130 rfl rfl ?_
  refine r_bipush 133 dX11_item_131 rfl (by decide) ?_
  refine r_cv1 136 dX11_item_133 rfl gX11_232 rfl (by decide) (sh_50 z _) rfl rfl (Nat.le_of_ble_eq_true rfl) (Nat.le_of_ble_eq_true rfl) rfl ?_
  refine m_takes (p := q) SS FS.2 (by omega) (by decide) (fun y133 c133 P133 => ?_) (fun y133 c133 P133 Z133 => ?_)
  · have F133 := MP_tr FS P133
    have S133 := MS_fr SS P133.1
    refine r_ifeqF 139 dX11_item_136 rfl 195 (by decide) (by decide) (by decide) ?_
    refine r_aloadN 140 dX11_item_139 rfl rfl ?_
    refine r_bipush 142 dX11_item_140 rfl (by decide) ?_
    refine r_cv1 145 dX11_item_142 rfl gX11_232 rfl (by decide) (sh_50 z _) rfl rfl (Nat.le_of_ble_eq_true rfl) (Nat.le_of_ble_eq_true rfl) rfl ?_
    refine m_takes (p := q + 1) S133 F133.2 (by omega) (by decide) (fun y142 c142 P142 => ?_) (fun y142 c142 P142 Z142 => ?_)
    · have F142 := MP_tr F133 P142
      have S142 := MS_fr S133 P142.1
      refine r_ifeqF 148 dX11_item_145 rfl 195 (by decide) (by decide) (by decide) ?_
      refine r_aloadN 149 dX11_item_148 rfl rfl ?_
      refine r_bipush 151 dX11_item_149 rfl (by decide) ?_
      refine r_cv1 154 dX11_item_151 rfl gX11_232 rfl (by decide) (sh_50 z _) rfl rfl (Nat.le_of_ble_eq_true rfl) (Nat.le_of_ble_eq_true rfl) rfl ?_
      refine m_takes (p := q + 1 + 1) S142 F142.2 (by omega) (by decide) (fun y151 c151 P151 => ?_) (fun y151 c151 P151 Z151 => ?_)
      · have F151 := MP_tr F142 P151
        have S151 := MS_fr S142 P151.1
        refine r_ifeqF 157 dX11_item_154 rfl 195 (by decide) (by decide) (by decide) ?_
        refine r_aloadN 158 dX11_item_157 rfl rfl ?_
        refine r_bipush 160 dX11_item_158 rfl (by decide) ?_
        refine r_cv1 163 dX11_item_160 rfl gX11_232 rfl (by decide) (sh_50 z _) rfl rfl (Nat.le_of_ble_eq_true rfl) (Nat.le_of_ble_eq_true rfl) rfl ?_
        refine m_takes (p := q + 1 + 1 + 1) S151 F151.2 (by omega) (by decide) (fun y160 c160 P160 => ?_) (fun y160 c160 P160 Z160 => ?_)
        · have F160 := MP_tr F151 P160
          have S160 := MS_fr S151 P160.1
          refine r_ifeqF 166 dX11_item_163 rfl 195 (by decide) (by decide) (by decide) ?_
          refine r_aloadN 167 dX11_item_166 rfl rfl ?_
          refine r_bipush 169 dX11_item_167 rfl (by decide) ?_
          refine r_cv1 172 dX11_item_169 rfl gX11_232 rfl (by decide) (sh_50 z _) rfl rfl (Nat.le_of_ble_eq_true rfl) (Nat.le_of_ble_eq_true rfl) rfl ?_
          refine m_takes (p := q + 1 + 1 + 1 + 1) S160 F160.2 (by omega) (by decide) (fun y169 c169 P169 => ?_) (fun y169 c169 P169 Z169 => ?_)
          · have F169 := MP_tr F160 P169
            have S169 := MS_fr S160 P169.1
            refine r_ifeqF 175 dX11_item_172 rfl 195 (by decide) (by decide) (by decide) ?_
            refine r_aloadN 176 dX11_item_175 rfl rfl ?_
            refine r_bipush 178 dX11_item_176 rfl (by decide) ?_
            refine r_cv1 181 dX11_item_178 rfl gX11_232 rfl (by decide) (sh_50 z _) rfl rfl (Nat.le_of_ble_eq_true rfl) (Nat.le_of_ble_eq_true rfl) rfl ?_
            refine m_takes (p := q + 1 + 1 + 1 + 1 + 1) S169 F169.2 (by omega) (by decide) (fun y178 c178 P178 => ?_) (fun y178 c178 P178 Z178 => ?_)
            · have F178 := MP_tr F169 P178
              have S178 := MS_fr S169 P178.1
              refine r_ifeqF 184 dX11_item_181 rfl 195 (by decide) (by decide) (by decide) ?_
              refine r_aloadN 185 dX11_item_184 rfl rfl ?_
              refine r_iconst 186 dX11_item_185 rfl ?_
              refine r_sipush 189 dX11_item_186 rfl (by decide) ?_
              refine r_cv2 192 dX11_item_189 rfl gX11_235 rfl (by decide) (sh_50 z _) rfl rfl (Nat.le_of_ble_eq_true rfl) (Nat.le_of_ble_eq_true rfl) rfl ?_
              refine m_number (p := q + 1 + 1 + 1 + 1 + 1 + 1) S178 F178.2 (by omega) (by decide) (by decide) (fun cN dN PN vN => ?_) (fun cN dN PN => ?_)
              · have hsq : tSq (eT L s) e (nm 8) q = (q + 1 + 1 + 1 + 1 + 1 + 1, true) := by
                  show tSq (eT L s) e [32, 102, 114, 111, 109, 32] q = _
                  rw [tSq, if_pos y133, tSq, if_pos y142, tSq, if_pos y151, tSq, if_pos y160, tSq, if_pos y169, tSq, if_pos y178, tSq]
                have hsn : tSN (eT L s) e (nm 8) 0 239 (q1 (eT L s) e p) = true := by unfold tSN; rw [hqe, hsq, Bool.true_and]; exact dN
                have ht3 := tNum_3 (T := eT L s) (e := e) (p := q + 1 + 1 + 1 + 1 + 1 + 1) (by omega)
                have FN := MP_tr F178 PN
                have IN := IS_mp hI FN
                have hqn : q2 (eT L s) e p = (tNum (eT L s) e 3 (q + 1 + 1 + 1 + 1 + 1 + 1) 0).1 := by
                  show tSQ (eT L s) e (nm 8) (q1 (eT L s) e p) = _
                  unfold tSQ
                  rw [hqe, hsq]
                have hvn : u2 (eT L s) e p = (tNum (eT L s) e 3 (q + 1 + 1 + 1 + 1 + 1 + 1) 0).2 := by
                  show tSV (eT L s) e (nm 8) (q1 (eT L s) e p) = _
                  unfold tSV
                  rw [hqe, hsq]
                refine r_ifneT 197 0 dX11_item_192 (by decide) (by decide) (by decide) ?_
                refine r_aloadN 198 dX11_item_197 rfl rfl ?_
                refine r_getq 201 dX11_item_198 rfl fX11_150 (by decide) (sh_50 z _) rfl ?_
                refine r_aloadN 202 dX11_item_201 rfl rfl ?_
                refine r_geti 205 dX11_item_202 rfl fX11_238 (by decide) (sh_50 z _) rfl ?_
                rw [IN.2.2.2]
                refine r_aloadN 206 dX11_item_205 rfl rfl ?_
                refine r_geti 209 dX11_item_206 rfl fX11_225 (by decide) (sh_50 z _) rfl ?_
                rw [vN]
                refine r_iast (n := 8) 210 dX11_item_209 (m) rfl rfl (by decide) (sh_51 z _) (by decide) (by omega) (by omega) ?_
                exact m_it210 hov hP hl hnn (IS_w IN (by omega)) a0 a1 hsn hqn (by omega) (by rw [cu_ap, if_neg (by omega)]; exact (FN.1 51 59 m (by omega)).trans w59) (by rw [cu_ap, if_neg (by omega)]; exact (FN.1 51 60 m (by omega)).trans w60) (by rw [cu_ap, if_pos ⟨rfl, rfl, rfl⟩]; exact hvn.symm) k1 k0
              · have hsq : tSq (eT L s) e (nm 8) q = (q + 1 + 1 + 1 + 1 + 1 + 1, true) := by
                  show tSq (eT L s) e [32, 102, 114, 111, 109, 32] q = _
                  rw [tSq, if_pos y133, tSq, if_pos y142, tSq, if_pos y151, tSq, if_pos y160, tSq, if_pos y169, tSq, if_pos y178, tSq]
                have hsn : tSN (eT L s) e (nm 8) 0 239 (q1 (eT L s) e p) = false := by unfold tSN; rw [hqe, hsq, Bool.true_and]; exact dN
                have ht3 := tNum_3 (T := eT L s) (e := e) (p := q + 1 + 1 + 1 + 1 + 1 + 1) (by omega)
                refine r_ifneF 195 dX11_item_192 rfl 197 (by decide) (by decide) (by decide) ?_
                refine r_iconst 196 dX11_item_195 rfl ?_
                have A : tSN (eT L s) e (nm 8) 0 239 (q1 (eT L s) e p) = false := by exact hsn
                have hB := MB_tr F178 PN
                refine r_zret dX11_item_196 rfl (by decide) (k0 _ (by unfold iOk; rw [if_pos a0, if_pos a1, if_neg (bne A)]) (IS_MB hI hB) ?_)
                have hf : iF (eT L s) e n p = tSF (eT L s) e (nm 8) (q1 (eT L s) e p) := by unfold iF; rw [if_pos a0, if_pos a1, if_neg (bne A)]
                rw [hf]
                unfold tSF
                rw [hqe, hsq]
                exact hB.2
            · refine r_ifeqT 195 0 dX11_item_181 (by decide) (by decide) (by decide) ?_
              refine r_iconst 196 dX11_item_195 rfl ?_
              have hsq : tSq (eT L s) e (nm 8) q = (q + 1 + 1 + 1 + 1 + 1, false) := by
                show tSq (eT L s) e [32, 102, 114, 111, 109, 32] q = _
                rw [tSq, if_pos y133, tSq, if_pos y142, tSq, if_pos y151, tSq, if_pos y160, tSq, if_pos y169, tSq, if_neg y178]
              have A : tSN (eT L s) e (nm 8) 0 239 (q1 (eT L s) e p) = false := by unfold tSN; rw [hqe, hsq]; rfl
              have hB := MB_tr F169 P178
              refine r_zret dX11_item_196 rfl (by decide) (k0 _ (by unfold iOk; rw [if_pos a0, if_pos a1, if_neg (bne A)]) (IS_MB hI hB) ?_)
              have hf : iF (eT L s) e n p = tSF (eT L s) e (nm 8) (q1 (eT L s) e p) := by unfold iF; rw [if_pos a0, if_pos a1, if_neg (bne A)]
              rw [hf]
              unfold tSF
              rw [hqe, hsq]
              exact hB.2
          · refine r_ifeqT 195 0 dX11_item_172 (by decide) (by decide) (by decide) ?_
            refine r_iconst 196 dX11_item_195 rfl ?_
            have hsq : tSq (eT L s) e (nm 8) q = (q + 1 + 1 + 1 + 1, false) := by
              show tSq (eT L s) e [32, 102, 114, 111, 109, 32] q = _
              rw [tSq, if_pos y133, tSq, if_pos y142, tSq, if_pos y151, tSq, if_pos y160, tSq, if_neg y169]
            have A : tSN (eT L s) e (nm 8) 0 239 (q1 (eT L s) e p) = false := by unfold tSN; rw [hqe, hsq]; rfl
            have hB := MB_tr F160 P169
            refine r_zret dX11_item_196 rfl (by decide) (k0 _ (by unfold iOk; rw [if_pos a0, if_pos a1, if_neg (bne A)]) (IS_MB hI hB) ?_)
            have hf : iF (eT L s) e n p = tSF (eT L s) e (nm 8) (q1 (eT L s) e p) := by unfold iF; rw [if_pos a0, if_pos a1, if_neg (bne A)]
            rw [hf]
            unfold tSF
            rw [hqe, hsq]
            exact hB.2
        · refine r_ifeqT 195 0 dX11_item_163 (by decide) (by decide) (by decide) ?_
          refine r_iconst 196 dX11_item_195 rfl ?_
          have hsq : tSq (eT L s) e (nm 8) q = (q + 1 + 1 + 1, false) := by
            show tSq (eT L s) e [32, 102, 114, 111, 109, 32] q = _
            rw [tSq, if_pos y133, tSq, if_pos y142, tSq, if_pos y151, tSq, if_neg y160]
          have A : tSN (eT L s) e (nm 8) 0 239 (q1 (eT L s) e p) = false := by unfold tSN; rw [hqe, hsq]; rfl
          have hB := MB_tr F151 P160
          refine r_zret dX11_item_196 rfl (by decide) (k0 _ (by unfold iOk; rw [if_pos a0, if_pos a1, if_neg (bne A)]) (IS_MB hI hB) ?_)
          have hf : iF (eT L s) e n p = tSF (eT L s) e (nm 8) (q1 (eT L s) e p) := by unfold iF; rw [if_pos a0, if_pos a1, if_neg (bne A)]
          rw [hf]
          unfold tSF
          rw [hqe, hsq]
          exact hB.2
      · refine r_ifeqT 195 0 dX11_item_154 (by decide) (by decide) (by decide) ?_
        refine r_iconst 196 dX11_item_195 rfl ?_
        have hsq : tSq (eT L s) e (nm 8) q = (q + 1 + 1, false) := by
          show tSq (eT L s) e [32, 102, 114, 111, 109, 32] q = _
          rw [tSq, if_pos y133, tSq, if_pos y142, tSq, if_neg y151]
        have A : tSN (eT L s) e (nm 8) 0 239 (q1 (eT L s) e p) = false := by unfold tSN; rw [hqe, hsq]; rfl
        have hB := MB_tr F142 P151
        refine r_zret dX11_item_196 rfl (by decide) (k0 _ (by unfold iOk; rw [if_pos a0, if_pos a1, if_neg (bne A)]) (IS_MB hI hB) ?_)
        have hf : iF (eT L s) e n p = tSF (eT L s) e (nm 8) (q1 (eT L s) e p) := by unfold iF; rw [if_pos a0, if_pos a1, if_neg (bne A)]
        rw [hf]
        unfold tSF
        rw [hqe, hsq]
        exact hB.2
    · refine r_ifeqT 195 0 dX11_item_145 (by decide) (by decide) (by decide) ?_
      refine r_iconst 196 dX11_item_195 rfl ?_
      have hsq : tSq (eT L s) e (nm 8) q = (q + 1, false) := by
        show tSq (eT L s) e [32, 102, 114, 111, 109, 32] q = _
        rw [tSq, if_pos y133, tSq, if_neg y142]
      have A : tSN (eT L s) e (nm 8) 0 239 (q1 (eT L s) e p) = false := by unfold tSN; rw [hqe, hsq]; rfl
      have hB := MB_tr F133 P142
      refine r_zret dX11_item_196 rfl (by decide) (k0 _ (by unfold iOk; rw [if_pos a0, if_pos a1, if_neg (bne A)]) (IS_MB hI hB) ?_)
      have hf : iF (eT L s) e n p = tSF (eT L s) e (nm 8) (q1 (eT L s) e p) := by unfold iF; rw [if_pos a0, if_pos a1, if_neg (bne A)]
      rw [hf]
      unfold tSF
      rw [hqe, hsq]
      exact hB.2
  · refine r_ifeqT 195 0 dX11_item_136 (by decide) (by decide) (by decide) ?_
    refine r_iconst 196 dX11_item_195 rfl ?_
    have hsq : tSq (eT L s) e (nm 8) q = (q, false) := by
      show tSq (eT L s) e [32, 102, 114, 111, 109, 32] q = _
      rw [tSq, if_neg y133]
    have A : tSN (eT L s) e (nm 8) 0 239 (q1 (eT L s) e p) = false := by unfold tSN; rw [hqe, hsq]; rfl
    have hB := MB_tr FS P133
    refine r_zret dX11_item_196 rfl (by decide) (k0 _ (by unfold iOk; rw [if_pos a0, if_pos a1, if_neg (bne A)]) (IS_MB hI hB) ?_)
    have hf : iF (eT L s) e n p = tSF (eT L s) e (nm 8) (q1 (eT L s) e p) := by unfold iF; rw [if_pos a0, if_pos a1, if_neg (bne A)]
    rw [hf]
    unfold tSF
    rw [hqe, hsq]
    exact hB.2
theorem m_it92 {z : xZ} {d : Nat} {Q : tQ} {b c : tC} {L : tL} {s e p m q : Nat} {n ov x1 : Int} {l : List tI} (hov : ov = if iOn (eT L s) e p = true then 0 else 1) (hP : MI b l ∧ l.length = m ∧ b 50 0 2 = n) (hl : m < 8) (hnn : 0 ≤ n ∧ n ≤ 14) (hI : IS b c s e m q) (a0 : iO (eT L s) e p = true) (hseq : tSq (eT L s) e (iW (eT L s) e p) (p + 1) = tSq (eT L s) e [32] q) (hq : q ≤ e) (w59 : c 51 59 m = ov) (k1 : ∀ c2, iOk (eT L s) e n p = true → MV b c2 → c2 50 0 51 = ((iQ (eT L s) e p : Nat) : Int) → MI c2 (l ++ [iX (eT L s) e p]) → Q (some (.int (iI 1))) c2 L) (k0 : ∀ c2, iOk (eT L s) e n p = false → MV b c2 → c2 50 0 55 = ((iF (eT L s) e n p : Nat) : Int) → Q (some (.int (iI 0))) c2 L) : En z (d + 4) MX11_item Q 92 [some (.ref (xad z 50 0)), some (.int (iI x1))] [] c L := by
  have SS := hI.2.1
  have hs2 := SS.2.2.1
  have FS : MP c c q := ⟨MF_rfl c, hI.2.2.1⟩
  refine r_aloadN 93 dX11_item_92 rfl rfl ?_
  refine r_bipush 95 dX11_item_93 rfl (by decide) ?_
  refine r_cv1 98 dX11_item_95 rfl gX11_232 rfl (by decide) (sh_50 z _) rfl rfl (Nat.le_of_ble_eq_true rfl) (Nat.le_of_ble_eq_true rfl) rfl ?_
  refine m_takes (p := q) SS FS.2 (by omega) (by decide) (fun y95 c95 P95 => ?_) (fun y95 c95 P95 Z95 => ?_)
  · have F95 := MP_tr FS P95
    have S95 := MS_fr SS P95.1
    refine r_ifeqF 101 dX11_item_98 rfl 115 (by decide) (by decide) (by decide) ?_
    refine r_aloadN 102 dX11_item_101 rfl rfl ?_
    refine r_iconst 103 dX11_item_102 rfl ?_
    refine r_aloadN 104 dX11_item_103 rfl rfl ?_
    refine r_geti 107 dX11_item_104 rfl fX11_174 (by decide) (sh_50 z _) rfl ?_
    rw [show c95 50 0 2 = n from (F95.1 50 0 2 (by omega)).trans ((hI.1 50 0 2 (by omega) (by omega)).trans hP.2.2)]
    refine r_iconst 108 dX11_item_107 rfl ?_
    refine r_isub 109 dX11_item_108 rfl ?_
    refine r_cv2 112 dX11_item_109 rfl gX11_235 rfl (by decide) (sh_50 z _) rfl rfl (Nat.le_of_ble_eq_true rfl) (Nat.le_of_ble_eq_true rfl) rfl ?_
    refine m_number (p := q + 1) S95 F95.2 (by omega) (by decide) (by constructor <;> omega) (fun cN dN PN vN => ?_) (fun cN dN PN => ?_)
    · have hsq : tSq (eT L s) e ([32]) q = (q + 1, true) := by
        show tSq (eT L s) e [32] q = _
        rw [tSq, if_pos y95, tSq]
      have hsn : tSN (eT L s) e (iW (eT L s) e p) 0 (n - 1) (p + 1) = true := by unfold tSN; rw [hseq, hsq, Bool.true_and]; exact dN
      have ht3 := tNum_3 (T := eT L s) (e := e) (p := q + 1) (by omega)
      have FN := MP_tr F95 PN
      have IN := IS_mp hI FN
      have hqn : q1 (eT L s) e p = (tNum (eT L s) e 3 (q + 1) 0).1 := by
        show tSQ (eT L s) e (iW (eT L s) e p) (p + 1) = _
        unfold tSQ
        rw [hseq, hsq]
      have hvn : u1 (eT L s) e p = (tNum (eT L s) e 3 (q + 1) 0).2 := by
        show tSV (eT L s) e (iW (eT L s) e p) (p + 1) = _
        unfold tSV
        rw [hseq, hsq]
      refine r_ifneT 117 0 dX11_item_112 (by decide) (by decide) (by decide) ?_
      refine r_aloadN 118 dX11_item_117 rfl rfl ?_
      refine r_getq 121 dX11_item_118 rfl fX11_147 (by decide) (sh_50 z _) rfl ?_
      refine r_aloadN 122 dX11_item_121 rfl rfl ?_
      refine r_geti 125 dX11_item_122 rfl fX11_238 (by decide) (sh_50 z _) rfl ?_
      rw [IN.2.2.2]
      refine r_aloadN 126 dX11_item_125 rfl rfl ?_
      refine r_geti 129 dX11_item_126 rfl fX11_225 (by decide) (sh_50 z _) rfl ?_
      rw [vN]
      refine r_iast (n := 8) 130 dX11_item_129 (m) rfl rfl (by decide) (sh_51 z _) (by decide) (by omega) (by omega) ?_
      exact m_it130 hov hP hl hnn (IS_w IN (by omega)) a0 hsn hqn (by omega) (by rw [cu_ap, if_neg (by omega)]; exact (FN.1 51 59 m (by omega)).trans w59) (by rw [cu_ap, if_pos ⟨rfl, rfl, rfl⟩]; exact hvn.symm) k1 k0
    · have hsq : tSq (eT L s) e ([32]) q = (q + 1, true) := by
        show tSq (eT L s) e [32] q = _
        rw [tSq, if_pos y95, tSq]
      have hsn : tSN (eT L s) e (iW (eT L s) e p) 0 (n - 1) (p + 1) = false := by unfold tSN; rw [hseq, hsq, Bool.true_and]; exact dN
      have ht3 := tNum_3 (T := eT L s) (e := e) (p := q + 1) (by omega)
      refine r_ifneF 115 dX11_item_112 rfl 117 (by decide) (by decide) (by decide) ?_
      refine r_iconst 116 dX11_item_115 rfl ?_
      have A : tSN (eT L s) e (iW (eT L s) e p) 0 (n - 1) (p + 1) = false := by exact hsn
      have hB := MB_tr F95 PN
      refine r_zret dX11_item_116 rfl (by decide) (k0 _ (by unfold iOk; rw [if_pos a0, if_neg (bne A)]) (IS_MB hI hB) ?_)
      have hf : iF (eT L s) e n p = tSF (eT L s) e (iW (eT L s) e p) (p + 1) := by unfold iF; rw [if_pos a0, if_neg (bne A)]
      rw [hf]
      unfold tSF
      rw [hseq, hsq]
      exact hB.2
  · refine r_ifeqT 115 0 dX11_item_98 (by decide) (by decide) (by decide) ?_
    refine r_iconst 116 dX11_item_115 rfl ?_
    have hsq : tSq (eT L s) e ([32]) q = (q, false) := by
      show tSq (eT L s) e [32] q = _
      rw [tSq, if_neg y95]
    have A : tSN (eT L s) e (iW (eT L s) e p) 0 (n - 1) (p + 1) = false := by unfold tSN; rw [hseq, hsq]; rfl
    have hB := MB_tr FS P95
    refine r_zret dX11_item_116 rfl (by decide) (k0 _ (by unfold iOk; rw [if_pos a0, if_neg (bne A)]) (IS_MB hI hB) ?_)
    have hf : iF (eT L s) e n p = tSF (eT L s) e (iW (eT L s) e p) (p + 1) := by unfold iF; rw [if_pos a0, if_neg (bne A)]
    rw [hf]
    unfold tSF
    rw [hseq, hsq]
    exact hB.2
theorem m_item {z : xZ} {d : Nat} {Q : tQ} {c : tC} {L : tL} {s e p m : Nat} {n : Int} {l : List tI} (hs : MS c s e) (ha : c 50 0 51 = (p : Int)) (hp : p ≤ e) (hQ : MI c l) (hlm : l.length = m) (hm : c 50 0 56 = (m : Int)) (hl : m < 8) (hnn : 0 ≤ n ∧ n ≤ 14) (hn : c 50 0 2 = n) (k1 : ∀ c2, iOk (eT L s) e n p = true → MV c c2 → c2 50 0 51 = ((iQ (eT L s) e p : Nat) : Int) → MI c2 (l ++ [iX (eT L s) e p]) → Q (some (.int (iI 1))) c2 L) (k0 : ∀ c2, iOk (eT L s) e n p = false → MV c c2 → c2 50 0 55 = ((iF (eT L s) e n p : Nat) : Int) → Q (some (.int (iI 0))) c2 L) : En z (d + 4) MX11_item Q 0 [some (.ref (xad z 50 0)), none] [] c L := by
  refine r_aloadN 1 dX11_item_0 rfl rfl ?_
  refine r_bipush 3 dX11_item_1 rfl (by decide) ?_
  refine r_cv1 6 dX11_item_3 rfl gX11_232 rfl (by decide) (sh_50 z _) rfl rfl (Nat.le_of_ble_eq_true rfl) (Nat.le_of_ble_eq_true rfl) rfl ?_
  refine m_takes hs ha hp (by decide) (fun y3 c3 P3 => ?_) (fun y3 c3 P3 Z3 => ?_)
  · refine r_ifneT 11 0 dX11_item_6 (by decide) (by decide) (by decide) ?_
    have S3 := MS_fr hs P3.1
    have hs2 := hs.2.2.1
    have hT1 := (eT_in L s (p + 1)).1
    have hT2 := (eT_in L s (p + 1)).2
    have F3 : MP c c3 (p + 1) := P3
    refine r_aloadN 12 dX11_item_11 rfl rfl ?_
    refine r_geti 15 dX11_item_12 rfl fX11_203 (by decide) (sh_50 z _) rfl ?_
    rw [P3.2]
    refine r_aloadN 16 dX11_item_15 rfl rfl ?_
    refine r_geti 19 dX11_item_16 rfl fX11_206 (by decide) (sh_50 z _) rfl ?_
    rw [S3.2.1]
    refine r_icge 35 22 dX11_item_19 rfl (by decide) (by omega) (by omega) (fun h19 => ?_) (fun h19 => ?_)
    · refine r_iconst 36 dX11_item_35 rfl ?_
      refine r_istore1 37 dX11_item_36 rfl rfl (by decide) ?_
      have hon : iOn (eT L s) e p = false := decide_eq_false (by omega)
      refine r_iloadN 38 dX11_item_37 rfl rfl ?_
      refine r_ifeqT 54 0 dX11_item_38 (by decide) (by decide) (by decide) ?_
      refine r_aloadN 55 dX11_item_54 rfl rfl ?_
      refine r_bipush 57 dX11_item_55 rfl (by decide) ?_
      refine r_cv1 60 dX11_item_57 rfl gX11_232 rfl (by decide) (sh_50 z _) rfl rfl (Nat.le_of_ble_eq_true rfl) (Nat.le_of_ble_eq_true rfl) rfl ?_
      refine m_takes (p := p + 1) S3 P3.2 (by omega) (by decide) (fun y57 c57 P57 => ?_) (fun y57 c57 P57 Z57 => ?_)
      · have F57 := MP_tr P3 P57
        have S57 := MS_fr S3 P57.1
        refine r_ifeqF 63 dX11_item_60 rfl 72 (by decide) (by decide) (by decide) ?_
        refine r_aloadN 64 dX11_item_63 rfl rfl ?_
        refine r_bipush 66 dX11_item_64 rfl (by decide) ?_
        refine r_cv1 69 dX11_item_66 rfl gX11_232 rfl (by decide) (sh_50 z _) rfl rfl (Nat.le_of_ble_eq_true rfl) (Nat.le_of_ble_eq_true rfl) rfl ?_
        refine m_takes (p := p + 1 + 1) S57 P57.2 (by omega) (by decide) (fun y66 c66 P66 => ?_) (fun y66 c66 P66 Z66 => ?_)
        · have F66 := MP_tr F57 P66
          have S66 := MS_fr S57 P66.1
          refine r_ifneT 74 0 dX11_item_69 (by decide) (by decide) (by decide) ?_
          have hI0 : IS c c66 s e m (p + 1 + 1 + 1) := IS_mp ⟨fun _ _ _ _ _ => rfl, hs, ha, hm⟩ F66
          refine r_aloadN 75 dX11_item_74 rfl rfl ?_
          refine r_getq 78 dX11_item_75 rfl fX11_144 (by decide) (sh_50 z _) rfl ?_
          refine r_aloadN 79 dX11_item_78 rfl rfl ?_
          refine r_geti 82 dX11_item_79 rfl fX11_238 (by decide) (sh_50 z _) rfl ?_
          rw [hI0.2.2.2]
          refine r_iloadN 83 dX11_item_82 rfl rfl ?_
          refine r_ifeqT 90 0 dX11_item_83 (by decide) (by decide) (by decide) ?_
          refine r_iconst 91 dX11_item_90 rfl ?_
          refine r_iast (n := 8) 92 dX11_item_91 (m) rfl rfl (by decide) (sh_51 z _) (by decide) (by omega) (by omega) ?_
          exact m_it92 (ov := 1) (by rw [if_neg (bne hon)]) ⟨hQ, hlm, hn⟩ hl hnn (IS_w hI0 (by omega)) (decide_eq_true y3) (by unfold iW; rw [if_neg (bne hon)]; show tSq (eT L s) e [102, 102, 32] (p + 1) = _; rw [tSq, if_pos y57, tSq, if_pos y66]) (by omega) (by rw [cu_ap, if_pos ⟨rfl, rfl, rfl⟩]) k1 k0
        · refine r_ifneF 72 dX11_item_69 rfl 74 (by decide) (by decide) (by decide) ?_
          refine r_iconst 73 dX11_item_72 rfl ?_
          have a0 : iO (eT L s) e p = true := decide_eq_true y3
          have hsq : tSq (eT L s) e (iW (eT L s) e p) (p + 1) = (p + 1 + 1, false) := by
            unfold iW
            rw [if_neg (bne hon)]
            show tSq (eT L s) e [102, 102, 32] (p + 1) = _
            rw [tSq, if_pos y57, tSq, if_neg y66]
          have A : tSN (eT L s) e (iW (eT L s) e p) 0 (n - 1) (p + 1) = false := by unfold tSN; rw [hsq]; rfl
          have hB := MB_tr F57 P66
          refine r_zret dX11_item_73 rfl (by decide) (k0 _ (by unfold iOk; rw [if_pos a0, if_neg (bne A)]) (MF_MV hB.1) ?_)
          have hf : iF (eT L s) e n p = tSF (eT L s) e (iW (eT L s) e p) (p + 1) := by unfold iF; rw [if_pos a0, if_neg (bne A)]
          rw [hf]
          unfold tSF
          rw [hsq]
          exact hB.2
      · refine r_ifeqT 72 0 dX11_item_60 (by decide) (by decide) (by decide) ?_
        refine r_iconst 73 dX11_item_72 rfl ?_
        have a0 : iO (eT L s) e p = true := decide_eq_true y3
        have hsq : tSq (eT L s) e (iW (eT L s) e p) (p + 1) = (p + 1, false) := by
          unfold iW
          rw [if_neg (bne hon)]
          show tSq (eT L s) e [102, 102, 32] (p + 1) = _
          rw [tSq, if_neg y57]
        have A : tSN (eT L s) e (iW (eT L s) e p) 0 (n - 1) (p + 1) = false := by unfold tSN; rw [hsq]; rfl
        have hB := MB_tr P3 P57
        refine r_zret dX11_item_73 rfl (by decide) (k0 _ (by unfold iOk; rw [if_pos a0, if_neg (bne A)]) (MF_MV hB.1) ?_)
        have hf : iF (eT L s) e n p = tSF (eT L s) e (iW (eT L s) e p) (p + 1) := by unfold iF; rw [if_pos a0, if_neg (bne A)]
        rw [hf]
        unfold tSF
        rw [hsq]
        exact hB.2
    · refine r_aloadN 23 dX11_item_22 rfl rfl ?_
      refine r_cv0 26 dX11_item_23 rfl gX11_215 rfl (by decide) (sh_50 z _) rfl rfl (Nat.le_of_ble_eq_true rfl) (Nat.le_of_ble_eq_true rfl) rfl ?_
      refine m_ltr (p := p + 1) S3 P3.2 (by omega) ?_
      refine r_bipush 28 dX11_item_26 rfl (by decide) ?_
      refine r_icne 35 31 dX11_item_28 rfl (by decide) (by omega) (by omega) (fun h28 => ?_) (fun h28 => ?_)
      · refine r_iconst 36 dX11_item_35 rfl ?_
        refine r_istore1 37 dX11_item_36 rfl rfl (by decide) ?_
        have hon : iOn (eT L s) e p = false := decide_eq_false (by omega)
        refine r_iloadN 38 dX11_item_37 rfl rfl ?_
        refine r_ifeqT 54 0 dX11_item_38 (by decide) (by decide) (by decide) ?_
        refine r_aloadN 55 dX11_item_54 rfl rfl ?_
        refine r_bipush 57 dX11_item_55 rfl (by decide) ?_
        refine r_cv1 60 dX11_item_57 rfl gX11_232 rfl (by decide) (sh_50 z _) rfl rfl (Nat.le_of_ble_eq_true rfl) (Nat.le_of_ble_eq_true rfl) rfl ?_
        refine m_takes (p := p + 1) S3 P3.2 (by omega) (by decide) (fun y57 c57 P57 => ?_) (fun y57 c57 P57 Z57 => ?_)
        · have F57 := MP_tr P3 P57
          have S57 := MS_fr S3 P57.1
          refine r_ifeqF 63 dX11_item_60 rfl 72 (by decide) (by decide) (by decide) ?_
          refine r_aloadN 64 dX11_item_63 rfl rfl ?_
          refine r_bipush 66 dX11_item_64 rfl (by decide) ?_
          refine r_cv1 69 dX11_item_66 rfl gX11_232 rfl (by decide) (sh_50 z _) rfl rfl (Nat.le_of_ble_eq_true rfl) (Nat.le_of_ble_eq_true rfl) rfl ?_
          refine m_takes (p := p + 1 + 1) S57 P57.2 (by omega) (by decide) (fun y66 c66 P66 => ?_) (fun y66 c66 P66 Z66 => ?_)
          · have F66 := MP_tr F57 P66
            have S66 := MS_fr S57 P66.1
            refine r_ifneT 74 0 dX11_item_69 (by decide) (by decide) (by decide) ?_
            have hI0 : IS c c66 s e m (p + 1 + 1 + 1) := IS_mp ⟨fun _ _ _ _ _ => rfl, hs, ha, hm⟩ F66
            refine r_aloadN 75 dX11_item_74 rfl rfl ?_
            refine r_getq 78 dX11_item_75 rfl fX11_144 (by decide) (sh_50 z _) rfl ?_
            refine r_aloadN 79 dX11_item_78 rfl rfl ?_
            refine r_geti 82 dX11_item_79 rfl fX11_238 (by decide) (sh_50 z _) rfl ?_
            rw [hI0.2.2.2]
            refine r_iloadN 83 dX11_item_82 rfl rfl ?_
            refine r_ifeqT 90 0 dX11_item_83 (by decide) (by decide) (by decide) ?_
            refine r_iconst 91 dX11_item_90 rfl ?_
            refine r_iast (n := 8) 92 dX11_item_91 (m) rfl rfl (by decide) (sh_51 z _) (by decide) (by omega) (by omega) ?_
            exact m_it92 (ov := 1) (by rw [if_neg (bne hon)]) ⟨hQ, hlm, hn⟩ hl hnn (IS_w hI0 (by omega)) (decide_eq_true y3) (by unfold iW; rw [if_neg (bne hon)]; show tSq (eT L s) e [102, 102, 32] (p + 1) = _; rw [tSq, if_pos y57, tSq, if_pos y66]) (by omega) (by rw [cu_ap, if_pos ⟨rfl, rfl, rfl⟩]) k1 k0
          · refine r_ifneF 72 dX11_item_69 rfl 74 (by decide) (by decide) (by decide) ?_
            refine r_iconst 73 dX11_item_72 rfl ?_
            have a0 : iO (eT L s) e p = true := decide_eq_true y3
            have hsq : tSq (eT L s) e (iW (eT L s) e p) (p + 1) = (p + 1 + 1, false) := by
              unfold iW
              rw [if_neg (bne hon)]
              show tSq (eT L s) e [102, 102, 32] (p + 1) = _
              rw [tSq, if_pos y57, tSq, if_neg y66]
            have A : tSN (eT L s) e (iW (eT L s) e p) 0 (n - 1) (p + 1) = false := by unfold tSN; rw [hsq]; rfl
            have hB := MB_tr F57 P66
            refine r_zret dX11_item_73 rfl (by decide) (k0 _ (by unfold iOk; rw [if_pos a0, if_neg (bne A)]) (MF_MV hB.1) ?_)
            have hf : iF (eT L s) e n p = tSF (eT L s) e (iW (eT L s) e p) (p + 1) := by unfold iF; rw [if_pos a0, if_neg (bne A)]
            rw [hf]
            unfold tSF
            rw [hsq]
            exact hB.2
        · refine r_ifeqT 72 0 dX11_item_60 (by decide) (by decide) (by decide) ?_
          refine r_iconst 73 dX11_item_72 rfl ?_
          have a0 : iO (eT L s) e p = true := decide_eq_true y3
          have hsq : tSq (eT L s) e (iW (eT L s) e p) (p + 1) = (p + 1, false) := by
            unfold iW
            rw [if_neg (bne hon)]
            show tSq (eT L s) e [102, 102, 32] (p + 1) = _
            rw [tSq, if_neg y57]
          have A : tSN (eT L s) e (iW (eT L s) e p) 0 (n - 1) (p + 1) = false := by unfold tSN; rw [hsq]; rfl
          have hB := MB_tr P3 P57
          refine r_zret dX11_item_73 rfl (by decide) (k0 _ (by unfold iOk; rw [if_pos a0, if_neg (bne A)]) (MF_MV hB.1) ?_)
          have hf : iF (eT L s) e n p = tSF (eT L s) e (iW (eT L s) e p) (p + 1) := by unfold iF; rw [if_pos a0, if_neg (bne A)]
          rw [hf]
          unfold tSF
          rw [hsq]
          exact hB.2
      · refine r_iconst 32 dX11_item_31 rfl ?_
        refine r_goto 36 dX11_item_32 (by decide) ?_
        refine r_istore1 37 dX11_item_36 rfl rfl (by decide) ?_
        have hon : iOn (eT L s) e p = true := decide_eq_true (by omega)
        refine r_iloadN 38 dX11_item_37 rfl rfl ?_
        refine r_ifeqF 41 dX11_item_38 rfl 54 (by decide) (by decide) (by decide) ?_
        refine r_aloadN 42 dX11_item_41 rfl rfl ?_
        refine r_dupr 43 dX11_item_42 rfl ?_
        refine r_geti 46 dX11_item_43 rfl fX11_203 (by decide) (sh_50 z _) rfl ?_
        rw [P3.2]
        refine r_iconst 47 dX11_item_46 rfl ?_
        refine r_iadd 48 dX11_item_47 rfl ?_
        rw [show ((p + 1 : Nat) : Int) + 1 = ((p + 1 + 1 : Nat) : Int) by omega]
        refine r_puti 51 dX11_item_48 rfl pX11_203 (by decide) (sh_50 z _) rfl ?_
        refine r_goto 74 dX11_item_51 (by decide) ?_
        have F74 : MP c (cu c3 50 0 51 ((p + 1 + 1 : Nat) : Int)) (p + 1 + 1) := MP_tr P3 ⟨MF_cu (by omega), by rw [cu_ap, if_pos ⟨rfl, rfl, rfl⟩]⟩
        have hI0 : IS c (cu c3 50 0 51 ((p + 1 + 1 : Nat) : Int)) s e m (p + 1 + 1) := IS_mp ⟨fun _ _ _ _ _ => rfl, hs, ha, hm⟩ F74
        refine r_aloadN 75 dX11_item_74 rfl rfl ?_
        refine r_getq 78 dX11_item_75 rfl fX11_144 (by decide) (sh_50 z _) rfl ?_
        refine r_aloadN 79 dX11_item_78 rfl rfl ?_
        refine r_geti 82 dX11_item_79 rfl fX11_238 (by decide) (sh_50 z _) rfl ?_
        rw [hI0.2.2.2]
        refine r_iloadN 83 dX11_item_82 rfl rfl ?_
        refine r_ifeqF 86 dX11_item_83 rfl 90 (by decide) (by decide) (by decide) ?_
        refine r_iconst 87 dX11_item_86 rfl ?_
        refine r_goto 91 dX11_item_87 (by decide) ?_
        refine r_iast (n := 8) 92 dX11_item_91 (m) rfl rfl (by decide) (sh_51 z _) (by decide) (by omega) (by omega) ?_
        have y14 := of_decide_eq_true (show decide (p + 1 < e ∧ eT L s (p + 1) = 110) = true from hon)
        exact m_it92 (ov := 0) (by rw [if_pos hon]) ⟨hQ, hlm, hn⟩ hl hnn (IS_w hI0 (by omega)) (decide_eq_true y3) (by unfold iW; rw [if_pos hon]; show tSq (eT L s) e [110, 32] (p + 1) = _; rw [tSq, if_pos y14]) (by omega) (by rw [cu_ap, if_pos ⟨rfl, rfl, rfl⟩]) k1 k0
  · refine r_ifneF 9 dX11_item_6 rfl 11 (by decide) (by decide) (by decide) ?_
    refine r_iconst 10 dX11_item_9 rfl ?_
    have a0 : iO (eT L s) e p = false := decide_eq_false y3
    exact r_zret dX11_item_10 rfl (by decide) (k0 _ (by unfold iOk; rw [if_neg (bne a0)]) (MF_MV P3.1) (by unfold iF; rw [if_neg (bne a0)]; exact P3.2))
