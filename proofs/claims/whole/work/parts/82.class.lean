/-! ===== the class's constructor ===== -/
theorem kTo {t x y : Nat} (h : wTo t x y) : (8 ≤ x ∧ x ≤ 27) ∨ (41 ≤ x ∧ x ≤ 45) := by unfold wTo at h; omega
theorem kSe {x y : Nat} (h : wSe x y) : (5 ≤ x ∧ x ≤ 27) ∨ (41 ≤ x ∧ x ≤ 45) := by
  rcases h with h | h
  · omega
  · have := kTo h; omega
theorem kRe {x y : Nat} (h : wRe x y) : (30 ≤ x ∧ x ≤ 32) ∨ x = 14 ∨ (41 ≤ x ∧ x ≤ 45) := by unfold wRe at h; omega
theorem kAc {x y : Nat} (h : wAc x y) : x = 33 ∨ x = 34 := h.2
theorem dTT {x y : Nat} (h : wTo 0 x y) (h2 : wTo 1 x y) : False := by unfold wTo at h h2; omega
theorem dST {x y : Nat} (h : wSe x y) (h2 : wTo 1 x y) : False := by
  rcases h with h | h
  · have := kTo h2; omega
  · exact dTT h h2
theorem dTR {t x y : Nat} (ht : t ≤ 1) (h : wTo t x y) (h2 : wRe x y) : False := by unfold wTo at h; unfold wRe at h2; omega
theorem dSR {x y : Nat} (h : wSe x y) (h2 : wRe x y) : False := by
  rcases h with h | h
  · have := kRe h2; omega
  · exact dTR (by omega) h h2
theorem wTo_s : wTo 1 8 1 := Or.inl ⟨rfl, Or.inl ⟨by omega, by omega⟩⟩
theorem wSe_s : wSe 5 0 := Or.inl ⟨rfl, by omega, by omega⟩
theorem wSe_8 : wSe 8 0 := Or.inr (Or.inl ⟨rfl, Or.inl ⟨by omega, by omega⟩⟩)
theorem wRe_s : wRe 30 0 := Or.inl ⟨rfl, by omega, by omega⟩
theorem wAc_s : wAc 33 0 := ⟨rfl, Or.inl rfl⟩
theorem aSe {x y : Nat} (h : wSe x y) : wA0 x y := Or.inl (Or.inl (Or.inl (Or.inl (Or.inl (Or.inl (Or.inr h))))))
theorem aTo {x y : Nat} (h : wTo 1 x y) : wA0 x y := Or.inl (Or.inl (Or.inl (Or.inl (Or.inl (Or.inr h)))))
theorem aRe {x y : Nat} (h : wRe x y) : wA0 x y := Or.inl (Or.inl (Or.inl (Or.inl (Or.inr h))))
theorem aAc {x y : Nat} (h : wAc x y) : wA0 x y := Or.inl (Or.inl (Or.inl (Or.inr h)))
theorem a35_s : wA0 35 0 := Or.inl (Or.inl (Or.inr ⟨rfl, rfl⟩))
theorem a1_s : wA0 1 0 := Or.inl wR0_1
theorem n1s {x y : Nat} (h : wSe x y) : ¬ ((x < 0) ∨ (x = 1 ∧ y = 0)) := by have := kSe h; omega
theorem n2t {x y : Nat} (h : wTo 1 x y) : ¬ (((x < 0) ∨ (x = 1 ∧ y = 0)) ∨ (wSe x y)) := by
  rintro (q | q)
  · have := kTo h; omega
  · exact dST q h
theorem n3r {x y : Nat} (h : wRe x y) : ¬ ((((x < 0) ∨ (x = 1 ∧ y = 0)) ∨ (wSe x y)) ∨ (wTo (1) x y)) := by
  rintro ((q | q) | q)
  · have := kRe h; omega
  · exact dSR q h
  · exact dTR (by omega) q h
theorem n4a {x y : Nat} (h : wAc x y) : ¬ (((((x < 0) ∨ (x = 1 ∧ y = 0)) ∨ (wSe x y)) ∨ (wTo (1) x y)) ∨ (wRe x y)) := by
  have hk := kAc h
  rintro (((q | q) | q) | q)
  · omega
  · have := kSe q; omega
  · have := kTo q; omega
  · have := kRe q; omega
theorem n5i : ¬ ((((((35 < 0) ∨ (35 = 1 ∧ 0 = 0)) ∨ (wSe 35 0)) ∨ (wTo (1) 35 0)) ∨ (wRe 35 0)) ∨ (wAc 35 0)) := by
  rintro ((((q | q) | q) | q) | q)
  · omega
  · have := kSe q; omega
  · have := kTo q; omega
  · have := kRe q; omega
  · have := kAc q; omega
theorem cl_n {U : pU} {F : Nat → Nat → pD} {W : pW} {g i x y : Nat} {D Dd : pD} (hn : ∀ x y, wA0 x y → ¬ (x = 0 ∧ y = 0) → U x y = none) (h2 : ¬ (x = g ∧ y = i)) (h0 : ¬ (x = 0 ∧ y = 0)) (hW : ¬ W x y) (hA : wA0 x y) : us (us (uw F W U) 0 0 D) g i Dd x y = none := by
  rw [us_ne h2, us_ne h0, uw_n hW]
  exact hn x y hA h0
theorem cl_v {U : pU} {F : Nat → Nat → pD} {W : pW} {x y : Nat} {D : pD} (hn : ∀ x y, wA0 x y → ¬ (x = 0 ∧ y = 0) → U x y = none) (h0 : ¬ (x = 0 ∧ y = 0)) (hW : ¬ W x y) (hA : wA0 x y) : us (uw F W U) 0 0 D x y = none := by
  rw [us_ne h0, uw_n hW]
  exact hn x y hA h0
theorem uw_q {U : pU} {F : Nat → Nat → pD} {W : pW} {x y : Nat} (h : W x y) : uw F W U x y ≠ none := by
  rw [uw_y h]
  exact sn_ne
theorem n_class {z : xZ} {d : Nat} {Q : xQ} {μ : xMem} {ad : Nat → Nat → Nat} {U : pU} (hB : PB z.1 μ ad U) (h0 : U 0 0 = some (.inl (10, [.inr none, .inr none, .inr none, .inr none, .inr none, .inr none, .inr none, .inl 0]))) (hn : ∀ x y, wA0 x y → ¬ (x = 0 ∧ y = 0) → U x y = none) (k : ∀ μ2 ad2, PB z.1 μ2 ad2 (uw pfin (wA0) U) → pAg U ad ad2 → Q none μ2) : Ex (Cf z) (d + 4) MX10_init 212 2877 Q 0 [some (.ref (ad 0 0)), none] [] μ (0, 0) := by
  have hU : U 0 0 ≠ none := sm_ne h0
  have hA0 : pAg U ad ad := fun _ _ _ => rfl
  have hB0 : PB z.1 μ ad (us (uw pF2 (fun x _ => x < 0) U) 0 0 (.inl (10, [.inr none, .inr none, .inr none, .inr none, .inr none, .inr none, .inr none, .inl 0]))) := by
    rw [uw_0 (fun x _ => Nat.not_lt_zero x), us_id h0]
    exact hB
  refine p_aload 1 dX10_init_0 rfl rfl ?_
  refine p_obj 4 dX10_init_1 rfl gX10_3 (by decide) ?_
  refine p_aload 5 dX10_init_4 rfl rfl ?_
  refine p_bipush 7 dX10_init_5 rfl (by decide) ?_
  refine c_newq (fun x y => (x < 0) ∨ (x = 1 ∧ y = 0)) 1 (0) 2 8 (1, 8) 10 dX10_init_7 rfl nX10_9a rfl rfl (by decide) (by decide) (by decide) hB0 hA0 (by omega) (hn _ _ a1_s (by omega)) (by omega) (by unfold pF2; rw [if_pos ⟨rfl, rfl⟩]) (fun _ _ => Iff.rfl) rfl (fun μ1 ad1 hB1 hA1 => ?_)
  refine c_ref (fs2 := [.inr (some (1, 0)), .inr none, .inr none, .inr none, .inr none, .inr none, .inr none, .inl 0]) 13 dX10_init_10 rfl pX10_11 rfl hB1 hA1 hU (by exact uw_q (Or.inr ⟨rfl, rfl⟩)) (Nat.le_of_ble_eq_true rfl) (fun _ => rfl) (fun _ => rfl) rfl (fun μ2 hB2 => ?_)
  refine p_aload 14 dX10_init_13 rfl rfl ?_
  refine c_sub (r := (RX6, TX6, 8)) (ty := tyX6) (ci := 6) (N := MX6_init) (wSe) 5 (0) [.inr none, .inr none, .inr none, .inl 0, .inl 0, .inl 0, .inl 0, .inl 0] 92 1115 (94, 1131) 21 17 18 dX10_init_14 rfl dX10_init_17 rfl dX10_init_18 rfl nX10_15 rfl tyX6_ok (by decide +kernel) (by decide) gX10_17 (Nat.le_of_ble_eq_true rfl) (Nat.le_of_ble_eq_true rfl) (by decide) (by decide) rfl hB2 (cl_v hn (by omega) (n1s wSe_s) (aSe wSe_s)) (fun Q2 μ1 ad1 b1 kk => n_seeker b1 (us_self _ _ _ _) (fun x y h1 h2 => cl_n hn h2 (fun e => by have q := kSe h1; omega) (n1s h1) (aSe h1)) kk) (fun μ3 ad3 hB3 hA3 => ?_)
  rw [uw_sub2 (F := pF2) (Wx := wSe) (fun x y h => (pF2_n (by have q := kSe h; omega)).symm) (W2 := fun x y => ((x < 0) ∨ (x = 1 ∧ y = 0)) ∨ (wSe x y)) wSe_s (fun h => by have q := kSe h; omega) (fun _ _ => Iff.rfl)] at hB3
  replace hA3 := ag_us hA1 hA3
  refine c_ref (fs2 := [.inr (some (1, 0)), .inr (some (5, 0)), .inr none, .inr none, .inr none, .inr none, .inr none, .inl 0]) 24 dX10_init_21 rfl pX10_18 rfl hB3 hA3 hU (by exact uw_q (Or.inr wSe_s)) (Nat.le_of_ble_eq_true rfl) (fun _ => rfl) (fun _ => rfl) rfl (fun μ4 hB4 => ?_)
  refine p_aload 25 dX10_init_24 rfl rfl ?_
  refine p_aload 26 dX10_init_25 rfl rfl ?_
  refine p_getf 29 dX10_init_26 rfl fX10_18 hB4 (us_self _ _ _ _) (hA3 0 0 hU) rfl ?_
  refine p_getf (g := 5) (i := 0) 32 dX10_init_29 rfl fX10_22 hB4 (fs := [.inr (some (8, 0)), .inr (some (6, 0)), .inr (some (7, 0)), .inl 0, .inl 0, .inl 0, .inl 0, .inl 0]) (by rw [us_ne (by omega), uw_y (Or.inr wSe_s)]; rw [pF2_n (by omega)]; rfl) rfl rfl ?_
  refine c_ref (fs2 := [.inr (some (1, 0)), .inr (some (5, 0)), .inr (some (8, 0)), .inr none, .inr none, .inr none, .inr none, .inl 0]) 35 dX10_init_32 rfl pX10_26 rfl hB4 hA3 hU (by exact uw_q (Or.inr wSe_8)) (Nat.le_of_ble_eq_true rfl) (fun _ => rfl) (fun _ => rfl) rfl (fun μ7 hB7 => ?_)
  refine p_aload 36 dX10_init_35 rfl rfl ?_
  refine c_sub (r := (RX9, TX9, 14)) (ty := tyX9) (ci := 9) (N := MX9_init) (wTo (1)) 8 (1) [.inl 0, .inl 0, .inl 0, .inl 0, .inl 0, .inl 0, .inr none, .inr none, .inr none, .inr none, .inr none, .inr none, .inr none, .inr none] 89 1075 (184, 2220) 43 39 40 dX10_init_36 rfl dX10_init_39 rfl dX10_init_40 rfl nX10_27 rfl tyX9_ok (by decide +kernel) (by decide) gX10_29 (Nat.le_of_ble_eq_true rfl) (Nat.le_of_ble_eq_true rfl) (by decide) (by decide) rfl hB7 (cl_v hn (by omega) (n2t wTo_s) (aTo wTo_s)) (fun Q2 μ1 ad1 b1 kk => n_town b1 (us_self _ _ _ _) (fun x y h1 h2 => cl_n hn h2 (fun e => by have q := kTo h1; omega) (n2t h1) (aTo h1)) kk) (fun μ8 ad8 hB8 hA8 => ?_)
  rw [uw_sub2 (F := pF2) (Wx := wTo 1) (fun x y h => (pF2_n (by have q := kTo h; omega)).symm) (W2 := fun x y => (((x < 0) ∨ (x = 1 ∧ y = 0)) ∨ (wSe x y)) ∨ (wTo (1) x y)) wTo_s (fun h => by have q := kTo h; omega) (fun _ _ => Iff.rfl)] at hB8
  replace hA8 := ag_us hA3 hA8
  refine c_ref (fs2 := [.inr (some (1, 0)), .inr (some (5, 0)), .inr (some (8, 0)), .inr (some (8, 1)), .inr none, .inr none, .inr none, .inl 0]) 46 dX10_init_43 rfl pX10_30 rfl hB8 hA8 hU (by exact uw_q (Or.inr wTo_s)) (Nat.le_of_ble_eq_true rfl) (fun _ => rfl) (fun _ => rfl) rfl (fun μ9 hB9 => ?_)
  refine p_aload 47 dX10_init_46 rfl rfl ?_
  refine c_sub (r := (RX5, TX5, 8)) (ty := tyX5) (ci := 5) (N := MX5_init) (wRe) 30 (0) [.inr none, .inl 0, .inl 0, .inl 0, .inl 0, .inl 0, .inr none, .inr none] 8 112 (193, 2340) 54 50 51 dX10_init_47 rfl dX10_init_50 rfl dX10_init_51 rfl nX10_33 rfl tyX5_ok (by decide +kernel) (by decide) gX10_35 (Nat.le_of_ble_eq_true rfl) (Nat.le_of_ble_eq_true rfl) (by decide) (by decide) rfl hB9 (cl_v hn (by omega) (n3r wRe_s) (aRe wRe_s)) (fun Q2 μ1 ad1 b1 kk => n_reader b1 (us_self _ _ _ _) (fun x y h1 h2 => cl_n hn h2 (fun e => by have q := kRe h1; omega) (n3r h1) (aRe h1)) kk) (fun μ10 ad10 hB10 hA10 => ?_)
  rw [uw_sub2 (F := pF2) (Wx := wRe) (fun x y h => (pF2_n (by have q := kRe h; omega)).symm) (W2 := fun x y => ((((x < 0) ∨ (x = 1 ∧ y = 0)) ∨ (wSe x y)) ∨ (wTo (1) x y)) ∨ (wRe x y)) wRe_s (fun h => by have q := kRe h; omega) (fun _ _ => Iff.rfl)] at hB10
  replace hA10 := ag_us hA8 hA10
  refine c_ref (fs2 := [.inr (some (1, 0)), .inr (some (5, 0)), .inr (some (8, 0)), .inr (some (8, 1)), .inr (some (30, 0)), .inr none, .inr none, .inl 0]) 57 dX10_init_54 rfl pX10_36 rfl hB10 hA10 hU (by exact uw_q (Or.inr wRe_s)) (Nat.le_of_ble_eq_true rfl) (fun _ => rfl) (fun _ => rfl) rfl (fun μ11 hB11 => ?_)
  refine p_aload 58 dX10_init_57 rfl rfl ?_
  refine c_sub (r := (RX0, TX0, 5)) (ty := tyX0) (ci := 0) (N := MX0_init) (wAc) 33 (0) [.inr none, .inl 0, .inl 0, .inl 0, .inl 0] 1 20 (195, 2365) 65 61 62 dX10_init_58 rfl dX10_init_61 rfl dX10_init_62 rfl nX10_40 rfl tyX0_ok (by decide +kernel) (by decide) gX10_42 (Nat.le_of_ble_eq_true rfl) (Nat.le_of_ble_eq_true rfl) (by decide) (by decide) rfl hB11 (cl_v hn (by omega) (n4a wAc_s) (aAc wAc_s)) (fun Q2 μ1 ad1 b1 kk => n_acts b1 (us_self _ _ _ _) (fun x y h1 h2 => cl_n hn h2 (fun e => by have q := kAc h1; omega) (n4a h1) (aAc h1)) kk) (fun μ12 ad12 hB12 hA12 => ?_)
  rw [uw_sub2 (F := pF2) (Wx := wAc) (fun x y h => (pF2_n (by have q := kAc h; omega)).symm) (W2 := fun x y => (((((x < 0) ∨ (x = 1 ∧ y = 0)) ∨ (wSe x y)) ∨ (wTo (1) x y)) ∨ (wRe x y)) ∨ (wAc x y)) wAc_s (fun h => by have q := kAc h; omega) (fun _ _ => Iff.rfl)] at hB12
  replace hA12 := ag_us hA10 hA12
  refine c_ref (fs2 := [.inr (some (1, 0)), .inr (some (5, 0)), .inr (some (8, 0)), .inr (some (8, 1)), .inr (some (30, 0)), .inr (some (33, 0)), .inr none, .inl 0]) 68 dX10_init_65 rfl pX10_43 rfl hB12 hA12 hU (by exact uw_q (Or.inr wAc_s)) (Nat.le_of_ble_eq_true rfl) (fun _ => rfl) (fun _ => rfl) rfl (fun μ13 hB13 => ?_)
  refine p_aload 69 dX10_init_68 rfl rfl ?_
  refine p_bipush 71 dX10_init_69 rfl (by decide) ?_
  refine c_newi (fun x y => ((((((x < 0) ∨ (x = 1 ∧ y = 0)) ∨ (wSe x y)) ∨ (wTo (1) x y)) ∨ (wRe x y)) ∨ (wAc x y)) ∨ (x = 35 ∧ y = 0)) 35 (0) 8 (196, 2373) 73 dX10_init_71 rfl rfl (by decide) (by decide) (by decide) hB13 hA12 (by omega) (hn _ _ a35_s (by omega)) (by exact n5i) (by rw [pF2_n (by omega)]; rfl) (fun _ _ => Iff.rfl) rfl (fun μ14 ad14 hB14 hA14 => ?_)
  refine c_ref (fs2 := [.inr (some (1, 0)), .inr (some (5, 0)), .inr (some (8, 0)), .inr (some (8, 1)), .inr (some (30, 0)), .inr (some (33, 0)), .inr (some (35, 0)), .inl 0]) 76 dX10_init_73 rfl pX10_47 rfl hB14 hA14 hU (by exact uw_q (Or.inr ⟨rfl, rfl⟩)) (Nat.le_of_ble_eq_true rfl) (fun _ => rfl) (fun _ => rfl) rfl (fun μ15 hB15 => ?_)
  refine p_aload 77 dX10_init_76 rfl rfl ?_
  refine p_iconst 78 dX10_init_77 rfl ?_
  refine c_int (fs2 := [.inr (some (1, 0)), .inr (some (5, 0)), .inr (some (8, 0)), .inr (some (8, 1)), .inr (some (30, 0)), .inr (some (33, 0)), .inr (some (35, 0)), .inl 0]) 81 dX10_init_78 rfl pX10_51 hB15 hA14 hU (Nat.le_of_ble_eq_true rfl) rfl rfl rfl (fun μ16 hB16 => ?_)
  have e0 : us (uw pF2 (fun x y => ((((((x < 0) ∨ (x = 1 ∧ y = 0)) ∨ (wSe x y)) ∨ (wTo (1) x y)) ∨ (wRe x y)) ∨ (wAc x y)) ∨ (x = 35 ∧ y = 0)) U) 0 0 (pfin 0 0) = hS 0 U := by
    rw [uw_us (W2 := wR0) (pF2_n (by omega)).symm (fun x y => Iff.rfl)]
    exact hS_b
  have hB9 : PB z.1 _ _ (hS 0 U) := e0 ▸ hB16
  clear e0
  refine p_iconst 82 dX10_init_81 rfl ?_
  refine p_istore1 83 dX10_init_82 rfl rfl (by decide) ?_
  refine n_class_l hU hn (fun μa ada hBa hAa => ?_) 8 0 _ _ rfl hB9 hA14
  refine e_vret dX10_init_108 rfl (by decide) (by decide) (k _ _ ?_ hAa)
  rw [← hS_e]
  exact hBa
