/-! ===== the law's head: class and model are made ===== -/
theorem h_sub {z : xZ} {d : Nat} {M : xMI} {mc ms : Nat} {P : xP} {pc : Nat} {lo : xLoc} {μ : xMem} {b : Nat × Nat} {U : pU} {ad : Nat → Nat → Nat} {ix ix2 ci : Nat} {r : vw_C} {ty : Nat → FieldType} {N : xMI} (Wx : pW) (g i : Nat) (fs : List pV) (mc2 ms2 : Nat) (b2 : Nat × Nat) (q1 q2 q3 : Nat) (h0 : decode M.2.1 pc = .ok (.new ix, 3)) (e1 : pc + 3 = q1) (h1 : decode M.2.1 q1 = .ok (.dup, 1)) (e2 : q1 + 1 = q2) (h2 : decode M.2.1 q2 = .ok (.invokespecial ix2, 3)) (e3 : q2 + 3 = q3) (n1 : Cond.classLink M.1.cls ix r.1 ∈ (Cf z).1 ∧ Cond.instantiable r.1 r.2.2 ∈ (Cf z).1 ∧ Cond.initialized r.1 ∈ (Cf z).1) (hc : xcl[ci]? = some r) (h5 : ∀ k, k < r.2.2 → parseFieldDescriptor (r.2.1 k).2.2.1 = some (ty k)) (h6 : ∀ j, j < r.2.2 → defaultValue (ty j) = vp_V (fs.map (pfv (fun _ _ => 0))) j) (hr : ∀ v ∈ fs, v = .inl 0 ∨ v = .inr none) (n2 : xCi (Cf z) M.1.cls ix2 N 0 ∨ ∃ h, xCiN (Cf z) M.1.cls ix2 N 0 h) (hN : 1 ≤ N.2.2.1) (hm : b.1 + 1 + mc2 ≤ mc) (hs : b.2 + r.2.2 + ms2 ≤ ms) (hb : (b.1 + 1 + mc2, b.2 + r.2.2 + ms2) = b2) (hB : PB z.1 μ ad U) (hU : U g i = none)
    (hk : ∀ (Q2 : xQ) μ1 ad1, PB z.1 μ1 ad1 (us U g i (.inl (ci, fs))) → (∀ μ2 ad2, PB z.1 μ2 ad2 (uw pfin Wx (us U g i (.inl (ci, fs)))) → pAg (us U g i (.inl (ci, fs))) ad1 ad2 → Q2 none μ2) → Ex (Cf z) d N mc2 ms2 Q2 0 (xbeg N.2.2.1 (.ref (ad1 g i) :: [])) [] μ1 (0, 0))
    (rs : xR_stk (Cf z) M mc ms P) (rn : xR_new (Cf z) M mc ms P) (rc : xC_i (Cf z) (Ex (Cf z) d) M mc ms P)
    (k : ∀ μ2 ad2, PB z.1 μ2 ad2 (uw pfin Wx (us U g i (.inl (ci, fs)))) → pAg U ad ad2 → P q3 lo [.ref (ad2 g i)] μ2 b2) : P pc lo [] μ b := by
  subst hb; subst e1; subst e2; subst e3
  refine rn pc lo [] μ b ix ci r ty (fs.map (pfv (fun _ _ => 0))) h0 n1.1 n1.2.1 n1.2.2 hc h5 h6 (by omega) (by omega) (fun a ha => ?_)
  obtain ⟨w1, w2, w3⟩ := PB_new (D := .inl (ci, fs)) (e := .inr (ci, fs.map (pfv (fun _ _ => 0)))) hB hU ha (fun ad2 => by
    unfold pev
    dsimp only
    refine congrArg (fun l => Sum.inr (ci, l)) (List.map_congr_left (fun v hv => ?_))
    rcases hr v hv with e | e <;> rw [e] <;> rfl)
  refine rs (pc + 3) lo [.ref a] [.ref a, .ref a] _ _ .dup 1 h1 rfl ?_
  refine rc (pc + 3 + 1) lo [.ref a] [] _ _ ix2 0 a mc2 ms2 N h2 n2 rfl (Nat.le_of_ble_eq_true rfl) hm hs hN ?_
  have key := hk (fun r9 μ2 => P (pc + 3 + 1 + 3) lo (r9.toList ++ [.ref a]) μ2 (b.1 + 1 + mc2, b.2 + r.2.2 + ms2)) _ _ w1 (fun μ2 ad2 b3 a3 => ?_)
  · rw [w3] at key
    exact key
  · have e : ad2 g i = a := (a3 g i (by rw [us_self]; exact sn_ne)).trans w3
    have q := k μ2 ad2 b3 (pAg_tr w2 a3 (fun _ _ q => us_p q))
    rw [e] at q
    exact q
def pU1 : pU := us (fun _ _ => none) 0 0 (.inl (10, [.inr none, .inr none, .inr none, .inr none, .inr none, .inr none, .inr none, .inl 0]))
noncomputable def pU2 : pU := us (uw pfin wA0 pU1) 50 0 (.inl (11, [.inl 0, .inl 0, .inl 0, .inl 0, .inl 0, .inl 0, .inl 0, .inl 0, .inl 0, .inl 0, .inr none, .inr none, .inr none, .inr none, .inr none, .inr none, .inr none, .inr none, .inr none, .inr none, .inr none, .inr none, .inr none, .inr none, .inr none, .inr none, .inr none, .inr none, .inr none, .inr none, .inr none, .inr none, .inr none, .inr none, .inr none, .inr none, .inr none, .inr none, .inr none, .inr none, .inr none, .inr none, .inr none, .inr none, .inr none, .inr none, .inr none, .inr none, .inr none, .inr none, .inl 0, .inl 0, .inl 0, .inl 0, .inl 0, .inl 0, .inl 0, .inr none, .inr none, .inr none, .inr none, .inr none, .inr none, .inr none, .inr none, .inr none, .inl 0, .inl 0, .inl 0, .inl 0, .inl 0, .inl 0, .inl 0, .inl 0, .inl 0, .inl 0, .inr none]))
noncomputable def pU3 : pU := uw pfin wMo pU2
theorem pU1_n {x y : Nat} (h : ¬ (x = 0 ∧ y = 0)) : pU1 x y = none := by
  unfold pU1
  rw [us_ne h]
theorem wA0_k {x y : Nat} (h : wA0 x y) : x ≤ 45 := by
  rcases h with (((((((h | h) | h) | h) | h) | h) | h) | h) | h
  · omega
  · omega
  · have := kSe h; omega
  · have := kTo h; omega
  · have := kRe h; omega
  · have := kAc h; omega
  · omega
  · omega
  · omega
theorem hd_go {z : xZ} {d mc ms : Nat} {P : xP} {a0 : Nat} (hmc : 264 ≤ mc) (hms : 5864 ≤ ms) (ru : xRules (Cf z) ML_law mc ms P) (rc : xCalls (Cf z) (Ex (Cf z) (d + 4)) ML_law mc ms P) (k : ∀ μ ad, PB z.1 μ ad pU3 → P 18 [some (.ref a0), some (.ref (ad 0 0)), some (.ref (ad 50 0)), some (.int (iI 0))] [] μ (264, 5864)) : P 0 [some (.ref a0), none, none, none] [] (fun _ => none) (0, 0) := by
  obtain ⟨r0, r1, r2, r3, r4, r5, r6, r7, r8, r9, r10, r11, r12, r13, r14, r15, r16, r17, r18, r19, r20, r21, r22, r23, r24, r25, r26, r27, r28, r29, r30, r31, r32, r33, r34, r35, r36, r37, r38, r39, r40, r41, r42, r43, r44, r45, r46, r47, r48, r49, r50, r51, r52, r53, r54, r55, r56, r57, r58, r59, r60, r61, r62, r63⟩ := ru
  refine h_sub (z := z) (M := ML_law) (mc := mc) (ms := ms) (P := P) (ad := fun _ _ => 0) (U := fun _ _ => none) (r := (RX10, TX10, 8)) (ty := tyX10) (ci := 10) (N := MX10_init) wA0 0 0 [.inr none, .inr none, .inr none, .inr none, .inr none, .inr none, .inr none, .inl 0] 212 2877 (213, 2885) 3 4 7 dL_law_0 rfl dL_law_3 rfl dL_law_4 rfl (nL_7 z) rfl tyX10_ok (by decide +kernel) (by decide) (gL_9 z) (Nat.le_of_ble_eq_true rfl) (by show 213 ≤ mc; omega) (by show 2885 ≤ ms; omega) rfl PB_none rfl (fun Q2 μ1 ad1 b1 kk => n_class b1 (us_self _ _ _ _) (fun x y h1 h2 => us_ne h2) kk) r0 r54 rc.2.2 (fun μ2 ad2 hB2 hA2 => ?_)
  refine r16 7 _ [] _ _ 1 (ad2 0 0) dL_law_7 (by decide) ?_
  refine h_sub (z := z) (M := ML_law) (mc := mc) (ms := ms) (P := P) (ad := ad2) (U := uw pfin wA0 pU1) (r := (RX11, TX11, 77)) (ty := tyX11) (ci := 11) (N := MX11_init) wMo 50 0 [.inl 0, .inl 0, .inl 0, .inl 0, .inl 0, .inl 0, .inl 0, .inl 0, .inl 0, .inl 0, .inr none, .inr none, .inr none, .inr none, .inr none, .inr none, .inr none, .inr none, .inr none, .inr none, .inr none, .inr none, .inr none, .inr none, .inr none, .inr none, .inr none, .inr none, .inr none, .inr none, .inr none, .inr none, .inr none, .inr none, .inr none, .inr none, .inr none, .inr none, .inr none, .inr none, .inr none, .inr none, .inr none, .inr none, .inr none, .inr none, .inr none, .inr none, .inr none, .inr none, .inl 0, .inl 0, .inl 0, .inl 0, .inl 0, .inl 0, .inl 0, .inr none, .inr none, .inr none, .inr none, .inr none, .inr none, .inr none, .inr none, .inr none, .inl 0, .inl 0, .inl 0, .inl 0, .inl 0, .inl 0, .inl 0, .inl 0, .inl 0, .inl 0, .inr none] 50 2902 (264, 5864) 11 12 15 dL_law_8 rfl dL_law_11 rfl dL_law_12 rfl (nL_10 z) rfl tyX11_ok (by decide +kernel) (by decide) (gL_12 z) (Nat.le_of_ble_eq_true rfl) (by show 264 ≤ mc; omega) (by show 5864 ≤ ms; omega) rfl hB2 (by rw [uw_n (fun q => absurd (wA0_k q) (by omega)), pU1_n (by omega)]) (fun Q2 μ1 ad1 b1 kk => n_model (d := d + 3) b1 (us_self _ _ _ _) (fun x y h => by rw [us_ne (by omega), uw_n (fun q => absurd (wA0_k q) (by omega)), pU1_n (by omega)]) kk) r0 r54 rc.2.2 (fun μ3 ad3 hB3 hA3 => ?_)
  refine r16 15 _ [] _ _ 2 (ad3 50 0) dL_law_15 (by decide) ?_
  refine r0 16 _ [] [.int (Int32.ofInt 0)] _ _ (.iconst 0) 1 dL_law_16 rfl ?_
  refine r14 17 _ [] _ _ 3 (Int32.ofInt 0) dL_law_17 (by decide) ?_
  have q := k μ3 ad3 hB3
  rw [hA3 0 0 (uw_p (sm_ne (us_self _ _ _ _)))] at q
  exact q
