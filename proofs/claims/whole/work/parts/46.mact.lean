theorem m_body {z : xZ} {d : Nat} {Q : tQ} {c : tC} {L : tL} {n : Nat} {b : Int} (h : c 50 0 66 = (n : Int)) (hn : n < 20) (k : Q none (cu (cu c 51 65 n b) 50 0 66 ((n : Int) + 1)) L) : En z (d + 1) MX11_body Q 0 [some (.ref (xad z 50 0)), some (.int (iI b))] [] c L := by
  refine r_aloadN 1 dX11_body_0 rfl rfl ?_
  refine r_geti 4 dX11_body_1 rfl fX11_351 (by decide) (sh_50 z _) rfl ?_
  rw [h]
  refine r_bipush 6 dX11_body_4 rfl (by decide) ?_
  refine r_icge 19 9 dX11_body_6 rfl (by decide) (by omega) (by omega) (fun h6 => ?_) (fun h6 => ?_)
  · refine r_aloadN 20 dX11_body_19 rfl rfl ?_
    refine r_dupr 21 dX11_body_20 rfl ?_
    refine r_geti 24 dX11_body_21 rfl fX11_351 (by decide) (sh_50 z _) rfl ?_
    (try simp only [cu_ap, Nat.reduceEqDiff, false_and, and_false, if_false, reduceIte])
    rw [h]
    refine r_iconst 25 dX11_body_24 rfl ?_
    refine r_iadd 26 dX11_body_25 rfl ?_
    refine r_puti 29 dX11_body_26 rfl pX11_351 (by decide) (sh_50 z _) rfl ?_
    first
      | (exfalso; omega)
      | exact r_vret dX11_body_29 rfl k
  · refine r_aloadN 10 dX11_body_9 rfl rfl ?_
    refine r_getq 13 dX11_body_10 rfl fX11_162 (by decide) (sh_50 z _) rfl ?_
    refine r_aloadN 14 dX11_body_13 rfl rfl ?_
    refine r_geti 17 dX11_body_14 rfl fX11_351 (by decide) (sh_50 z _) rfl ?_
    (try simp only [cu_ap, Nat.reduceEqDiff, false_and, and_false, if_false, reduceIte])
    rw [h]
    refine r_iloadN 18 dX11_body_17 rfl rfl ?_
    refine r_iast (n := 20) 19 dX11_body_18 (n) rfl rfl (by decide) (sh_51 z _) (by decide) (by omega) (by omega) ?_
    refine r_aloadN 20 dX11_body_19 rfl rfl ?_
    refine r_dupr 21 dX11_body_20 rfl ?_
    refine r_geti 24 dX11_body_21 rfl fX11_351 (by decide) (sh_50 z _) rfl ?_
    (try simp only [cu_ap, Nat.reduceEqDiff, false_and, and_false, if_false, reduceIte])
    rw [h]
    refine r_iconst 25 dX11_body_24 rfl ?_
    refine r_iadd 26 dX11_body_25 rfl ?_
    refine r_puti 29 dX11_body_26 rfl pX11_351 (by decide) (sh_50 z _) rfl ?_
    first
      | (exfalso; omega)
      | exact r_vret dX11_body_29 rfl k
theorem m_soundsOf {z : xZ} {d : Nat} {Q : tQ} {c : tC} {L : tL} {n s : Nat} {kd x : Int} (h : c 50 0 66 = (n : Int)) (hn : n + 3 ≤ 20) (hkd : c 51 19 s = kd) (hk : 1 ≤ kd ∧ kd ≤ 7) (hs : s < 14) (k : Q (some (.int (iI (sV kd (s : Int) x)))) (mBs c n (sL kd)) L) : En z (d + 2) MX11_soundsOf Q 0 [some (.ref (xad z 50 0)), some (.int (iI (s : Int))), some (.int (iI x)), none, none, none] [] c L := by
  rcases (show kd = 1 ∨ kd = 2 ∨ kd = 3 ∨ kd = 4 ∨ kd = 5 ∨ kd = 6 ∨ kd = 7 by omega) with e9 | e9 | e9 | e9 | e9 | e9 | e9
  · subst e9
    refine r_aloadN 1 dX11_soundsOf_0 rfl rfl ?_
    refine r_getq 4 dX11_soundsOf_1 rfl fX11_44 (by decide) (sh_50 z _) rfl ?_
    refine r_iloadN 5 dX11_soundsOf_4 rfl rfl ?_
    refine r_iald (n := 14) 6 dX11_soundsOf_5 (s) rfl rfl (by decide) (sh_51 z _) (by decide) (by omega) (by omega) ?_
    rw [hkd]
    refine r_istore3 7 dX11_soundsOf_6 rfl rfl (by decide) ?_
    refine r_iloadN 8 dX11_soundsOf_7 rfl rfl ?_
    refine r_istore4 10 dX11_soundsOf_8 rfl rfl (by decide) ?_
    refine r_iloadN 11 dX11_soundsOf_10 rfl rfl ?_
    refine r_bipush 13 dX11_soundsOf_11 rfl (by decide) ?_
    refine r_icne 27 16 dX11_soundsOf_13 rfl (by decide) (by omega) (by omega) (fun h13 => ?_) (fun h13 => False.elim (by omega))
    refine r_iloadN 28 dX11_soundsOf_27 rfl rfl ?_
    refine r_iconst 29 dX11_soundsOf_28 rfl ?_
    refine r_iceq 38 32 dX11_soundsOf_29 rfl (by decide) (by omega) (by omega) (fun h29 => ?_) (fun h29 => False.elim (by omega))
    refine r_aloadN 39 dX11_soundsOf_38 rfl rfl ?_
    refine r_bipush 41 dX11_soundsOf_39 rfl (by decide) ?_
    refine r_cv1 44 dX11_soundsOf_41 rfl gX11_354 rfl (by decide) (sh_50 z _) rfl rfl (Nat.le_of_ble_eq_true rfl) (Nat.le_of_ble_eq_true rfl) rfl ?_
    refine m_body (n := n) h (by omega) ?_
    refine r_iloadN 45 dX11_soundsOf_44 rfl rfl ?_
    refine r_iconst 46 dX11_soundsOf_45 rfl ?_
    refine r_icne 55 49 dX11_soundsOf_46 rfl (by decide) (by omega) (by omega) (fun h46 => ?_) (fun h46 => False.elim (by omega))
    refine r_aloadN 56 dX11_soundsOf_55 rfl rfl ?_
    refine r_bipush 58 dX11_soundsOf_56 rfl (by decide) ?_
    refine r_cv1 61 dX11_soundsOf_58 rfl gX11_354 rfl (by decide) (sh_50 z _) rfl rfl (Nat.le_of_ble_eq_true rfl) (Nat.le_of_ble_eq_true rfl) rfl ?_
    refine m_body (n := n + 1) (by show (n : Int) + 1 = _; omega) (by omega) ?_
    refine r_iload 63 dX11_soundsOf_61 rfl rfl ?_
    refine r_iloadN 64 dX11_soundsOf_63 rfl rfl ?_
    refine r_iadd 65 dX11_soundsOf_64 rfl ?_
    refine r_istore5 67 dX11_soundsOf_65 rfl rfl (by decide) ?_
    refine r_iloadN 68 dX11_soundsOf_67 rfl rfl ?_
    refine r_iconst 69 dX11_soundsOf_68 rfl ?_
    refine r_iceq 78 72 dX11_soundsOf_69 rfl (by decide) (by omega) (by omega) (fun h69 => ?_) (fun h69 => False.elim (by omega))
    refine r_iload 80 dX11_soundsOf_78 rfl rfl ?_
    refine r_iconst 81 dX11_soundsOf_80 rfl ?_
    refine r_imul 82 dX11_soundsOf_81 rfl ?_
    refine r_goto 99 dX11_soundsOf_82 (by decide) ?_
    exact r_ret dX11_soundsOf_99 rfl k
  · subst e9
    refine r_aloadN 1 dX11_soundsOf_0 rfl rfl ?_
    refine r_getq 4 dX11_soundsOf_1 rfl fX11_44 (by decide) (sh_50 z _) rfl ?_
    refine r_iloadN 5 dX11_soundsOf_4 rfl rfl ?_
    refine r_iald (n := 14) 6 dX11_soundsOf_5 (s) rfl rfl (by decide) (sh_51 z _) (by decide) (by omega) (by omega) ?_
    rw [hkd]
    refine r_istore3 7 dX11_soundsOf_6 rfl rfl (by decide) ?_
    refine r_iloadN 8 dX11_soundsOf_7 rfl rfl ?_
    refine r_istore4 10 dX11_soundsOf_8 rfl rfl (by decide) ?_
    refine r_iloadN 11 dX11_soundsOf_10 rfl rfl ?_
    refine r_bipush 13 dX11_soundsOf_11 rfl (by decide) ?_
    refine r_icne 27 16 dX11_soundsOf_13 rfl (by decide) (by omega) (by omega) (fun h13 => ?_) (fun h13 => False.elim (by omega))
    refine r_iloadN 28 dX11_soundsOf_27 rfl rfl ?_
    refine r_iconst 29 dX11_soundsOf_28 rfl ?_
    refine r_iceq 38 32 dX11_soundsOf_29 rfl (by decide) (by omega) (by omega) (fun h29 => False.elim (by omega)) (fun h29 => ?_)
    refine r_iloadN 33 dX11_soundsOf_32 rfl rfl ?_
    refine r_bipush 35 dX11_soundsOf_33 rfl (by decide) ?_
    refine r_icne 44 38 dX11_soundsOf_35 rfl (by decide) (by omega) (by omega) (fun h35 => ?_) (fun h35 => False.elim (by omega))
    refine r_iloadN 45 dX11_soundsOf_44 rfl rfl ?_
    refine r_iconst 46 dX11_soundsOf_45 rfl ?_
    refine r_icne 55 49 dX11_soundsOf_46 rfl (by decide) (by omega) (by omega) (fun h46 => ?_) (fun h46 => False.elim (by omega))
    refine r_aloadN 56 dX11_soundsOf_55 rfl rfl ?_
    refine r_bipush 58 dX11_soundsOf_56 rfl (by decide) ?_
    refine r_cv1 61 dX11_soundsOf_58 rfl gX11_354 rfl (by decide) (sh_50 z _) rfl rfl (Nat.le_of_ble_eq_true rfl) (Nat.le_of_ble_eq_true rfl) rfl ?_
    refine m_body (n := n) h (by omega) ?_
    refine r_iload 63 dX11_soundsOf_61 rfl rfl ?_
    refine r_iloadN 64 dX11_soundsOf_63 rfl rfl ?_
    refine r_iadd 65 dX11_soundsOf_64 rfl ?_
    refine r_istore5 67 dX11_soundsOf_65 rfl rfl (by decide) ?_
    refine r_iloadN 68 dX11_soundsOf_67 rfl rfl ?_
    refine r_iconst 69 dX11_soundsOf_68 rfl ?_
    refine r_iceq 78 72 dX11_soundsOf_69 rfl (by decide) (by omega) (by omega) (fun h69 => False.elim (by omega)) (fun h69 => ?_)
    refine r_iloadN 73 dX11_soundsOf_72 rfl rfl ?_
    refine r_bipush 75 dX11_soundsOf_73 rfl (by decide) ?_
    refine r_icne 85 78 dX11_soundsOf_75 rfl (by decide) (by omega) (by omega) (fun h75 => ?_) (fun h75 => False.elim (by omega))
    refine r_iloadN 86 dX11_soundsOf_85 rfl rfl ?_
    refine r_iconst 87 dX11_soundsOf_86 rfl ?_
    refine r_icne 97 90 dX11_soundsOf_87 rfl (by decide) (by omega) (by omega) (fun h87 => ?_) (fun h87 => False.elim (by omega))
    refine r_iload 99 dX11_soundsOf_97 rfl rfl ?_
    exact r_ret dX11_soundsOf_99 rfl k
  · subst e9
    refine r_aloadN 1 dX11_soundsOf_0 rfl rfl ?_
    refine r_getq 4 dX11_soundsOf_1 rfl fX11_44 (by decide) (sh_50 z _) rfl ?_
    refine r_iloadN 5 dX11_soundsOf_4 rfl rfl ?_
    refine r_iald (n := 14) 6 dX11_soundsOf_5 (s) rfl rfl (by decide) (sh_51 z _) (by decide) (by omega) (by omega) ?_
    rw [hkd]
    refine r_istore3 7 dX11_soundsOf_6 rfl rfl (by decide) ?_
    refine r_iloadN 8 dX11_soundsOf_7 rfl rfl ?_
    refine r_istore4 10 dX11_soundsOf_8 rfl rfl (by decide) ?_
    refine r_iloadN 11 dX11_soundsOf_10 rfl rfl ?_
    refine r_bipush 13 dX11_soundsOf_11 rfl (by decide) ?_
    refine r_icne 27 16 dX11_soundsOf_13 rfl (by decide) (by omega) (by omega) (fun h13 => ?_) (fun h13 => False.elim (by omega))
    refine r_iloadN 28 dX11_soundsOf_27 rfl rfl ?_
    refine r_iconst 29 dX11_soundsOf_28 rfl ?_
    refine r_iceq 38 32 dX11_soundsOf_29 rfl (by decide) (by omega) (by omega) (fun h29 => False.elim (by omega)) (fun h29 => ?_)
    refine r_iloadN 33 dX11_soundsOf_32 rfl rfl ?_
    refine r_bipush 35 dX11_soundsOf_33 rfl (by decide) ?_
    refine r_icne 44 38 dX11_soundsOf_35 rfl (by decide) (by omega) (by omega) (fun h35 => ?_) (fun h35 => False.elim (by omega))
    refine r_iloadN 45 dX11_soundsOf_44 rfl rfl ?_
    refine r_iconst 46 dX11_soundsOf_45 rfl ?_
    refine r_icne 55 49 dX11_soundsOf_46 rfl (by decide) (by omega) (by omega) (fun h46 => ?_) (fun h46 => False.elim (by omega))
    refine r_aloadN 56 dX11_soundsOf_55 rfl rfl ?_
    refine r_bipush 58 dX11_soundsOf_56 rfl (by decide) ?_
    refine r_cv1 61 dX11_soundsOf_58 rfl gX11_354 rfl (by decide) (sh_50 z _) rfl rfl (Nat.le_of_ble_eq_true rfl) (Nat.le_of_ble_eq_true rfl) rfl ?_
    refine m_body (n := n) h (by omega) ?_
    refine r_iload 63 dX11_soundsOf_61 rfl rfl ?_
    refine r_iloadN 64 dX11_soundsOf_63 rfl rfl ?_
    refine r_iadd 65 dX11_soundsOf_64 rfl ?_
    refine r_istore5 67 dX11_soundsOf_65 rfl rfl (by decide) ?_
    refine r_iloadN 68 dX11_soundsOf_67 rfl rfl ?_
    refine r_iconst 69 dX11_soundsOf_68 rfl ?_
    refine r_iceq 78 72 dX11_soundsOf_69 rfl (by decide) (by omega) (by omega) (fun h69 => False.elim (by omega)) (fun h69 => ?_)
    refine r_iloadN 73 dX11_soundsOf_72 rfl rfl ?_
    refine r_bipush 75 dX11_soundsOf_73 rfl (by decide) ?_
    refine r_icne 85 78 dX11_soundsOf_75 rfl (by decide) (by omega) (by omega) (fun h75 => ?_) (fun h75 => False.elim (by omega))
    refine r_iloadN 86 dX11_soundsOf_85 rfl rfl ?_
    refine r_iconst 87 dX11_soundsOf_86 rfl ?_
    refine r_icne 97 90 dX11_soundsOf_87 rfl (by decide) (by omega) (by omega) (fun h87 => ?_) (fun h87 => False.elim (by omega))
    refine r_iload 99 dX11_soundsOf_97 rfl rfl ?_
    exact r_ret dX11_soundsOf_99 rfl k
  · subst e9
    refine r_aloadN 1 dX11_soundsOf_0 rfl rfl ?_
    refine r_getq 4 dX11_soundsOf_1 rfl fX11_44 (by decide) (sh_50 z _) rfl ?_
    refine r_iloadN 5 dX11_soundsOf_4 rfl rfl ?_
    refine r_iald (n := 14) 6 dX11_soundsOf_5 (s) rfl rfl (by decide) (sh_51 z _) (by decide) (by omega) (by omega) ?_
    rw [hkd]
    refine r_istore3 7 dX11_soundsOf_6 rfl rfl (by decide) ?_
    refine r_iloadN 8 dX11_soundsOf_7 rfl rfl ?_
    refine r_istore4 10 dX11_soundsOf_8 rfl rfl (by decide) ?_
    refine r_iloadN 11 dX11_soundsOf_10 rfl rfl ?_
    refine r_bipush 13 dX11_soundsOf_11 rfl (by decide) ?_
    refine r_icne 27 16 dX11_soundsOf_13 rfl (by decide) (by omega) (by omega) (fun h13 => ?_) (fun h13 => False.elim (by omega))
    refine r_iloadN 28 dX11_soundsOf_27 rfl rfl ?_
    refine r_iconst 29 dX11_soundsOf_28 rfl ?_
    refine r_iceq 38 32 dX11_soundsOf_29 rfl (by decide) (by omega) (by omega) (fun h29 => False.elim (by omega)) (fun h29 => ?_)
    refine r_iloadN 33 dX11_soundsOf_32 rfl rfl ?_
    refine r_bipush 35 dX11_soundsOf_33 rfl (by decide) ?_
    refine r_icne 44 38 dX11_soundsOf_35 rfl (by decide) (by omega) (by omega) (fun h35 => ?_) (fun h35 => False.elim (by omega))
    refine r_iloadN 45 dX11_soundsOf_44 rfl rfl ?_
    refine r_iconst 46 dX11_soundsOf_45 rfl ?_
    refine r_icne 55 49 dX11_soundsOf_46 rfl (by decide) (by omega) (by omega) (fun h46 => ?_) (fun h46 => False.elim (by omega))
    refine r_aloadN 56 dX11_soundsOf_55 rfl rfl ?_
    refine r_bipush 58 dX11_soundsOf_56 rfl (by decide) ?_
    refine r_cv1 61 dX11_soundsOf_58 rfl gX11_354 rfl (by decide) (sh_50 z _) rfl rfl (Nat.le_of_ble_eq_true rfl) (Nat.le_of_ble_eq_true rfl) rfl ?_
    refine m_body (n := n) h (by omega) ?_
    refine r_iload 63 dX11_soundsOf_61 rfl rfl ?_
    refine r_iloadN 64 dX11_soundsOf_63 rfl rfl ?_
    refine r_iadd 65 dX11_soundsOf_64 rfl ?_
    refine r_istore5 67 dX11_soundsOf_65 rfl rfl (by decide) ?_
    refine r_iloadN 68 dX11_soundsOf_67 rfl rfl ?_
    refine r_iconst 69 dX11_soundsOf_68 rfl ?_
    refine r_iceq 78 72 dX11_soundsOf_69 rfl (by decide) (by omega) (by omega) (fun h69 => False.elim (by omega)) (fun h69 => ?_)
    refine r_iloadN 73 dX11_soundsOf_72 rfl rfl ?_
    refine r_bipush 75 dX11_soundsOf_73 rfl (by decide) ?_
    refine r_icne 85 78 dX11_soundsOf_75 rfl (by decide) (by omega) (by omega) (fun h75 => ?_) (fun h75 => False.elim (by omega))
    refine r_iloadN 86 dX11_soundsOf_85 rfl rfl ?_
    refine r_iconst 87 dX11_soundsOf_86 rfl ?_
    refine r_icne 97 90 dX11_soundsOf_87 rfl (by decide) (by omega) (by omega) (fun h87 => ?_) (fun h87 => False.elim (by omega))
    refine r_iload 99 dX11_soundsOf_97 rfl rfl ?_
    exact r_ret dX11_soundsOf_99 rfl k
  · subst e9
    refine r_aloadN 1 dX11_soundsOf_0 rfl rfl ?_
    refine r_getq 4 dX11_soundsOf_1 rfl fX11_44 (by decide) (sh_50 z _) rfl ?_
    refine r_iloadN 5 dX11_soundsOf_4 rfl rfl ?_
    refine r_iald (n := 14) 6 dX11_soundsOf_5 (s) rfl rfl (by decide) (sh_51 z _) (by decide) (by omega) (by omega) ?_
    rw [hkd]
    refine r_istore3 7 dX11_soundsOf_6 rfl rfl (by decide) ?_
    refine r_iloadN 8 dX11_soundsOf_7 rfl rfl ?_
    refine r_istore4 10 dX11_soundsOf_8 rfl rfl (by decide) ?_
    refine r_iloadN 11 dX11_soundsOf_10 rfl rfl ?_
    refine r_bipush 13 dX11_soundsOf_11 rfl (by decide) ?_
    refine r_icne 27 16 dX11_soundsOf_13 rfl (by decide) (by omega) (by omega) (fun h13 => ?_) (fun h13 => False.elim (by omega))
    refine r_iloadN 28 dX11_soundsOf_27 rfl rfl ?_
    refine r_iconst 29 dX11_soundsOf_28 rfl ?_
    refine r_iceq 38 32 dX11_soundsOf_29 rfl (by decide) (by omega) (by omega) (fun h29 => False.elim (by omega)) (fun h29 => ?_)
    refine r_iloadN 33 dX11_soundsOf_32 rfl rfl ?_
    refine r_bipush 35 dX11_soundsOf_33 rfl (by decide) ?_
    refine r_icne 44 38 dX11_soundsOf_35 rfl (by decide) (by omega) (by omega) (fun h35 => ?_) (fun h35 => False.elim (by omega))
    refine r_iloadN 45 dX11_soundsOf_44 rfl rfl ?_
    refine r_iconst 46 dX11_soundsOf_45 rfl ?_
    refine r_icne 55 49 dX11_soundsOf_46 rfl (by decide) (by omega) (by omega) (fun h46 => False.elim (by omega)) (fun h46 => ?_)
    refine r_aloadN 50 dX11_soundsOf_49 rfl rfl ?_
    refine r_bipush 52 dX11_soundsOf_50 rfl (by decide) ?_
    refine r_cv1 55 dX11_soundsOf_52 rfl gX11_354 rfl (by decide) (sh_50 z _) rfl rfl (Nat.le_of_ble_eq_true rfl) (Nat.le_of_ble_eq_true rfl) rfl ?_
    refine m_body (n := n) h (by omega) ?_
    refine r_aloadN 56 dX11_soundsOf_55 rfl rfl ?_
    refine r_bipush 58 dX11_soundsOf_56 rfl (by decide) ?_
    refine r_cv1 61 dX11_soundsOf_58 rfl gX11_354 rfl (by decide) (sh_50 z _) rfl rfl (Nat.le_of_ble_eq_true rfl) (Nat.le_of_ble_eq_true rfl) rfl ?_
    refine m_body (n := n + 1) (by show (n : Int) + 1 = _; omega) (by omega) ?_
    refine r_iload 63 dX11_soundsOf_61 rfl rfl ?_
    refine r_iloadN 64 dX11_soundsOf_63 rfl rfl ?_
    refine r_iadd 65 dX11_soundsOf_64 rfl ?_
    refine r_istore5 67 dX11_soundsOf_65 rfl rfl (by decide) ?_
    refine r_iloadN 68 dX11_soundsOf_67 rfl rfl ?_
    refine r_iconst 69 dX11_soundsOf_68 rfl ?_
    refine r_iceq 78 72 dX11_soundsOf_69 rfl (by decide) (by omega) (by omega) (fun h69 => False.elim (by omega)) (fun h69 => ?_)
    refine r_iloadN 73 dX11_soundsOf_72 rfl rfl ?_
    refine r_bipush 75 dX11_soundsOf_73 rfl (by decide) ?_
    refine r_icne 85 78 dX11_soundsOf_75 rfl (by decide) (by omega) (by omega) (fun h75 => ?_) (fun h75 => False.elim (by omega))
    refine r_iloadN 86 dX11_soundsOf_85 rfl rfl ?_
    refine r_iconst 87 dX11_soundsOf_86 rfl ?_
    refine r_icne 97 90 dX11_soundsOf_87 rfl (by decide) (by omega) (by omega) (fun h87 => False.elim (by omega)) (fun h87 => ?_)
    refine r_iload 92 dX11_soundsOf_90 rfl rfl ?_
    refine r_iconst 93 dX11_soundsOf_92 rfl ?_
    refine r_ixor 94 dX11_soundsOf_93 rfl ?_
    refine r_goto 99 dX11_soundsOf_94 (by decide) ?_
    exact r_ret dX11_soundsOf_99 rfl k
  · subst e9
    refine r_aloadN 1 dX11_soundsOf_0 rfl rfl ?_
    refine r_getq 4 dX11_soundsOf_1 rfl fX11_44 (by decide) (sh_50 z _) rfl ?_
    refine r_iloadN 5 dX11_soundsOf_4 rfl rfl ?_
    refine r_iald (n := 14) 6 dX11_soundsOf_5 (s) rfl rfl (by decide) (sh_51 z _) (by decide) (by omega) (by omega) ?_
    rw [hkd]
    refine r_istore3 7 dX11_soundsOf_6 rfl rfl (by decide) ?_
    refine r_iloadN 8 dX11_soundsOf_7 rfl rfl ?_
    refine r_istore4 10 dX11_soundsOf_8 rfl rfl (by decide) ?_
    refine r_iloadN 11 dX11_soundsOf_10 rfl rfl ?_
    refine r_bipush 13 dX11_soundsOf_11 rfl (by decide) ?_
    refine r_icne 27 16 dX11_soundsOf_13 rfl (by decide) (by omega) (by omega) (fun h13 => ?_) (fun h13 => False.elim (by omega))
    refine r_iloadN 28 dX11_soundsOf_27 rfl rfl ?_
    refine r_iconst 29 dX11_soundsOf_28 rfl ?_
    refine r_iceq 38 32 dX11_soundsOf_29 rfl (by decide) (by omega) (by omega) (fun h29 => False.elim (by omega)) (fun h29 => ?_)
    refine r_iloadN 33 dX11_soundsOf_32 rfl rfl ?_
    refine r_bipush 35 dX11_soundsOf_33 rfl (by decide) ?_
    refine r_icne 44 38 dX11_soundsOf_35 rfl (by decide) (by omega) (by omega) (fun h35 => ?_) (fun h35 => False.elim (by omega))
    refine r_iloadN 45 dX11_soundsOf_44 rfl rfl ?_
    refine r_iconst 46 dX11_soundsOf_45 rfl ?_
    refine r_icne 55 49 dX11_soundsOf_46 rfl (by decide) (by omega) (by omega) (fun h46 => ?_) (fun h46 => False.elim (by omega))
    refine r_aloadN 56 dX11_soundsOf_55 rfl rfl ?_
    refine r_bipush 58 dX11_soundsOf_56 rfl (by decide) ?_
    refine r_cv1 61 dX11_soundsOf_58 rfl gX11_354 rfl (by decide) (sh_50 z _) rfl rfl (Nat.le_of_ble_eq_true rfl) (Nat.le_of_ble_eq_true rfl) rfl ?_
    refine m_body (n := n) h (by omega) ?_
    refine r_iload 63 dX11_soundsOf_61 rfl rfl ?_
    refine r_iloadN 64 dX11_soundsOf_63 rfl rfl ?_
    refine r_iadd 65 dX11_soundsOf_64 rfl ?_
    refine r_istore5 67 dX11_soundsOf_65 rfl rfl (by decide) ?_
    refine r_iloadN 68 dX11_soundsOf_67 rfl rfl ?_
    refine r_iconst 69 dX11_soundsOf_68 rfl ?_
    refine r_iceq 78 72 dX11_soundsOf_69 rfl (by decide) (by omega) (by omega) (fun h69 => False.elim (by omega)) (fun h69 => ?_)
    refine r_iloadN 73 dX11_soundsOf_72 rfl rfl ?_
    refine r_bipush 75 dX11_soundsOf_73 rfl (by decide) ?_
    refine r_icne 85 78 dX11_soundsOf_75 rfl (by decide) (by omega) (by omega) (fun h75 => ?_) (fun h75 => False.elim (by omega))
    refine r_iloadN 86 dX11_soundsOf_85 rfl rfl ?_
    refine r_iconst 87 dX11_soundsOf_86 rfl ?_
    refine r_icne 97 90 dX11_soundsOf_87 rfl (by decide) (by omega) (by omega) (fun h87 => ?_) (fun h87 => False.elim (by omega))
    refine r_iload 99 dX11_soundsOf_97 rfl rfl ?_
    exact r_ret dX11_soundsOf_99 rfl k
  · subst e9
    refine r_aloadN 1 dX11_soundsOf_0 rfl rfl ?_
    refine r_getq 4 dX11_soundsOf_1 rfl fX11_44 (by decide) (sh_50 z _) rfl ?_
    refine r_iloadN 5 dX11_soundsOf_4 rfl rfl ?_
    refine r_iald (n := 14) 6 dX11_soundsOf_5 (s) rfl rfl (by decide) (sh_51 z _) (by decide) (by omega) (by omega) ?_
    rw [hkd]
    refine r_istore3 7 dX11_soundsOf_6 rfl rfl (by decide) ?_
    refine r_iloadN 8 dX11_soundsOf_7 rfl rfl ?_
    refine r_istore4 10 dX11_soundsOf_8 rfl rfl (by decide) ?_
    refine r_iloadN 11 dX11_soundsOf_10 rfl rfl ?_
    refine r_bipush 13 dX11_soundsOf_11 rfl (by decide) ?_
    refine r_icne 27 16 dX11_soundsOf_13 rfl (by decide) (by omega) (by omega) (fun h13 => False.elim (by omega)) (fun h13 => ?_)
    refine r_aloadN 17 dX11_soundsOf_16 rfl rfl ?_
    refine r_bipush 19 dX11_soundsOf_17 rfl (by decide) ?_
    refine r_cv1 22 dX11_soundsOf_19 rfl gX11_354 rfl (by decide) (sh_50 z _) rfl rfl (Nat.le_of_ble_eq_true rfl) (Nat.le_of_ble_eq_true rfl) rfl ?_
    refine m_body (n := n) h (by omega) ?_
    refine r_iloadN 23 dX11_soundsOf_22 rfl rfl ?_
    refine r_iconst 24 dX11_soundsOf_23 rfl ?_
    refine r_isub 25 dX11_soundsOf_24 rfl ?_
    refine r_istore4 27 dX11_soundsOf_25 rfl rfl (by decide) ?_
    refine r_iloadN 28 dX11_soundsOf_27 rfl rfl ?_
    refine r_iconst 29 dX11_soundsOf_28 rfl ?_
    refine r_iceq 38 32 dX11_soundsOf_29 rfl (by decide) (by omega) (by omega) (fun h29 => False.elim (by omega)) (fun h29 => ?_)
    refine r_iloadN 33 dX11_soundsOf_32 rfl rfl ?_
    refine r_bipush 35 dX11_soundsOf_33 rfl (by decide) ?_
    refine r_icne 44 38 dX11_soundsOf_35 rfl (by decide) (by omega) (by omega) (fun h35 => False.elim (by omega)) (fun h35 => ?_)
    refine r_aloadN 39 dX11_soundsOf_38 rfl rfl ?_
    refine r_bipush 41 dX11_soundsOf_39 rfl (by decide) ?_
    refine r_cv1 44 dX11_soundsOf_41 rfl gX11_354 rfl (by decide) (sh_50 z _) rfl rfl (Nat.le_of_ble_eq_true rfl) (Nat.le_of_ble_eq_true rfl) rfl ?_
    refine m_body (n := n + 1) (by show (n : Int) + 1 = _; omega) (by omega) ?_
    refine r_iloadN 45 dX11_soundsOf_44 rfl rfl ?_
    refine r_iconst 46 dX11_soundsOf_45 rfl ?_
    refine r_icne 55 49 dX11_soundsOf_46 rfl (by decide) (by omega) (by omega) (fun h46 => ?_) (fun h46 => False.elim (by omega))
    refine r_aloadN 56 dX11_soundsOf_55 rfl rfl ?_
    refine r_bipush 58 dX11_soundsOf_56 rfl (by decide) ?_
    refine r_cv1 61 dX11_soundsOf_58 rfl gX11_354 rfl (by decide) (sh_50 z _) rfl rfl (Nat.le_of_ble_eq_true rfl) (Nat.le_of_ble_eq_true rfl) rfl ?_
    refine m_body (n := n + 2) (by show (n : Int) + 1 + 1 = _; omega) (by omega) ?_
    refine r_iload 63 dX11_soundsOf_61 rfl rfl ?_
    refine r_iloadN 64 dX11_soundsOf_63 rfl rfl ?_
    refine r_iadd 65 dX11_soundsOf_64 rfl ?_
    refine r_istore5 67 dX11_soundsOf_65 rfl rfl (by decide) ?_
    refine r_iloadN 68 dX11_soundsOf_67 rfl rfl ?_
    refine r_iconst 69 dX11_soundsOf_68 rfl ?_
    refine r_iceq 78 72 dX11_soundsOf_69 rfl (by decide) (by omega) (by omega) (fun h69 => False.elim (by omega)) (fun h69 => ?_)
    refine r_iloadN 73 dX11_soundsOf_72 rfl rfl ?_
    refine r_bipush 75 dX11_soundsOf_73 rfl (by decide) ?_
    refine r_icne 85 78 dX11_soundsOf_75 rfl (by decide) (by omega) (by omega) (fun h75 => False.elim (by omega)) (fun h75 => ?_)
    refine r_iload 80 dX11_soundsOf_78 rfl rfl ?_
    refine r_iconst 81 dX11_soundsOf_80 rfl ?_
    refine r_imul 82 dX11_soundsOf_81 rfl ?_
    refine r_goto 99 dX11_soundsOf_82 (by decide) ?_
    exact r_ret dX11_soundsOf_99 rfl k
theorem m_reachesOf {z : xZ} {d : Nat} {Q : tQ} {c : tC} {L : tL} {n s : Nat} {kd t x : Int} (h : c 50 0 66 = (n : Int)) (hn : n + 5 ≤ 20) (hkd : c 51 19 s = kd) (hk : 1 ≤ kd ∧ kd ≤ 7) (hs : s < 14) (ht : c 51 21 s = t) (k : Q (some (.int (iI (rV kd (s : Int) t x)))) (mBs c n (rL kd)) L) : En z (d + 3) MX11_reachesOf Q 0 [some (.ref (xad z 50 0)), some (.int (iI (s : Int))), some (.int (iI x)), none, none, none] [] c L := by
  rcases (show kd = 1 ∨ kd = 2 ∨ kd = 3 ∨ kd = 4 ∨ kd = 5 ∨ kd = 6 ∨ kd = 7 by omega) with e9 | e9 | e9 | e9 | e9 | e9 | e9
  · subst e9
    refine r_aloadN 1 dX11_reachesOf_0 rfl rfl ?_
    refine r_getq 4 dX11_reachesOf_1 rfl fX11_44 (by decide) (sh_50 z _) rfl ?_
    refine r_iloadN 5 dX11_reachesOf_4 rfl rfl ?_
    refine r_iald (n := 14) 6 dX11_reachesOf_5 (s) rfl rfl (by decide) (sh_51 z _) (by decide) (by omega) (by omega) ?_
    rw [hkd]
    refine r_istore3 7 dX11_reachesOf_6 rfl rfl (by decide) ?_
    refine r_iloadN 8 dX11_reachesOf_7 rfl rfl ?_
    refine r_istore4 10 dX11_reachesOf_8 rfl rfl (by decide) ?_
    refine r_iloadN 11 dX11_reachesOf_10 rfl rfl ?_
    refine r_iconst 12 dX11_reachesOf_11 rfl ?_
    refine r_icne 21 15 dX11_reachesOf_12 rfl (by decide) (by omega) (by omega) (fun h12 => ?_) (fun h12 => False.elim (by omega))
    refine r_iloadN 22 dX11_reachesOf_21 rfl rfl ?_
    refine r_iconst 23 dX11_reachesOf_22 rfl ?_
    refine r_icne 37 26 dX11_reachesOf_23 rfl (by decide) (by omega) (by omega) (fun h23 => ?_) (fun h23 => False.elim (by omega))
    refine r_iloadN 38 dX11_reachesOf_37 rfl rfl ?_
    refine r_bipush 40 dX11_reachesOf_38 rfl (by decide) ?_
    refine r_icne 49 43 dX11_reachesOf_40 rfl (by decide) (by omega) (by omega) (fun h40 => ?_) (fun h40 => False.elim (by omega))
    refine r_aloadN 50 dX11_reachesOf_49 rfl rfl ?_
    refine r_bipush 52 dX11_reachesOf_50 rfl (by decide) ?_
    refine r_cv1 55 dX11_reachesOf_52 rfl gX11_354 rfl (by decide) (sh_50 z _) rfl rfl (Nat.le_of_ble_eq_true rfl) (Nat.le_of_ble_eq_true rfl) rfl ?_
    refine m_body (n := n) h (by omega) ?_
    refine r_aloadN 56 dX11_reachesOf_55 rfl rfl ?_
    refine r_iloadN 57 dX11_reachesOf_56 rfl rfl ?_
    refine r_iload 59 dX11_reachesOf_57 rfl rfl ?_
    refine r_cv2 62 dX11_reachesOf_59 rfl gX11_358 rfl (by decide) (sh_50 z _) rfl rfl (Nat.le_of_ble_eq_true rfl) (Nat.le_of_ble_eq_true rfl) rfl ?_
    refine m_soundsOf (n := n + 1) (by show (n : Int) + 1 = _; omega) (by omega) hkd (by omega) hs ?_
    refine r_iconst 63 dX11_reachesOf_62 rfl ?_
    refine r_imul 64 dX11_reachesOf_63 rfl ?_
    refine r_istore5 66 dX11_reachesOf_64 rfl rfl (by decide) ?_
    refine r_iloadN 67 dX11_reachesOf_66 rfl rfl ?_
    refine r_iconst 68 dX11_reachesOf_67 rfl ?_
    refine r_icne 83 71 dX11_reachesOf_68 rfl (by decide) (by omega) (by omega) (fun h68 => ?_) (fun h68 => False.elim (by omega))
    refine r_iloadN 84 dX11_reachesOf_83 rfl rfl ?_
    refine r_bipush 86 dX11_reachesOf_84 rfl (by decide) ?_
    refine r_icne 97 89 dX11_reachesOf_86 rfl (by decide) (by omega) (by omega) (fun h86 => ?_) (fun h86 => False.elim (by omega))
    refine r_iload 99 dX11_reachesOf_97 rfl rfl ?_
    exact r_ret dX11_reachesOf_99 rfl k
  · subst e9
    refine r_aloadN 1 dX11_reachesOf_0 rfl rfl ?_
    refine r_getq 4 dX11_reachesOf_1 rfl fX11_44 (by decide) (sh_50 z _) rfl ?_
    refine r_iloadN 5 dX11_reachesOf_4 rfl rfl ?_
    refine r_iald (n := 14) 6 dX11_reachesOf_5 (s) rfl rfl (by decide) (sh_51 z _) (by decide) (by omega) (by omega) ?_
    rw [hkd]
    refine r_istore3 7 dX11_reachesOf_6 rfl rfl (by decide) ?_
    refine r_iloadN 8 dX11_reachesOf_7 rfl rfl ?_
    refine r_istore4 10 dX11_reachesOf_8 rfl rfl (by decide) ?_
    refine r_iloadN 11 dX11_reachesOf_10 rfl rfl ?_
    refine r_iconst 12 dX11_reachesOf_11 rfl ?_
    refine r_icne 21 15 dX11_reachesOf_12 rfl (by decide) (by omega) (by omega) (fun h12 => False.elim (by omega)) (fun h12 => ?_)
    refine r_aloadN 16 dX11_reachesOf_15 rfl rfl ?_
    refine r_bipush 18 dX11_reachesOf_16 rfl (by decide) ?_
    refine r_cv1 21 dX11_reachesOf_18 rfl gX11_354 rfl (by decide) (sh_50 z _) rfl rfl (Nat.le_of_ble_eq_true rfl) (Nat.le_of_ble_eq_true rfl) rfl ?_
    refine m_body (n := n) h (by omega) ?_
    refine r_iloadN 22 dX11_reachesOf_21 rfl rfl ?_
    refine r_iconst 23 dX11_reachesOf_22 rfl ?_
    refine r_icne 37 26 dX11_reachesOf_23 rfl (by decide) (by omega) (by omega) (fun h23 => ?_) (fun h23 => False.elim (by omega))
    refine r_iloadN 38 dX11_reachesOf_37 rfl rfl ?_
    refine r_bipush 40 dX11_reachesOf_38 rfl (by decide) ?_
    refine r_icne 49 43 dX11_reachesOf_40 rfl (by decide) (by omega) (by omega) (fun h40 => ?_) (fun h40 => False.elim (by omega))
    refine r_aloadN 50 dX11_reachesOf_49 rfl rfl ?_
    refine r_bipush 52 dX11_reachesOf_50 rfl (by decide) ?_
    refine r_cv1 55 dX11_reachesOf_52 rfl gX11_354 rfl (by decide) (sh_50 z _) rfl rfl (Nat.le_of_ble_eq_true rfl) (Nat.le_of_ble_eq_true rfl) rfl ?_
    refine m_body (n := n + 1) (by show (n : Int) + 1 = _; omega) (by omega) ?_
    refine r_aloadN 56 dX11_reachesOf_55 rfl rfl ?_
    refine r_iloadN 57 dX11_reachesOf_56 rfl rfl ?_
    refine r_iload 59 dX11_reachesOf_57 rfl rfl ?_
    refine r_cv2 62 dX11_reachesOf_59 rfl gX11_358 rfl (by decide) (sh_50 z _) rfl rfl (Nat.le_of_ble_eq_true rfl) (Nat.le_of_ble_eq_true rfl) rfl ?_
    refine m_soundsOf (n := n + 2) (by show (n : Int) + 1 + 1 = _; omega) (by omega) hkd (by omega) hs ?_
    refine r_iconst 63 dX11_reachesOf_62 rfl ?_
    refine r_imul 64 dX11_reachesOf_63 rfl ?_
    refine r_istore5 66 dX11_reachesOf_64 rfl rfl (by decide) ?_
    refine r_iloadN 67 dX11_reachesOf_66 rfl rfl ?_
    refine r_iconst 68 dX11_reachesOf_67 rfl ?_
    refine r_icne 83 71 dX11_reachesOf_68 rfl (by decide) (by omega) (by omega) (fun h68 => False.elim (by omega)) (fun h68 => ?_)
    refine r_iload 73 dX11_reachesOf_71 rfl rfl ?_
    refine r_aloadN 74 dX11_reachesOf_73 rfl rfl ?_
    refine r_getq 77 dX11_reachesOf_74 rfl fX11_50 (by decide) (sh_50 z _) rfl ?_
    refine r_iloadN 78 dX11_reachesOf_77 rfl rfl ?_
    refine r_iald (n := 14) 79 dX11_reachesOf_78 (s) rfl rfl (by decide) (sh_51 z _) (by decide) (by omega) (by omega) ?_
    rw [mBs_at (by decide)]
    (try simp only [cu_ap, Nat.reduceEqDiff, false_and, and_false, if_false, reduceIte])
    rw [ht]
    refine r_iadd 80 dX11_reachesOf_79 rfl ?_
    refine r_goto 99 dX11_reachesOf_80 (by decide) ?_
    exact r_ret dX11_reachesOf_99 rfl k
  · subst e9
    refine r_aloadN 1 dX11_reachesOf_0 rfl rfl ?_
    refine r_getq 4 dX11_reachesOf_1 rfl fX11_44 (by decide) (sh_50 z _) rfl ?_
    refine r_iloadN 5 dX11_reachesOf_4 rfl rfl ?_
    refine r_iald (n := 14) 6 dX11_reachesOf_5 (s) rfl rfl (by decide) (sh_51 z _) (by decide) (by omega) (by omega) ?_
    rw [hkd]
    refine r_istore3 7 dX11_reachesOf_6 rfl rfl (by decide) ?_
    refine r_iloadN 8 dX11_reachesOf_7 rfl rfl ?_
    refine r_istore4 10 dX11_reachesOf_8 rfl rfl (by decide) ?_
    refine r_iloadN 11 dX11_reachesOf_10 rfl rfl ?_
    refine r_iconst 12 dX11_reachesOf_11 rfl ?_
    refine r_icne 21 15 dX11_reachesOf_12 rfl (by decide) (by omega) (by omega) (fun h12 => ?_) (fun h12 => False.elim (by omega))
    refine r_iloadN 22 dX11_reachesOf_21 rfl rfl ?_
    refine r_iconst 23 dX11_reachesOf_22 rfl ?_
    refine r_icne 37 26 dX11_reachesOf_23 rfl (by decide) (by omega) (by omega) (fun h23 => False.elim (by omega)) (fun h23 => ?_)
    refine r_aloadN 27 dX11_reachesOf_26 rfl rfl ?_
    refine r_bipush 29 dX11_reachesOf_27 rfl (by decide) ?_
    refine r_cv1 32 dX11_reachesOf_29 rfl gX11_354 rfl (by decide) (sh_50 z _) rfl rfl (Nat.le_of_ble_eq_true rfl) (Nat.le_of_ble_eq_true rfl) rfl ?_
    refine m_body (n := n) h (by omega) ?_
    refine r_iloadN 33 dX11_reachesOf_32 rfl rfl ?_
    refine r_iconst 34 dX11_reachesOf_33 rfl ?_
    refine r_iadd 35 dX11_reachesOf_34 rfl ?_
    refine r_istore4 37 dX11_reachesOf_35 rfl rfl (by decide) ?_
    refine r_iloadN 38 dX11_reachesOf_37 rfl rfl ?_
    refine r_bipush 40 dX11_reachesOf_38 rfl (by decide) ?_
    refine r_icne 49 43 dX11_reachesOf_40 rfl (by decide) (by omega) (by omega) (fun h40 => ?_) (fun h40 => False.elim (by omega))
    refine r_aloadN 50 dX11_reachesOf_49 rfl rfl ?_
    refine r_bipush 52 dX11_reachesOf_50 rfl (by decide) ?_
    refine r_cv1 55 dX11_reachesOf_52 rfl gX11_354 rfl (by decide) (sh_50 z _) rfl rfl (Nat.le_of_ble_eq_true rfl) (Nat.le_of_ble_eq_true rfl) rfl ?_
    refine m_body (n := n + 1) (by show (n : Int) + 1 = _; omega) (by omega) ?_
    refine r_aloadN 56 dX11_reachesOf_55 rfl rfl ?_
    refine r_iloadN 57 dX11_reachesOf_56 rfl rfl ?_
    refine r_iload 59 dX11_reachesOf_57 rfl rfl ?_
    refine r_cv2 62 dX11_reachesOf_59 rfl gX11_358 rfl (by decide) (sh_50 z _) rfl rfl (Nat.le_of_ble_eq_true rfl) (Nat.le_of_ble_eq_true rfl) rfl ?_
    refine m_soundsOf (n := n + 2) (by show (n : Int) + 1 + 1 = _; omega) (by omega) hkd (by omega) hs ?_
    refine r_iconst 63 dX11_reachesOf_62 rfl ?_
    refine r_imul 64 dX11_reachesOf_63 rfl ?_
    refine r_istore5 66 dX11_reachesOf_64 rfl rfl (by decide) ?_
    refine r_iloadN 67 dX11_reachesOf_66 rfl rfl ?_
    refine r_iconst 68 dX11_reachesOf_67 rfl ?_
    refine r_icne 83 71 dX11_reachesOf_68 rfl (by decide) (by omega) (by omega) (fun h68 => ?_) (fun h68 => False.elim (by omega))
    refine r_iloadN 84 dX11_reachesOf_83 rfl rfl ?_
    refine r_bipush 86 dX11_reachesOf_84 rfl (by decide) ?_
    refine r_icne 97 89 dX11_reachesOf_86 rfl (by decide) (by omega) (by omega) (fun h86 => ?_) (fun h86 => False.elim (by omega))
    refine r_iload 99 dX11_reachesOf_97 rfl rfl ?_
    exact r_ret dX11_reachesOf_99 rfl k
  · subst e9
    refine r_aloadN 1 dX11_reachesOf_0 rfl rfl ?_
    refine r_getq 4 dX11_reachesOf_1 rfl fX11_44 (by decide) (sh_50 z _) rfl ?_
    refine r_iloadN 5 dX11_reachesOf_4 rfl rfl ?_
    refine r_iald (n := 14) 6 dX11_reachesOf_5 (s) rfl rfl (by decide) (sh_51 z _) (by decide) (by omega) (by omega) ?_
    rw [hkd]
    refine r_istore3 7 dX11_reachesOf_6 rfl rfl (by decide) ?_
    refine r_iloadN 8 dX11_reachesOf_7 rfl rfl ?_
    refine r_istore4 10 dX11_reachesOf_8 rfl rfl (by decide) ?_
    refine r_iloadN 11 dX11_reachesOf_10 rfl rfl ?_
    refine r_iconst 12 dX11_reachesOf_11 rfl ?_
    refine r_icne 21 15 dX11_reachesOf_12 rfl (by decide) (by omega) (by omega) (fun h12 => ?_) (fun h12 => False.elim (by omega))
    refine r_iloadN 22 dX11_reachesOf_21 rfl rfl ?_
    refine r_iconst 23 dX11_reachesOf_22 rfl ?_
    refine r_icne 37 26 dX11_reachesOf_23 rfl (by decide) (by omega) (by omega) (fun h23 => ?_) (fun h23 => False.elim (by omega))
    refine r_iloadN 38 dX11_reachesOf_37 rfl rfl ?_
    refine r_bipush 40 dX11_reachesOf_38 rfl (by decide) ?_
    refine r_icne 49 43 dX11_reachesOf_40 rfl (by decide) (by omega) (by omega) (fun h40 => ?_) (fun h40 => False.elim (by omega))
    refine r_aloadN 50 dX11_reachesOf_49 rfl rfl ?_
    refine r_bipush 52 dX11_reachesOf_50 rfl (by decide) ?_
    refine r_cv1 55 dX11_reachesOf_52 rfl gX11_354 rfl (by decide) (sh_50 z _) rfl rfl (Nat.le_of_ble_eq_true rfl) (Nat.le_of_ble_eq_true rfl) rfl ?_
    refine m_body (n := n) h (by omega) ?_
    refine r_aloadN 56 dX11_reachesOf_55 rfl rfl ?_
    refine r_iloadN 57 dX11_reachesOf_56 rfl rfl ?_
    refine r_iload 59 dX11_reachesOf_57 rfl rfl ?_
    refine r_cv2 62 dX11_reachesOf_59 rfl gX11_358 rfl (by decide) (sh_50 z _) rfl rfl (Nat.le_of_ble_eq_true rfl) (Nat.le_of_ble_eq_true rfl) rfl ?_
    refine m_soundsOf (n := n + 1) (by show (n : Int) + 1 = _; omega) (by omega) hkd (by omega) hs ?_
    refine r_iconst 63 dX11_reachesOf_62 rfl ?_
    refine r_imul 64 dX11_reachesOf_63 rfl ?_
    refine r_istore5 66 dX11_reachesOf_64 rfl rfl (by decide) ?_
    refine r_iloadN 67 dX11_reachesOf_66 rfl rfl ?_
    refine r_iconst 68 dX11_reachesOf_67 rfl ?_
    refine r_icne 83 71 dX11_reachesOf_68 rfl (by decide) (by omega) (by omega) (fun h68 => ?_) (fun h68 => False.elim (by omega))
    refine r_iloadN 84 dX11_reachesOf_83 rfl rfl ?_
    refine r_bipush 86 dX11_reachesOf_84 rfl (by decide) ?_
    refine r_icne 97 89 dX11_reachesOf_86 rfl (by decide) (by omega) (by omega) (fun h86 => ?_) (fun h86 => False.elim (by omega))
    refine r_iload 99 dX11_reachesOf_97 rfl rfl ?_
    exact r_ret dX11_reachesOf_99 rfl k
  · subst e9
    refine r_aloadN 1 dX11_reachesOf_0 rfl rfl ?_
    refine r_getq 4 dX11_reachesOf_1 rfl fX11_44 (by decide) (sh_50 z _) rfl ?_
    refine r_iloadN 5 dX11_reachesOf_4 rfl rfl ?_
    refine r_iald (n := 14) 6 dX11_reachesOf_5 (s) rfl rfl (by decide) (sh_51 z _) (by decide) (by omega) (by omega) ?_
    rw [hkd]
    refine r_istore3 7 dX11_reachesOf_6 rfl rfl (by decide) ?_
    refine r_iloadN 8 dX11_reachesOf_7 rfl rfl ?_
    refine r_istore4 10 dX11_reachesOf_8 rfl rfl (by decide) ?_
    refine r_iloadN 11 dX11_reachesOf_10 rfl rfl ?_
    refine r_iconst 12 dX11_reachesOf_11 rfl ?_
    refine r_icne 21 15 dX11_reachesOf_12 rfl (by decide) (by omega) (by omega) (fun h12 => ?_) (fun h12 => False.elim (by omega))
    refine r_iloadN 22 dX11_reachesOf_21 rfl rfl ?_
    refine r_iconst 23 dX11_reachesOf_22 rfl ?_
    refine r_icne 37 26 dX11_reachesOf_23 rfl (by decide) (by omega) (by omega) (fun h23 => ?_) (fun h23 => False.elim (by omega))
    refine r_iloadN 38 dX11_reachesOf_37 rfl rfl ?_
    refine r_bipush 40 dX11_reachesOf_38 rfl (by decide) ?_
    refine r_icne 49 43 dX11_reachesOf_40 rfl (by decide) (by omega) (by omega) (fun h40 => ?_) (fun h40 => False.elim (by omega))
    refine r_aloadN 50 dX11_reachesOf_49 rfl rfl ?_
    refine r_bipush 52 dX11_reachesOf_50 rfl (by decide) ?_
    refine r_cv1 55 dX11_reachesOf_52 rfl gX11_354 rfl (by decide) (sh_50 z _) rfl rfl (Nat.le_of_ble_eq_true rfl) (Nat.le_of_ble_eq_true rfl) rfl ?_
    refine m_body (n := n) h (by omega) ?_
    refine r_aloadN 56 dX11_reachesOf_55 rfl rfl ?_
    refine r_iloadN 57 dX11_reachesOf_56 rfl rfl ?_
    refine r_iload 59 dX11_reachesOf_57 rfl rfl ?_
    refine r_cv2 62 dX11_reachesOf_59 rfl gX11_358 rfl (by decide) (sh_50 z _) rfl rfl (Nat.le_of_ble_eq_true rfl) (Nat.le_of_ble_eq_true rfl) rfl ?_
    refine m_soundsOf (n := n + 1) (by show (n : Int) + 1 = _; omega) (by omega) hkd (by omega) hs ?_
    refine r_iconst 63 dX11_reachesOf_62 rfl ?_
    refine r_imul 64 dX11_reachesOf_63 rfl ?_
    refine r_istore5 66 dX11_reachesOf_64 rfl rfl (by decide) ?_
    refine r_iloadN 67 dX11_reachesOf_66 rfl rfl ?_
    refine r_iconst 68 dX11_reachesOf_67 rfl ?_
    refine r_icne 83 71 dX11_reachesOf_68 rfl (by decide) (by omega) (by omega) (fun h68 => ?_) (fun h68 => False.elim (by omega))
    refine r_iloadN 84 dX11_reachesOf_83 rfl rfl ?_
    refine r_bipush 86 dX11_reachesOf_84 rfl (by decide) ?_
    refine r_icne 97 89 dX11_reachesOf_86 rfl (by decide) (by omega) (by omega) (fun h86 => ?_) (fun h86 => False.elim (by omega))
    refine r_iload 99 dX11_reachesOf_97 rfl rfl ?_
    exact r_ret dX11_reachesOf_99 rfl k
  · subst e9
    refine r_aloadN 1 dX11_reachesOf_0 rfl rfl ?_
    refine r_getq 4 dX11_reachesOf_1 rfl fX11_44 (by decide) (sh_50 z _) rfl ?_
    refine r_iloadN 5 dX11_reachesOf_4 rfl rfl ?_
    refine r_iald (n := 14) 6 dX11_reachesOf_5 (s) rfl rfl (by decide) (sh_51 z _) (by decide) (by omega) (by omega) ?_
    rw [hkd]
    refine r_istore3 7 dX11_reachesOf_6 rfl rfl (by decide) ?_
    refine r_iloadN 8 dX11_reachesOf_7 rfl rfl ?_
    refine r_istore4 10 dX11_reachesOf_8 rfl rfl (by decide) ?_
    refine r_iloadN 11 dX11_reachesOf_10 rfl rfl ?_
    refine r_iconst 12 dX11_reachesOf_11 rfl ?_
    refine r_icne 21 15 dX11_reachesOf_12 rfl (by decide) (by omega) (by omega) (fun h12 => ?_) (fun h12 => False.elim (by omega))
    refine r_iloadN 22 dX11_reachesOf_21 rfl rfl ?_
    refine r_iconst 23 dX11_reachesOf_22 rfl ?_
    refine r_icne 37 26 dX11_reachesOf_23 rfl (by decide) (by omega) (by omega) (fun h23 => ?_) (fun h23 => False.elim (by omega))
    refine r_iloadN 38 dX11_reachesOf_37 rfl rfl ?_
    refine r_bipush 40 dX11_reachesOf_38 rfl (by decide) ?_
    refine r_icne 49 43 dX11_reachesOf_40 rfl (by decide) (by omega) (by omega) (fun h40 => ?_) (fun h40 => False.elim (by omega))
    refine r_aloadN 50 dX11_reachesOf_49 rfl rfl ?_
    refine r_bipush 52 dX11_reachesOf_50 rfl (by decide) ?_
    refine r_cv1 55 dX11_reachesOf_52 rfl gX11_354 rfl (by decide) (sh_50 z _) rfl rfl (Nat.le_of_ble_eq_true rfl) (Nat.le_of_ble_eq_true rfl) rfl ?_
    refine m_body (n := n) h (by omega) ?_
    refine r_aloadN 56 dX11_reachesOf_55 rfl rfl ?_
    refine r_iloadN 57 dX11_reachesOf_56 rfl rfl ?_
    refine r_iload 59 dX11_reachesOf_57 rfl rfl ?_
    refine r_cv2 62 dX11_reachesOf_59 rfl gX11_358 rfl (by decide) (sh_50 z _) rfl rfl (Nat.le_of_ble_eq_true rfl) (Nat.le_of_ble_eq_true rfl) rfl ?_
    refine m_soundsOf (n := n + 1) (by show (n : Int) + 1 = _; omega) (by omega) hkd (by omega) hs ?_
    refine r_iconst 63 dX11_reachesOf_62 rfl ?_
    refine r_imul 64 dX11_reachesOf_63 rfl ?_
    refine r_istore5 66 dX11_reachesOf_64 rfl rfl (by decide) ?_
    refine r_iloadN 67 dX11_reachesOf_66 rfl rfl ?_
    refine r_iconst 68 dX11_reachesOf_67 rfl ?_
    refine r_icne 83 71 dX11_reachesOf_68 rfl (by decide) (by omega) (by omega) (fun h68 => ?_) (fun h68 => False.elim (by omega))
    refine r_iloadN 84 dX11_reachesOf_83 rfl rfl ?_
    refine r_bipush 86 dX11_reachesOf_84 rfl (by decide) ?_
    refine r_icne 97 89 dX11_reachesOf_86 rfl (by decide) (by omega) (by omega) (fun h86 => ?_) (fun h86 => False.elim (by omega))
    refine r_iload 99 dX11_reachesOf_97 rfl rfl ?_
    exact r_ret dX11_reachesOf_99 rfl k
  · subst e9
    refine r_aloadN 1 dX11_reachesOf_0 rfl rfl ?_
    refine r_getq 4 dX11_reachesOf_1 rfl fX11_44 (by decide) (sh_50 z _) rfl ?_
    refine r_iloadN 5 dX11_reachesOf_4 rfl rfl ?_
    refine r_iald (n := 14) 6 dX11_reachesOf_5 (s) rfl rfl (by decide) (sh_51 z _) (by decide) (by omega) (by omega) ?_
    rw [hkd]
    refine r_istore3 7 dX11_reachesOf_6 rfl rfl (by decide) ?_
    refine r_iloadN 8 dX11_reachesOf_7 rfl rfl ?_
    refine r_istore4 10 dX11_reachesOf_8 rfl rfl (by decide) ?_
    refine r_iloadN 11 dX11_reachesOf_10 rfl rfl ?_
    refine r_iconst 12 dX11_reachesOf_11 rfl ?_
    refine r_icne 21 15 dX11_reachesOf_12 rfl (by decide) (by omega) (by omega) (fun h12 => ?_) (fun h12 => False.elim (by omega))
    refine r_iloadN 22 dX11_reachesOf_21 rfl rfl ?_
    refine r_iconst 23 dX11_reachesOf_22 rfl ?_
    refine r_icne 37 26 dX11_reachesOf_23 rfl (by decide) (by omega) (by omega) (fun h23 => ?_) (fun h23 => False.elim (by omega))
    refine r_iloadN 38 dX11_reachesOf_37 rfl rfl ?_
    refine r_bipush 40 dX11_reachesOf_38 rfl (by decide) ?_
    refine r_icne 49 43 dX11_reachesOf_40 rfl (by decide) (by omega) (by omega) (fun h40 => False.elim (by omega)) (fun h40 => ?_)
    refine r_aloadN 44 dX11_reachesOf_43 rfl rfl ?_
    refine r_bipush 46 dX11_reachesOf_44 rfl (by decide) ?_
    refine r_cv1 49 dX11_reachesOf_46 rfl gX11_354 rfl (by decide) (sh_50 z _) rfl rfl (Nat.le_of_ble_eq_true rfl) (Nat.le_of_ble_eq_true rfl) rfl ?_
    refine m_body (n := n) h (by omega) ?_
    refine r_aloadN 50 dX11_reachesOf_49 rfl rfl ?_
    refine r_bipush 52 dX11_reachesOf_50 rfl (by decide) ?_
    refine r_cv1 55 dX11_reachesOf_52 rfl gX11_354 rfl (by decide) (sh_50 z _) rfl rfl (Nat.le_of_ble_eq_true rfl) (Nat.le_of_ble_eq_true rfl) rfl ?_
    refine m_body (n := n + 1) (by show (n : Int) + 1 = _; omega) (by omega) ?_
    refine r_aloadN 56 dX11_reachesOf_55 rfl rfl ?_
    refine r_iloadN 57 dX11_reachesOf_56 rfl rfl ?_
    refine r_iload 59 dX11_reachesOf_57 rfl rfl ?_
    refine r_cv2 62 dX11_reachesOf_59 rfl gX11_358 rfl (by decide) (sh_50 z _) rfl rfl (Nat.le_of_ble_eq_true rfl) (Nat.le_of_ble_eq_true rfl) rfl ?_
    refine m_soundsOf (n := n + 2) (by show (n : Int) + 1 + 1 = _; omega) (by omega) hkd (by omega) hs ?_
    refine r_iconst 63 dX11_reachesOf_62 rfl ?_
    refine r_imul 64 dX11_reachesOf_63 rfl ?_
    refine r_istore5 66 dX11_reachesOf_64 rfl rfl (by decide) ?_
    refine r_iloadN 67 dX11_reachesOf_66 rfl rfl ?_
    refine r_iconst 68 dX11_reachesOf_67 rfl ?_
    refine r_icne 83 71 dX11_reachesOf_68 rfl (by decide) (by omega) (by omega) (fun h68 => ?_) (fun h68 => False.elim (by omega))
    refine r_iloadN 84 dX11_reachesOf_83 rfl rfl ?_
    refine r_bipush 86 dX11_reachesOf_84 rfl (by decide) ?_
    refine r_icne 97 89 dX11_reachesOf_86 rfl (by decide) (by omega) (by omega) (fun h86 => False.elim (by omega)) (fun h86 => ?_)
    refine r_iload 91 dX11_reachesOf_89 rfl rfl ?_
    refine r_bipush 93 dX11_reachesOf_91 rfl (by decide) ?_
    refine r_iadd 94 dX11_reachesOf_93 rfl ?_
    refine r_goto 99 dX11_reachesOf_94 (by decide) ?_
    exact r_ret dX11_reachesOf_99 rfl k
theorem m_hearsOf {z : xZ} {d : Nat} {Q : tQ} {c : tC} {L : tL} {n s : Nat} {kd t x : Int} (h : c 50 0 66 = (n : Int)) (hn : n + 11 ≤ 20) (hkd : c 51 19 s = kd) (hk : 1 ≤ kd ∧ kd ≤ 7) (hs : s < 14) (ht : c 51 21 s = t) (k : Q (some (.int (iI (hV kd (s : Int) t x)))) (mBs c n (hL kd)) L) : En z (d + 4) MX11_hearsOf Q 0 [some (.ref (xad z 50 0)), some (.int (iI (s : Int))), some (.int (iI x)), none, none] [] c L := by
  rcases (show kd = 1 ∨ kd = 2 ∨ kd = 3 ∨ kd = 4 ∨ kd = 5 ∨ kd = 6 ∨ kd = 7 by omega) with e9 | e9 | e9 | e9 | e9 | e9 | e9
  · subst e9
    refine r_aloadN 1 dX11_hearsOf_0 rfl rfl ?_
    refine r_getq 4 dX11_hearsOf_1 rfl fX11_44 (by decide) (sh_50 z _) rfl ?_
    refine r_iloadN 5 dX11_hearsOf_4 rfl rfl ?_
    refine r_iald (n := 14) 6 dX11_hearsOf_5 (s) rfl rfl (by decide) (sh_51 z _) (by decide) (by omega) (by omega) ?_
    rw [hkd]
    refine r_istore3 7 dX11_hearsOf_6 rfl rfl (by decide) ?_
    refine r_iloadN 8 dX11_hearsOf_7 rfl rfl ?_
    refine r_iconst 9 dX11_hearsOf_8 rfl ?_
    refine r_icne 18 12 dX11_hearsOf_9 rfl (by decide) (by omega) (by omega) (fun h9 => ?_) (fun h9 => False.elim (by omega))
    refine r_iloadN 19 dX11_hearsOf_18 rfl rfl ?_
    refine r_iconst 20 dX11_hearsOf_19 rfl ?_
    refine r_icne 29 23 dX11_hearsOf_20 rfl (by decide) (by omega) (by omega) (fun h20 => ?_) (fun h20 => False.elim (by omega))
    refine r_iloadN 30 dX11_hearsOf_29 rfl rfl ?_
    refine r_bipush 32 dX11_hearsOf_30 rfl (by decide) ?_
    refine r_icne 41 35 dX11_hearsOf_32 rfl (by decide) (by omega) (by omega) (fun h32 => ?_) (fun h32 => False.elim (by omega))
    refine r_aloadN 42 dX11_hearsOf_41 rfl rfl ?_
    refine r_bipush 44 dX11_hearsOf_42 rfl (by decide) ?_
    refine r_cv1 47 dX11_hearsOf_44 rfl gX11_354 rfl (by decide) (sh_50 z _) rfl rfl (Nat.le_of_ble_eq_true rfl) (Nat.le_of_ble_eq_true rfl) rfl ?_
    refine m_body (n := n) h (by omega) ?_
    refine r_aloadN 48 dX11_hearsOf_47 rfl rfl ?_
    refine r_iloadN 49 dX11_hearsOf_48 rfl rfl ?_
    refine r_iloadN 50 dX11_hearsOf_49 rfl rfl ?_
    refine r_cv2 53 dX11_hearsOf_50 rfl gX11_361 rfl (by decide) (sh_50 z _) rfl rfl (Nat.le_of_ble_eq_true rfl) (Nat.le_of_ble_eq_true rfl) rfl ?_
    refine m_reachesOf (n := n + 1) (t := t) (by show (n : Int) + 1 = _; omega) (by omega) hkd (by omega) hs ht ?_
    refine r_istore4 55 dX11_hearsOf_53 rfl rfl (by decide) ?_
    refine r_iload 57 dX11_hearsOf_55 rfl rfl ?_
    refine r_aloadN 58 dX11_hearsOf_57 rfl rfl ?_
    refine r_iloadN 59 dX11_hearsOf_58 rfl rfl ?_
    refine r_iloadN 60 dX11_hearsOf_59 rfl rfl ?_
    refine r_aloadN 61 dX11_hearsOf_60 rfl rfl ?_
    refine r_getq 64 dX11_hearsOf_61 rfl fX11_50 (by decide) (sh_50 z _) rfl ?_
    refine r_iloadN 65 dX11_hearsOf_64 rfl rfl ?_
    refine r_iald (n := 14) 66 dX11_hearsOf_65 (s) rfl rfl (by decide) (sh_51 z _) (by decide) (by omega) (by omega) ?_
    rw [mBs_at (by decide)]
    (try simp only [cu_ap, Nat.reduceEqDiff, false_and, and_false, if_false, reduceIte])
    rw [ht]
    refine r_isub 67 dX11_hearsOf_66 rfl ?_
    refine r_cv2 70 dX11_hearsOf_67 rfl gX11_358 rfl (by decide) (sh_50 z _) rfl rfl (Nat.le_of_ble_eq_true rfl) (Nat.le_of_ble_eq_true rfl) rfl ?_
    refine m_soundsOf (n := n + 1 + (rL 1).length) (tB_n (by decide) _ _ _ (by show (n : Int) + 1 = _; omega)) (by have := rL_len 1; omega) ((mBs_at (by decide)).trans hkd) (by omega) hs ?_
    refine r_ixor 71 dX11_hearsOf_70 rfl ?_
    refine r_istore4 73 dX11_hearsOf_71 rfl rfl (by decide) ?_
    refine r_iloadN 74 dX11_hearsOf_73 rfl rfl ?_
    refine r_iconst 75 dX11_hearsOf_74 rfl ?_
    refine r_icne 84 78 dX11_hearsOf_75 rfl (by decide) (by omega) (by omega) (fun h75 => ?_) (fun h75 => False.elim (by omega))
    refine r_iloadN 85 dX11_hearsOf_84 rfl rfl ?_
    refine r_iconst 86 dX11_hearsOf_85 rfl ?_
    refine r_icne 96 89 dX11_hearsOf_86 rfl (by decide) (by omega) (by omega) (fun h86 => ?_) (fun h86 => False.elim (by omega))
    refine r_iloadN 97 dX11_hearsOf_96 rfl rfl ?_
    refine r_bipush 99 dX11_hearsOf_97 rfl (by decide) ?_
    refine r_icne 109 102 dX11_hearsOf_99 rfl (by decide) (by omega) (by omega) (fun h99 => ?_) (fun h99 => False.elim (by omega))
    refine r_iload 111 dX11_hearsOf_109 rfl rfl ?_
    refine r_ret dX11_hearsOf_111 rfl ?_
    have k2 := k
    rw [show hL 1 = 12 :: (rL 1 ++ sL 1) from rfl, show mBs c n (12 :: (rL 1 ++ sL 1)) = tB 51 65 50 66 (cu (cu c 51 65 n 12) 50 0 66 ((n : Int) + 1)) (n + 1) (rL 1 ++ sL 1) from rfl, tB_app] at k2
    exact k2
  · subst e9
    refine r_aloadN 1 dX11_hearsOf_0 rfl rfl ?_
    refine r_getq 4 dX11_hearsOf_1 rfl fX11_44 (by decide) (sh_50 z _) rfl ?_
    refine r_iloadN 5 dX11_hearsOf_4 rfl rfl ?_
    refine r_iald (n := 14) 6 dX11_hearsOf_5 (s) rfl rfl (by decide) (sh_51 z _) (by decide) (by omega) (by omega) ?_
    rw [hkd]
    refine r_istore3 7 dX11_hearsOf_6 rfl rfl (by decide) ?_
    refine r_iloadN 8 dX11_hearsOf_7 rfl rfl ?_
    refine r_iconst 9 dX11_hearsOf_8 rfl ?_
    refine r_icne 18 12 dX11_hearsOf_9 rfl (by decide) (by omega) (by omega) (fun h9 => ?_) (fun h9 => False.elim (by omega))
    refine r_iloadN 19 dX11_hearsOf_18 rfl rfl ?_
    refine r_iconst 20 dX11_hearsOf_19 rfl ?_
    refine r_icne 29 23 dX11_hearsOf_20 rfl (by decide) (by omega) (by omega) (fun h20 => ?_) (fun h20 => False.elim (by omega))
    refine r_iloadN 30 dX11_hearsOf_29 rfl rfl ?_
    refine r_bipush 32 dX11_hearsOf_30 rfl (by decide) ?_
    refine r_icne 41 35 dX11_hearsOf_32 rfl (by decide) (by omega) (by omega) (fun h32 => ?_) (fun h32 => False.elim (by omega))
    refine r_aloadN 42 dX11_hearsOf_41 rfl rfl ?_
    refine r_bipush 44 dX11_hearsOf_42 rfl (by decide) ?_
    refine r_cv1 47 dX11_hearsOf_44 rfl gX11_354 rfl (by decide) (sh_50 z _) rfl rfl (Nat.le_of_ble_eq_true rfl) (Nat.le_of_ble_eq_true rfl) rfl ?_
    refine m_body (n := n) h (by omega) ?_
    refine r_aloadN 48 dX11_hearsOf_47 rfl rfl ?_
    refine r_iloadN 49 dX11_hearsOf_48 rfl rfl ?_
    refine r_iloadN 50 dX11_hearsOf_49 rfl rfl ?_
    refine r_cv2 53 dX11_hearsOf_50 rfl gX11_361 rfl (by decide) (sh_50 z _) rfl rfl (Nat.le_of_ble_eq_true rfl) (Nat.le_of_ble_eq_true rfl) rfl ?_
    refine m_reachesOf (n := n + 1) (t := t) (by show (n : Int) + 1 = _; omega) (by omega) hkd (by omega) hs ht ?_
    refine r_istore4 55 dX11_hearsOf_53 rfl rfl (by decide) ?_
    refine r_iload 57 dX11_hearsOf_55 rfl rfl ?_
    refine r_aloadN 58 dX11_hearsOf_57 rfl rfl ?_
    refine r_iloadN 59 dX11_hearsOf_58 rfl rfl ?_
    refine r_iloadN 60 dX11_hearsOf_59 rfl rfl ?_
    refine r_aloadN 61 dX11_hearsOf_60 rfl rfl ?_
    refine r_getq 64 dX11_hearsOf_61 rfl fX11_50 (by decide) (sh_50 z _) rfl ?_
    refine r_iloadN 65 dX11_hearsOf_64 rfl rfl ?_
    refine r_iald (n := 14) 66 dX11_hearsOf_65 (s) rfl rfl (by decide) (sh_51 z _) (by decide) (by omega) (by omega) ?_
    rw [mBs_at (by decide)]
    (try simp only [cu_ap, Nat.reduceEqDiff, false_and, and_false, if_false, reduceIte])
    rw [ht]
    refine r_isub 67 dX11_hearsOf_66 rfl ?_
    refine r_cv2 70 dX11_hearsOf_67 rfl gX11_358 rfl (by decide) (sh_50 z _) rfl rfl (Nat.le_of_ble_eq_true rfl) (Nat.le_of_ble_eq_true rfl) rfl ?_
    refine m_soundsOf (n := n + 1 + (rL 2).length) (tB_n (by decide) _ _ _ (by show (n : Int) + 1 = _; omega)) (by have := rL_len 2; omega) ((mBs_at (by decide)).trans hkd) (by omega) hs ?_
    refine r_ixor 71 dX11_hearsOf_70 rfl ?_
    refine r_istore4 73 dX11_hearsOf_71 rfl rfl (by decide) ?_
    refine r_iloadN 74 dX11_hearsOf_73 rfl rfl ?_
    refine r_iconst 75 dX11_hearsOf_74 rfl ?_
    refine r_icne 84 78 dX11_hearsOf_75 rfl (by decide) (by omega) (by omega) (fun h75 => ?_) (fun h75 => False.elim (by omega))
    refine r_iloadN 85 dX11_hearsOf_84 rfl rfl ?_
    refine r_iconst 86 dX11_hearsOf_85 rfl ?_
    refine r_icne 96 89 dX11_hearsOf_86 rfl (by decide) (by omega) (by omega) (fun h86 => ?_) (fun h86 => False.elim (by omega))
    refine r_iloadN 97 dX11_hearsOf_96 rfl rfl ?_
    refine r_bipush 99 dX11_hearsOf_97 rfl (by decide) ?_
    refine r_icne 109 102 dX11_hearsOf_99 rfl (by decide) (by omega) (by omega) (fun h99 => ?_) (fun h99 => False.elim (by omega))
    refine r_iload 111 dX11_hearsOf_109 rfl rfl ?_
    refine r_ret dX11_hearsOf_111 rfl ?_
    have k2 := k
    rw [show hL 2 = 12 :: (rL 2 ++ sL 2) from rfl, show mBs c n (12 :: (rL 2 ++ sL 2)) = tB 51 65 50 66 (cu (cu c 51 65 n 12) 50 0 66 ((n : Int) + 1)) (n + 1) (rL 2 ++ sL 2) from rfl, tB_app] at k2
    exact k2
  · subst e9
    refine r_aloadN 1 dX11_hearsOf_0 rfl rfl ?_
    refine r_getq 4 dX11_hearsOf_1 rfl fX11_44 (by decide) (sh_50 z _) rfl ?_
    refine r_iloadN 5 dX11_hearsOf_4 rfl rfl ?_
    refine r_iald (n := 14) 6 dX11_hearsOf_5 (s) rfl rfl (by decide) (sh_51 z _) (by decide) (by omega) (by omega) ?_
    rw [hkd]
    refine r_istore3 7 dX11_hearsOf_6 rfl rfl (by decide) ?_
    refine r_iloadN 8 dX11_hearsOf_7 rfl rfl ?_
    refine r_iconst 9 dX11_hearsOf_8 rfl ?_
    refine r_icne 18 12 dX11_hearsOf_9 rfl (by decide) (by omega) (by omega) (fun h9 => False.elim (by omega)) (fun h9 => ?_)
    refine r_aloadN 13 dX11_hearsOf_12 rfl rfl ?_
    refine r_bipush 15 dX11_hearsOf_13 rfl (by decide) ?_
    refine r_cv1 18 dX11_hearsOf_15 rfl gX11_354 rfl (by decide) (sh_50 z _) rfl rfl (Nat.le_of_ble_eq_true rfl) (Nat.le_of_ble_eq_true rfl) rfl ?_
    refine m_body (n := n) h (by omega) ?_
    refine r_iloadN 19 dX11_hearsOf_18 rfl rfl ?_
    refine r_iconst 20 dX11_hearsOf_19 rfl ?_
    refine r_icne 29 23 dX11_hearsOf_20 rfl (by decide) (by omega) (by omega) (fun h20 => ?_) (fun h20 => False.elim (by omega))
    refine r_iloadN 30 dX11_hearsOf_29 rfl rfl ?_
    refine r_bipush 32 dX11_hearsOf_30 rfl (by decide) ?_
    refine r_icne 41 35 dX11_hearsOf_32 rfl (by decide) (by omega) (by omega) (fun h32 => ?_) (fun h32 => False.elim (by omega))
    refine r_aloadN 42 dX11_hearsOf_41 rfl rfl ?_
    refine r_bipush 44 dX11_hearsOf_42 rfl (by decide) ?_
    refine r_cv1 47 dX11_hearsOf_44 rfl gX11_354 rfl (by decide) (sh_50 z _) rfl rfl (Nat.le_of_ble_eq_true rfl) (Nat.le_of_ble_eq_true rfl) rfl ?_
    refine m_body (n := n + 1) (by show (n : Int) + 1 = _; omega) (by omega) ?_
    refine r_aloadN 48 dX11_hearsOf_47 rfl rfl ?_
    refine r_iloadN 49 dX11_hearsOf_48 rfl rfl ?_
    refine r_iloadN 50 dX11_hearsOf_49 rfl rfl ?_
    refine r_cv2 53 dX11_hearsOf_50 rfl gX11_361 rfl (by decide) (sh_50 z _) rfl rfl (Nat.le_of_ble_eq_true rfl) (Nat.le_of_ble_eq_true rfl) rfl ?_
    refine m_reachesOf (n := n + 2) (t := t) (by show (n : Int) + 1 + 1 = _; omega) (by omega) hkd (by omega) hs ht ?_
    refine r_istore4 55 dX11_hearsOf_53 rfl rfl (by decide) ?_
    refine r_iload 57 dX11_hearsOf_55 rfl rfl ?_
    refine r_aloadN 58 dX11_hearsOf_57 rfl rfl ?_
    refine r_iloadN 59 dX11_hearsOf_58 rfl rfl ?_
    refine r_iloadN 60 dX11_hearsOf_59 rfl rfl ?_
    refine r_aloadN 61 dX11_hearsOf_60 rfl rfl ?_
    refine r_getq 64 dX11_hearsOf_61 rfl fX11_50 (by decide) (sh_50 z _) rfl ?_
    refine r_iloadN 65 dX11_hearsOf_64 rfl rfl ?_
    refine r_iald (n := 14) 66 dX11_hearsOf_65 (s) rfl rfl (by decide) (sh_51 z _) (by decide) (by omega) (by omega) ?_
    rw [mBs_at (by decide)]
    (try simp only [cu_ap, Nat.reduceEqDiff, false_and, and_false, if_false, reduceIte])
    rw [ht]
    refine r_isub 67 dX11_hearsOf_66 rfl ?_
    refine r_cv2 70 dX11_hearsOf_67 rfl gX11_358 rfl (by decide) (sh_50 z _) rfl rfl (Nat.le_of_ble_eq_true rfl) (Nat.le_of_ble_eq_true rfl) rfl ?_
    refine m_soundsOf (n := n + 2 + (rL 3).length) (tB_n (by decide) _ _ _ (by show (n : Int) + 1 + 1 = _; omega)) (by have := rL_len 3; omega) ((mBs_at (by decide)).trans hkd) (by omega) hs ?_
    refine r_ixor 71 dX11_hearsOf_70 rfl ?_
    refine r_istore4 73 dX11_hearsOf_71 rfl rfl (by decide) ?_
    refine r_iloadN 74 dX11_hearsOf_73 rfl rfl ?_
    refine r_iconst 75 dX11_hearsOf_74 rfl ?_
    refine r_icne 84 78 dX11_hearsOf_75 rfl (by decide) (by omega) (by omega) (fun h75 => False.elim (by omega)) (fun h75 => ?_)
    refine r_iload 80 dX11_hearsOf_78 rfl rfl ?_
    refine r_ineg 81 dX11_hearsOf_80 rfl ?_
    refine r_goto 111 dX11_hearsOf_81 (by decide) ?_
    refine r_ret dX11_hearsOf_111 rfl ?_
    have k2 := k
    rw [show hL 3 = 41 :: 12 :: (rL 3 ++ sL 3) from rfl, show mBs c n (41 :: 12 :: (rL 3 ++ sL 3)) = tB 51 65 50 66 (cu (cu (cu (cu c 51 65 n 41) 50 0 66 ((n : Int) + 1)) 51 65 (n + 1) 12) 50 0 66 (((n + 1 : Nat) : Int) + 1)) (n + 2) (rL 3 ++ sL 3) from rfl, tB_app] at k2
    exact k2
  · subst e9
    refine r_aloadN 1 dX11_hearsOf_0 rfl rfl ?_
    refine r_getq 4 dX11_hearsOf_1 rfl fX11_44 (by decide) (sh_50 z _) rfl ?_
    refine r_iloadN 5 dX11_hearsOf_4 rfl rfl ?_
    refine r_iald (n := 14) 6 dX11_hearsOf_5 (s) rfl rfl (by decide) (sh_51 z _) (by decide) (by omega) (by omega) ?_
    rw [hkd]
    refine r_istore3 7 dX11_hearsOf_6 rfl rfl (by decide) ?_
    refine r_iloadN 8 dX11_hearsOf_7 rfl rfl ?_
    refine r_iconst 9 dX11_hearsOf_8 rfl ?_
    refine r_icne 18 12 dX11_hearsOf_9 rfl (by decide) (by omega) (by omega) (fun h9 => ?_) (fun h9 => False.elim (by omega))
    refine r_iloadN 19 dX11_hearsOf_18 rfl rfl ?_
    refine r_iconst 20 dX11_hearsOf_19 rfl ?_
    refine r_icne 29 23 dX11_hearsOf_20 rfl (by decide) (by omega) (by omega) (fun h20 => False.elim (by omega)) (fun h20 => ?_)
    refine r_aloadN 24 dX11_hearsOf_23 rfl rfl ?_
    refine r_bipush 26 dX11_hearsOf_24 rfl (by decide) ?_
    refine r_cv1 29 dX11_hearsOf_26 rfl gX11_354 rfl (by decide) (sh_50 z _) rfl rfl (Nat.le_of_ble_eq_true rfl) (Nat.le_of_ble_eq_true rfl) rfl ?_
    refine m_body (n := n) h (by omega) ?_
    refine r_iloadN 30 dX11_hearsOf_29 rfl rfl ?_
    refine r_bipush 32 dX11_hearsOf_30 rfl (by decide) ?_
    refine r_icne 41 35 dX11_hearsOf_32 rfl (by decide) (by omega) (by omega) (fun h32 => ?_) (fun h32 => False.elim (by omega))
    refine r_aloadN 42 dX11_hearsOf_41 rfl rfl ?_
    refine r_bipush 44 dX11_hearsOf_42 rfl (by decide) ?_
    refine r_cv1 47 dX11_hearsOf_44 rfl gX11_354 rfl (by decide) (sh_50 z _) rfl rfl (Nat.le_of_ble_eq_true rfl) (Nat.le_of_ble_eq_true rfl) rfl ?_
    refine m_body (n := n + 1) (by show (n : Int) + 1 = _; omega) (by omega) ?_
    refine r_aloadN 48 dX11_hearsOf_47 rfl rfl ?_
    refine r_iloadN 49 dX11_hearsOf_48 rfl rfl ?_
    refine r_iloadN 50 dX11_hearsOf_49 rfl rfl ?_
    refine r_cv2 53 dX11_hearsOf_50 rfl gX11_361 rfl (by decide) (sh_50 z _) rfl rfl (Nat.le_of_ble_eq_true rfl) (Nat.le_of_ble_eq_true rfl) rfl ?_
    refine m_reachesOf (n := n + 2) (t := t) (by show (n : Int) + 1 + 1 = _; omega) (by omega) hkd (by omega) hs ht ?_
    refine r_istore4 55 dX11_hearsOf_53 rfl rfl (by decide) ?_
    refine r_iload 57 dX11_hearsOf_55 rfl rfl ?_
    refine r_aloadN 58 dX11_hearsOf_57 rfl rfl ?_
    refine r_iloadN 59 dX11_hearsOf_58 rfl rfl ?_
    refine r_iloadN 60 dX11_hearsOf_59 rfl rfl ?_
    refine r_aloadN 61 dX11_hearsOf_60 rfl rfl ?_
    refine r_getq 64 dX11_hearsOf_61 rfl fX11_50 (by decide) (sh_50 z _) rfl ?_
    refine r_iloadN 65 dX11_hearsOf_64 rfl rfl ?_
    refine r_iald (n := 14) 66 dX11_hearsOf_65 (s) rfl rfl (by decide) (sh_51 z _) (by decide) (by omega) (by omega) ?_
    rw [mBs_at (by decide)]
    (try simp only [cu_ap, Nat.reduceEqDiff, false_and, and_false, if_false, reduceIte])
    rw [ht]
    refine r_isub 67 dX11_hearsOf_66 rfl ?_
    refine r_cv2 70 dX11_hearsOf_67 rfl gX11_358 rfl (by decide) (sh_50 z _) rfl rfl (Nat.le_of_ble_eq_true rfl) (Nat.le_of_ble_eq_true rfl) rfl ?_
    refine m_soundsOf (n := n + 2 + (rL 4).length) (tB_n (by decide) _ _ _ (by show (n : Int) + 1 + 1 = _; omega)) (by have := rL_len 4; omega) ((mBs_at (by decide)).trans hkd) (by omega) hs ?_
    refine r_ixor 71 dX11_hearsOf_70 rfl ?_
    refine r_istore4 73 dX11_hearsOf_71 rfl rfl (by decide) ?_
    refine r_iloadN 74 dX11_hearsOf_73 rfl rfl ?_
    refine r_iconst 75 dX11_hearsOf_74 rfl ?_
    refine r_icne 84 78 dX11_hearsOf_75 rfl (by decide) (by omega) (by omega) (fun h75 => ?_) (fun h75 => False.elim (by omega))
    refine r_iloadN 85 dX11_hearsOf_84 rfl rfl ?_
    refine r_iconst 86 dX11_hearsOf_85 rfl ?_
    refine r_icne 96 89 dX11_hearsOf_86 rfl (by decide) (by omega) (by omega) (fun h86 => False.elim (by omega)) (fun h86 => ?_)
    refine r_iload 91 dX11_hearsOf_89 rfl rfl ?_
    refine r_iloadN 92 dX11_hearsOf_91 rfl rfl ?_
    refine r_isub 93 dX11_hearsOf_92 rfl ?_
    refine r_goto 111 dX11_hearsOf_93 (by decide) ?_
    refine r_ret dX11_hearsOf_111 rfl ?_
    have k2 := k
    rw [show hL 4 = 50 :: 12 :: (rL 4 ++ sL 4) from rfl, show mBs c n (50 :: 12 :: (rL 4 ++ sL 4)) = tB 51 65 50 66 (cu (cu (cu (cu c 51 65 n 50) 50 0 66 ((n : Int) + 1)) 51 65 (n + 1) 12) 50 0 66 (((n + 1 : Nat) : Int) + 1)) (n + 2) (rL 4 ++ sL 4) from rfl, tB_app] at k2
    exact k2
  · subst e9
    refine r_aloadN 1 dX11_hearsOf_0 rfl rfl ?_
    refine r_getq 4 dX11_hearsOf_1 rfl fX11_44 (by decide) (sh_50 z _) rfl ?_
    refine r_iloadN 5 dX11_hearsOf_4 rfl rfl ?_
    refine r_iald (n := 14) 6 dX11_hearsOf_5 (s) rfl rfl (by decide) (sh_51 z _) (by decide) (by omega) (by omega) ?_
    rw [hkd]
    refine r_istore3 7 dX11_hearsOf_6 rfl rfl (by decide) ?_
    refine r_iloadN 8 dX11_hearsOf_7 rfl rfl ?_
    refine r_iconst 9 dX11_hearsOf_8 rfl ?_
    refine r_icne 18 12 dX11_hearsOf_9 rfl (by decide) (by omega) (by omega) (fun h9 => ?_) (fun h9 => False.elim (by omega))
    refine r_iloadN 19 dX11_hearsOf_18 rfl rfl ?_
    refine r_iconst 20 dX11_hearsOf_19 rfl ?_
    refine r_icne 29 23 dX11_hearsOf_20 rfl (by decide) (by omega) (by omega) (fun h20 => ?_) (fun h20 => False.elim (by omega))
    refine r_iloadN 30 dX11_hearsOf_29 rfl rfl ?_
    refine r_bipush 32 dX11_hearsOf_30 rfl (by decide) ?_
    refine r_icne 41 35 dX11_hearsOf_32 rfl (by decide) (by omega) (by omega) (fun h32 => ?_) (fun h32 => False.elim (by omega))
    refine r_aloadN 42 dX11_hearsOf_41 rfl rfl ?_
    refine r_bipush 44 dX11_hearsOf_42 rfl (by decide) ?_
    refine r_cv1 47 dX11_hearsOf_44 rfl gX11_354 rfl (by decide) (sh_50 z _) rfl rfl (Nat.le_of_ble_eq_true rfl) (Nat.le_of_ble_eq_true rfl) rfl ?_
    refine m_body (n := n) h (by omega) ?_
    refine r_aloadN 48 dX11_hearsOf_47 rfl rfl ?_
    refine r_iloadN 49 dX11_hearsOf_48 rfl rfl ?_
    refine r_iloadN 50 dX11_hearsOf_49 rfl rfl ?_
    refine r_cv2 53 dX11_hearsOf_50 rfl gX11_361 rfl (by decide) (sh_50 z _) rfl rfl (Nat.le_of_ble_eq_true rfl) (Nat.le_of_ble_eq_true rfl) rfl ?_
    refine m_reachesOf (n := n + 1) (t := t) (by show (n : Int) + 1 = _; omega) (by omega) hkd (by omega) hs ht ?_
    refine r_istore4 55 dX11_hearsOf_53 rfl rfl (by decide) ?_
    refine r_iload 57 dX11_hearsOf_55 rfl rfl ?_
    refine r_aloadN 58 dX11_hearsOf_57 rfl rfl ?_
    refine r_iloadN 59 dX11_hearsOf_58 rfl rfl ?_
    refine r_iloadN 60 dX11_hearsOf_59 rfl rfl ?_
    refine r_aloadN 61 dX11_hearsOf_60 rfl rfl ?_
    refine r_getq 64 dX11_hearsOf_61 rfl fX11_50 (by decide) (sh_50 z _) rfl ?_
    refine r_iloadN 65 dX11_hearsOf_64 rfl rfl ?_
    refine r_iald (n := 14) 66 dX11_hearsOf_65 (s) rfl rfl (by decide) (sh_51 z _) (by decide) (by omega) (by omega) ?_
    rw [mBs_at (by decide)]
    (try simp only [cu_ap, Nat.reduceEqDiff, false_and, and_false, if_false, reduceIte])
    rw [ht]
    refine r_isub 67 dX11_hearsOf_66 rfl ?_
    refine r_cv2 70 dX11_hearsOf_67 rfl gX11_358 rfl (by decide) (sh_50 z _) rfl rfl (Nat.le_of_ble_eq_true rfl) (Nat.le_of_ble_eq_true rfl) rfl ?_
    refine m_soundsOf (n := n + 1 + (rL 5).length) (tB_n (by decide) _ _ _ (by show (n : Int) + 1 = _; omega)) (by have := rL_len 5; omega) ((mBs_at (by decide)).trans hkd) (by omega) hs ?_
    refine r_ixor 71 dX11_hearsOf_70 rfl ?_
    refine r_istore4 73 dX11_hearsOf_71 rfl rfl (by decide) ?_
    refine r_iloadN 74 dX11_hearsOf_73 rfl rfl ?_
    refine r_iconst 75 dX11_hearsOf_74 rfl ?_
    refine r_icne 84 78 dX11_hearsOf_75 rfl (by decide) (by omega) (by omega) (fun h75 => ?_) (fun h75 => False.elim (by omega))
    refine r_iloadN 85 dX11_hearsOf_84 rfl rfl ?_
    refine r_iconst 86 dX11_hearsOf_85 rfl ?_
    refine r_icne 96 89 dX11_hearsOf_86 rfl (by decide) (by omega) (by omega) (fun h86 => ?_) (fun h86 => False.elim (by omega))
    refine r_iloadN 97 dX11_hearsOf_96 rfl rfl ?_
    refine r_bipush 99 dX11_hearsOf_97 rfl (by decide) ?_
    refine r_icne 109 102 dX11_hearsOf_99 rfl (by decide) (by omega) (by omega) (fun h99 => ?_) (fun h99 => False.elim (by omega))
    refine r_iload 111 dX11_hearsOf_109 rfl rfl ?_
    refine r_ret dX11_hearsOf_111 rfl ?_
    have k2 := k
    rw [show hL 5 = 12 :: (rL 5 ++ sL 5) from rfl, show mBs c n (12 :: (rL 5 ++ sL 5)) = tB 51 65 50 66 (cu (cu c 51 65 n 12) 50 0 66 ((n : Int) + 1)) (n + 1) (rL 5 ++ sL 5) from rfl, tB_app] at k2
    exact k2
  · subst e9
    refine r_aloadN 1 dX11_hearsOf_0 rfl rfl ?_
    refine r_getq 4 dX11_hearsOf_1 rfl fX11_44 (by decide) (sh_50 z _) rfl ?_
    refine r_iloadN 5 dX11_hearsOf_4 rfl rfl ?_
    refine r_iald (n := 14) 6 dX11_hearsOf_5 (s) rfl rfl (by decide) (sh_51 z _) (by decide) (by omega) (by omega) ?_
    rw [hkd]
    refine r_istore3 7 dX11_hearsOf_6 rfl rfl (by decide) ?_
    refine r_iloadN 8 dX11_hearsOf_7 rfl rfl ?_
    refine r_iconst 9 dX11_hearsOf_8 rfl ?_
    refine r_icne 18 12 dX11_hearsOf_9 rfl (by decide) (by omega) (by omega) (fun h9 => ?_) (fun h9 => False.elim (by omega))
    refine r_iloadN 19 dX11_hearsOf_18 rfl rfl ?_
    refine r_iconst 20 dX11_hearsOf_19 rfl ?_
    refine r_icne 29 23 dX11_hearsOf_20 rfl (by decide) (by omega) (by omega) (fun h20 => ?_) (fun h20 => False.elim (by omega))
    refine r_iloadN 30 dX11_hearsOf_29 rfl rfl ?_
    refine r_bipush 32 dX11_hearsOf_30 rfl (by decide) ?_
    refine r_icne 41 35 dX11_hearsOf_32 rfl (by decide) (by omega) (by omega) (fun h32 => False.elim (by omega)) (fun h32 => ?_)
    refine r_aloadN 36 dX11_hearsOf_35 rfl rfl ?_
    refine r_bipush 38 dX11_hearsOf_36 rfl (by decide) ?_
    refine r_cv1 41 dX11_hearsOf_38 rfl gX11_354 rfl (by decide) (sh_50 z _) rfl rfl (Nat.le_of_ble_eq_true rfl) (Nat.le_of_ble_eq_true rfl) rfl ?_
    refine m_body (n := n) h (by omega) ?_
    refine r_aloadN 42 dX11_hearsOf_41 rfl rfl ?_
    refine r_bipush 44 dX11_hearsOf_42 rfl (by decide) ?_
    refine r_cv1 47 dX11_hearsOf_44 rfl gX11_354 rfl (by decide) (sh_50 z _) rfl rfl (Nat.le_of_ble_eq_true rfl) (Nat.le_of_ble_eq_true rfl) rfl ?_
    refine m_body (n := n + 1) (by show (n : Int) + 1 = _; omega) (by omega) ?_
    refine r_aloadN 48 dX11_hearsOf_47 rfl rfl ?_
    refine r_iloadN 49 dX11_hearsOf_48 rfl rfl ?_
    refine r_iloadN 50 dX11_hearsOf_49 rfl rfl ?_
    refine r_cv2 53 dX11_hearsOf_50 rfl gX11_361 rfl (by decide) (sh_50 z _) rfl rfl (Nat.le_of_ble_eq_true rfl) (Nat.le_of_ble_eq_true rfl) rfl ?_
    refine m_reachesOf (n := n + 2) (t := t) (by show (n : Int) + 1 + 1 = _; omega) (by omega) hkd (by omega) hs ht ?_
    refine r_istore4 55 dX11_hearsOf_53 rfl rfl (by decide) ?_
    refine r_iload 57 dX11_hearsOf_55 rfl rfl ?_
    refine r_aloadN 58 dX11_hearsOf_57 rfl rfl ?_
    refine r_iloadN 59 dX11_hearsOf_58 rfl rfl ?_
    refine r_iloadN 60 dX11_hearsOf_59 rfl rfl ?_
    refine r_aloadN 61 dX11_hearsOf_60 rfl rfl ?_
    refine r_getq 64 dX11_hearsOf_61 rfl fX11_50 (by decide) (sh_50 z _) rfl ?_
    refine r_iloadN 65 dX11_hearsOf_64 rfl rfl ?_
    refine r_iald (n := 14) 66 dX11_hearsOf_65 (s) rfl rfl (by decide) (sh_51 z _) (by decide) (by omega) (by omega) ?_
    rw [mBs_at (by decide)]
    (try simp only [cu_ap, Nat.reduceEqDiff, false_and, and_false, if_false, reduceIte])
    rw [ht]
    refine r_isub 67 dX11_hearsOf_66 rfl ?_
    refine r_cv2 70 dX11_hearsOf_67 rfl gX11_358 rfl (by decide) (sh_50 z _) rfl rfl (Nat.le_of_ble_eq_true rfl) (Nat.le_of_ble_eq_true rfl) rfl ?_
    refine m_soundsOf (n := n + 2 + (rL 6).length) (tB_n (by decide) _ _ _ (by show (n : Int) + 1 + 1 = _; omega)) (by have := rL_len 6; omega) ((mBs_at (by decide)).trans hkd) (by omega) hs ?_
    refine r_ixor 71 dX11_hearsOf_70 rfl ?_
    refine r_istore4 73 dX11_hearsOf_71 rfl rfl (by decide) ?_
    refine r_iloadN 74 dX11_hearsOf_73 rfl rfl ?_
    refine r_iconst 75 dX11_hearsOf_74 rfl ?_
    refine r_icne 84 78 dX11_hearsOf_75 rfl (by decide) (by omega) (by omega) (fun h75 => ?_) (fun h75 => False.elim (by omega))
    refine r_iloadN 85 dX11_hearsOf_84 rfl rfl ?_
    refine r_iconst 86 dX11_hearsOf_85 rfl ?_
    refine r_icne 96 89 dX11_hearsOf_86 rfl (by decide) (by omega) (by omega) (fun h86 => ?_) (fun h86 => False.elim (by omega))
    refine r_iloadN 97 dX11_hearsOf_96 rfl rfl ?_
    refine r_bipush 99 dX11_hearsOf_97 rfl (by decide) ?_
    refine r_icne 109 102 dX11_hearsOf_99 rfl (by decide) (by omega) (by omega) (fun h99 => False.elim (by omega)) (fun h99 => ?_)
    refine r_iload 104 dX11_hearsOf_102 rfl rfl ?_
    refine r_iconst 105 dX11_hearsOf_104 rfl ?_
    refine r_imul 106 dX11_hearsOf_105 rfl ?_
    refine r_goto 111 dX11_hearsOf_106 (by decide) ?_
    refine r_ret dX11_hearsOf_111 rfl ?_
    have k2 := k
    rw [show hL 6 = 70 :: 12 :: (rL 6 ++ sL 6) from rfl, show mBs c n (70 :: 12 :: (rL 6 ++ sL 6)) = tB 51 65 50 66 (cu (cu (cu (cu c 51 65 n 70) 50 0 66 ((n : Int) + 1)) 51 65 (n + 1) 12) 50 0 66 (((n + 1 : Nat) : Int) + 1)) (n + 2) (rL 6 ++ sL 6) from rfl, tB_app] at k2
    exact k2
  · subst e9
    refine r_aloadN 1 dX11_hearsOf_0 rfl rfl ?_
    refine r_getq 4 dX11_hearsOf_1 rfl fX11_44 (by decide) (sh_50 z _) rfl ?_
    refine r_iloadN 5 dX11_hearsOf_4 rfl rfl ?_
    refine r_iald (n := 14) 6 dX11_hearsOf_5 (s) rfl rfl (by decide) (sh_51 z _) (by decide) (by omega) (by omega) ?_
    rw [hkd]
    refine r_istore3 7 dX11_hearsOf_6 rfl rfl (by decide) ?_
    refine r_iloadN 8 dX11_hearsOf_7 rfl rfl ?_
    refine r_iconst 9 dX11_hearsOf_8 rfl ?_
    refine r_icne 18 12 dX11_hearsOf_9 rfl (by decide) (by omega) (by omega) (fun h9 => ?_) (fun h9 => False.elim (by omega))
    refine r_iloadN 19 dX11_hearsOf_18 rfl rfl ?_
    refine r_iconst 20 dX11_hearsOf_19 rfl ?_
    refine r_icne 29 23 dX11_hearsOf_20 rfl (by decide) (by omega) (by omega) (fun h20 => ?_) (fun h20 => False.elim (by omega))
    refine r_iloadN 30 dX11_hearsOf_29 rfl rfl ?_
    refine r_bipush 32 dX11_hearsOf_30 rfl (by decide) ?_
    refine r_icne 41 35 dX11_hearsOf_32 rfl (by decide) (by omega) (by omega) (fun h32 => ?_) (fun h32 => False.elim (by omega))
    refine r_aloadN 42 dX11_hearsOf_41 rfl rfl ?_
    refine r_bipush 44 dX11_hearsOf_42 rfl (by decide) ?_
    refine r_cv1 47 dX11_hearsOf_44 rfl gX11_354 rfl (by decide) (sh_50 z _) rfl rfl (Nat.le_of_ble_eq_true rfl) (Nat.le_of_ble_eq_true rfl) rfl ?_
    refine m_body (n := n) h (by omega) ?_
    refine r_aloadN 48 dX11_hearsOf_47 rfl rfl ?_
    refine r_iloadN 49 dX11_hearsOf_48 rfl rfl ?_
    refine r_iloadN 50 dX11_hearsOf_49 rfl rfl ?_
    refine r_cv2 53 dX11_hearsOf_50 rfl gX11_361 rfl (by decide) (sh_50 z _) rfl rfl (Nat.le_of_ble_eq_true rfl) (Nat.le_of_ble_eq_true rfl) rfl ?_
    refine m_reachesOf (n := n + 1) (t := t) (by show (n : Int) + 1 = _; omega) (by omega) hkd (by omega) hs ht ?_
    refine r_istore4 55 dX11_hearsOf_53 rfl rfl (by decide) ?_
    refine r_iload 57 dX11_hearsOf_55 rfl rfl ?_
    refine r_aloadN 58 dX11_hearsOf_57 rfl rfl ?_
    refine r_iloadN 59 dX11_hearsOf_58 rfl rfl ?_
    refine r_iloadN 60 dX11_hearsOf_59 rfl rfl ?_
    refine r_aloadN 61 dX11_hearsOf_60 rfl rfl ?_
    refine r_getq 64 dX11_hearsOf_61 rfl fX11_50 (by decide) (sh_50 z _) rfl ?_
    refine r_iloadN 65 dX11_hearsOf_64 rfl rfl ?_
    refine r_iald (n := 14) 66 dX11_hearsOf_65 (s) rfl rfl (by decide) (sh_51 z _) (by decide) (by omega) (by omega) ?_
    rw [mBs_at (by decide)]
    (try simp only [cu_ap, Nat.reduceEqDiff, false_and, and_false, if_false, reduceIte])
    rw [ht]
    refine r_isub 67 dX11_hearsOf_66 rfl ?_
    refine r_cv2 70 dX11_hearsOf_67 rfl gX11_358 rfl (by decide) (sh_50 z _) rfl rfl (Nat.le_of_ble_eq_true rfl) (Nat.le_of_ble_eq_true rfl) rfl ?_
    refine m_soundsOf (n := n + 1 + (rL 7).length) (tB_n (by decide) _ _ _ (by show (n : Int) + 1 = _; omega)) (by have := rL_len 7; omega) ((mBs_at (by decide)).trans hkd) (by omega) hs ?_
    refine r_ixor 71 dX11_hearsOf_70 rfl ?_
    refine r_istore4 73 dX11_hearsOf_71 rfl rfl (by decide) ?_
    refine r_iloadN 74 dX11_hearsOf_73 rfl rfl ?_
    refine r_iconst 75 dX11_hearsOf_74 rfl ?_
    refine r_icne 84 78 dX11_hearsOf_75 rfl (by decide) (by omega) (by omega) (fun h75 => ?_) (fun h75 => False.elim (by omega))
    refine r_iloadN 85 dX11_hearsOf_84 rfl rfl ?_
    refine r_iconst 86 dX11_hearsOf_85 rfl ?_
    refine r_icne 96 89 dX11_hearsOf_86 rfl (by decide) (by omega) (by omega) (fun h86 => ?_) (fun h86 => False.elim (by omega))
    refine r_iloadN 97 dX11_hearsOf_96 rfl rfl ?_
    refine r_bipush 99 dX11_hearsOf_97 rfl (by decide) ?_
    refine r_icne 109 102 dX11_hearsOf_99 rfl (by decide) (by omega) (by omega) (fun h99 => ?_) (fun h99 => False.elim (by omega))
    refine r_iload 111 dX11_hearsOf_109 rfl rfl ?_
    refine r_ret dX11_hearsOf_111 rfl ?_
    have k2 := k
    rw [show hL 7 = 12 :: (rL 7 ++ sL 7) from rfl, show mBs c n (12 :: (rL 7 ++ sL 7)) = tB 51 65 50 66 (cu (cu c 51 65 n 12) 50 0 66 ((n : Int) + 1)) (n + 1) (rL 7 ++ sL 7) from rfl, tB_app] at k2
    exact k2
theorem m_act {z : xZ} {d : Nat} {Q : tQ} {c : tC} {L : tL} {s a x : Int} (hR : RX c) (hs : inR s) (ha : inR a) (hx : inR x) (k : ∀ c2 : tC, (∀ g, g ≠ 50 → g ≠ 51 → c2 g = c g) → (∀ j, j ≠ 66 → c2 50 0 j = c 50 0 j) → (∀ f, f ≠ 65 → c2 51 f = c 51 f) → c2 50 0 66 = (((gActL (c 50 0) (c 51) s a).length : Nat) : Int) → (∀ j, j < (gActL (c 50 0) (c 51) s a).length → c2 51 65 j = (gActL (c 50 0) (c 51) s a).getD j 0) → Q (some (.int (iI (gActV (c 50 0) (c 51) s a x)))) c2 L) : En z (d + 20) MX11_act Q 0 [some (.ref (xad z 50 0)), some (.int (iI s)), some (.int (iI a)), some (.int (iI x))] [] c L := by
  have hg := RX_MG hR
  have hs1 := hs.1
  have hs2 := hs.2
  have ha1 := ha.1
  have ha2 := ha.2
  unfold MG RT_rng at hg
  refine r_aloadN 1 dX11_act_0 rfl rfl ?_
  refine r_iconst 2 dX11_act_1 rfl ?_
  refine r_puti 5 dX11_act_2 rfl pX11_351 (by decide) (sh_50 z _) rfl ?_
  refine r_aloadN 6 dX11_act_5 rfl rfl ?_
  refine r_iloadN 7 dX11_act_6 rfl rfl ?_
  refine r_cv1 10 dX11_act_7 rfl gX11_188 rfl (by decide) (sh_50 z _) rfl rfl (Nat.le_of_ble_eq_true rfl) (Nat.le_of_ble_eq_true rfl) rfl ?_
  refine m_isSrc (v := s) (c := cu c 50 0 66 0) (show MG (cu c 50 0 66 0) from RX_MG hR) (by assumption) (fun y7 => ?_) (fun y7 => ?_)
  · refine r_ifeqF 13 dX11_act_10 rfl 22 (by decide) (by decide) (by decide) ?_
    rw [show cu c 50 0 66 0 50 0 2 = c 50 0 2 from rfl] at y7
    refine r_iloadN 14 dX11_act_13 rfl rfl ?_
    refine r_iflt 22 17 dX11_act_14 rfl (by decide) (by omega) (fun h14 => ?_) (fun h14 => ?_)
    · refine r_iconst 23 dX11_act_22 rfl ?_
      have e1 : gActL (c 50 0) (c 51) s a = [] := by
        unfold gActL
        by_cases y13 : 0 ≤ s ∧ s < c 50 0 2
        · rw [if_pos y13]; unfold aL; rw [if_neg (by omega), if_neg (by omega), if_neg (by omega)]
        · rw [if_neg y13]
      have e2 : gActV (c 50 0) (c 51) s a x = 0 := by
        unfold gActV
        by_cases y13 : 0 ≤ s ∧ s < c 50 0 2
        · rw [if_pos y13]; unfold aV; rw [if_neg (by omega), if_neg (by omega), if_neg (by omega)]
        · rw [if_neg y13]
      rw [e2] at k
      refine r_ret dX11_act_23 rfl (k _ (fun g h1 h2 => ?_) (fun j hj => ?_) (fun f hf => ?_) (by rw [e1]; rfl) (fun j hj => absurd hj (by rw [e1]; exact Nat.not_lt_zero _)))
      · funext i j
        rw [cu, if_neg (fun q => h1 q.1)]
      · rw [cu, if_neg (fun q => hj q.2.2)]
      · rfl
    · refine r_iloadN 18 dX11_act_17 rfl rfl ?_
      refine r_iconst 19 dX11_act_18 rfl ?_
      refine r_icle 24 22 dX11_act_19 rfl (by decide) (by omega) (by omega) (fun h19 => ?_) (fun h19 => ?_)
      · obtain ⟨s0, hs00⟩ := Int.eq_ofNat_of_zero_le (show 0 ≤ s by omega)
        subst hs00
        have hq := R0_src hR s0 (by omega)
        refine r_iloadN 25 dX11_act_24 rfl rfl ?_
        refine r_ifne 37 28 dX11_act_25 rfl (by decide) (by omega) (fun h25 => ?_) (fun h25 => ?_)
        · refine r_iloadN 38 dX11_act_37 rfl rfl ?_
          refine r_iconst 39 dX11_act_38 rfl ?_
          refine r_icne 51 42 dX11_act_39 rfl (by decide) (by omega) (by omega) (fun h39 => ?_) (fun h39 => ?_)
          · refine r_aloadN 52 dX11_act_51 rfl rfl ?_
            refine r_iloadN 53 dX11_act_52 rfl rfl ?_
            refine r_iloadN 54 dX11_act_53 rfl rfl ?_
            refine r_cv2 57 dX11_act_54 rfl gX11_364 rfl (by decide) (sh_50 z _) rfl rfl (Nat.le_of_ble_eq_true rfl) (Nat.le_of_ble_eq_true rfl) rfl ?_
            refine m_hearsOf (n := 0) (s := s0) rfl (by omega) rfl hq.2.1 (by omega) rfl ?_
            have e1 : gActL (c 50 0) (c 51) (s0 : Int) a = aL a (c 51 19 s0) := by unfold gActL; rw [if_pos (by omega), Int.toNat_natCast]
            have e2 : gActV (c 50 0) (c 51) (s0 : Int) a x = aV a (c 51 19 s0) (s0 : Int) (c 51 21 s0) x := by unfold gActV; rw [if_pos (by omega), Int.toNat_natCast]
            have e3 : aL a (c 51 19 s0) = hL (c 51 19 s0) := by unfold aL; rw [if_neg (by omega), if_neg (by omega), if_pos (by omega)]
            have e4 : aV a (c 51 19 s0) (s0 : Int) (c 51 21 s0) x = hV (c 51 19 s0) (s0 : Int) (c 51 21 s0) x := by unfold aV; rw [if_neg (by omega), if_neg (by omega), if_pos (by omega)]
            rw [e2, e4] at k
            refine r_ret dX11_act_57 rfl (k _ (fun g h1 h2 => ?_) (fun j hj => ?_) (fun f hf => ?_) ?_ (fun j hj => ?_))
            · funext i j
              refine (tB_at (fun q => h2 q.1) (fun q => h1 q.1) _ _ _).trans ?_
              rw [cu, if_neg (fun q => h1 q.1)]
            · refine (tB_at (by omega) (fun q => hj q.2.2) _ _ _).trans ?_
              rw [cu, if_neg (fun q => hj q.2.2)]
            · funext i
              exact tB_at (fun q => hf q.2) (by omega) _ _ _
            · rw [e1, e3]
              refine (tB_n (by decide) _ _ 0 rfl).trans ?_
              rw [Nat.zero_add]
              rfl
            · rw [e1, e3] at hj ⊢
              exact (tB_row (by decide) _ _ 0 j).2 (Nat.zero_le _) (by rw [Nat.zero_add]; exact hj)
          · refine r_aloadN 43 dX11_act_42 rfl rfl ?_
            refine r_iloadN 44 dX11_act_43 rfl rfl ?_
            refine r_iloadN 45 dX11_act_44 rfl rfl ?_
            refine r_cv2 48 dX11_act_45 rfl gX11_361 rfl (by decide) (sh_50 z _) rfl rfl (Nat.le_of_ble_eq_true rfl) (Nat.le_of_ble_eq_true rfl) rfl ?_
            refine m_reachesOf (n := 0) (s := s0) rfl (by omega) rfl hq.2.1 (by omega) rfl ?_
            refine r_goto 57 dX11_act_48 (by decide) ?_
            have e1 : gActL (c 50 0) (c 51) (s0 : Int) a = aL a (c 51 19 s0) := by unfold gActL; rw [if_pos (by omega), Int.toNat_natCast]
            have e2 : gActV (c 50 0) (c 51) (s0 : Int) a x = aV a (c 51 19 s0) (s0 : Int) (c 51 21 s0) x := by unfold gActV; rw [if_pos (by omega), Int.toNat_natCast]
            have e3 : aL a (c 51 19 s0) = rL (c 51 19 s0) := by unfold aL; rw [if_neg (by omega), if_pos (by omega)]
            have e4 : aV a (c 51 19 s0) (s0 : Int) (c 51 21 s0) x = rV (c 51 19 s0) (s0 : Int) (c 51 21 s0) x := by unfold aV; rw [if_neg (by omega), if_pos (by omega)]
            rw [e2, e4] at k
            refine r_ret dX11_act_57 rfl (k _ (fun g h1 h2 => ?_) (fun j hj => ?_) (fun f hf => ?_) ?_ (fun j hj => ?_))
            · funext i j
              refine (tB_at (fun q => h2 q.1) (fun q => h1 q.1) _ _ _).trans ?_
              rw [cu, if_neg (fun q => h1 q.1)]
            · refine (tB_at (by omega) (fun q => hj q.2.2) _ _ _).trans ?_
              rw [cu, if_neg (fun q => hj q.2.2)]
            · funext i
              exact tB_at (fun q => hf q.2) (by omega) _ _ _
            · rw [e1, e3]
              refine (tB_n (by decide) _ _ 0 rfl).trans ?_
              rw [Nat.zero_add]
              rfl
            · rw [e1, e3] at hj ⊢
              exact (tB_row (by decide) _ _ 0 j).2 (Nat.zero_le _) (by rw [Nat.zero_add]; exact hj)
        · refine r_aloadN 29 dX11_act_28 rfl rfl ?_
          refine r_iloadN 30 dX11_act_29 rfl rfl ?_
          refine r_iloadN 31 dX11_act_30 rfl rfl ?_
          refine r_cv2 34 dX11_act_31 rfl gX11_358 rfl (by decide) (sh_50 z _) rfl rfl (Nat.le_of_ble_eq_true rfl) (Nat.le_of_ble_eq_true rfl) rfl ?_
          refine m_soundsOf (n := 0) (s := s0) rfl (by omega) rfl hq.2.1 (by omega) ?_
          refine r_goto 57 dX11_act_34 (by decide) ?_
          have e1 : gActL (c 50 0) (c 51) (s0 : Int) a = aL a (c 51 19 s0) := by unfold gActL; rw [if_pos (by omega), Int.toNat_natCast]
          have e2 : gActV (c 50 0) (c 51) (s0 : Int) a x = aV a (c 51 19 s0) (s0 : Int) (c 51 21 s0) x := by unfold gActV; rw [if_pos (by omega), Int.toNat_natCast]
          have e3 : aL a (c 51 19 s0) = sL (c 51 19 s0) := by unfold aL; rw [if_pos (by omega)]
          have e4 : aV a (c 51 19 s0) (s0 : Int) (c 51 21 s0) x = sV (c 51 19 s0) (s0 : Int) x := by unfold aV; rw [if_pos (by omega)]
          rw [e2, e4] at k
          refine r_ret dX11_act_57 rfl (k _ (fun g h1 h2 => ?_) (fun j hj => ?_) (fun f hf => ?_) ?_ (fun j hj => ?_))
          · funext i j
            refine (tB_at (fun q => h2 q.1) (fun q => h1 q.1) _ _ _).trans ?_
            rw [cu, if_neg (fun q => h1 q.1)]
          · refine (tB_at (by omega) (fun q => hj q.2.2) _ _ _).trans ?_
            rw [cu, if_neg (fun q => hj q.2.2)]
          · funext i
            exact tB_at (fun q => hf q.2) (by omega) _ _ _
          · rw [e1, e3]
            refine (tB_n (by decide) _ _ 0 rfl).trans ?_
            rw [Nat.zero_add]
            rfl
          · rw [e1, e3] at hj ⊢
            exact (tB_row (by decide) _ _ 0 j).2 (Nat.zero_le _) (by rw [Nat.zero_add]; exact hj)
      · refine r_iconst 23 dX11_act_22 rfl ?_
        have e1 : gActL (c 50 0) (c 51) s a = [] := by
          unfold gActL
          by_cases y13 : 0 ≤ s ∧ s < c 50 0 2
          · rw [if_pos y13]; unfold aL; rw [if_neg (by omega), if_neg (by omega), if_neg (by omega)]
          · rw [if_neg y13]
        have e2 : gActV (c 50 0) (c 51) s a x = 0 := by
          unfold gActV
          by_cases y13 : 0 ≤ s ∧ s < c 50 0 2
          · rw [if_pos y13]; unfold aV; rw [if_neg (by omega), if_neg (by omega), if_neg (by omega)]
          · rw [if_neg y13]
        rw [e2] at k
        refine r_ret dX11_act_23 rfl (k _ (fun g h1 h2 => ?_) (fun j hj => ?_) (fun f hf => ?_) (by rw [e1]; rfl) (fun j hj => absurd hj (by rw [e1]; exact Nat.not_lt_zero _)))
        · funext i j
          rw [cu, if_neg (fun q => h1 q.1)]
        · rw [cu, if_neg (fun q => hj q.2.2)]
        · rfl
  · refine r_ifeqT 22 0 dX11_act_10 (by decide) (by decide) (by decide) ?_
    rw [show cu c 50 0 66 0 50 0 2 = c 50 0 2 from rfl] at y7
    refine r_iconst 23 dX11_act_22 rfl ?_
    have e1 : gActL (c 50 0) (c 51) s a = [] := by
      unfold gActL
      by_cases y13 : 0 ≤ s ∧ s < c 50 0 2
      · rw [if_pos y13]; unfold aL; rw [if_neg (by omega), if_neg (by omega), if_neg (by omega)]
      · rw [if_neg y13]
    have e2 : gActV (c 50 0) (c 51) s a x = 0 := by
      unfold gActV
      by_cases y13 : 0 ≤ s ∧ s < c 50 0 2
      · rw [if_pos y13]; unfold aV; rw [if_neg (by omega), if_neg (by omega), if_neg (by omega)]
      · rw [if_neg y13]
    rw [e2] at k
    refine r_ret dX11_act_23 rfl (k _ (fun g h1 h2 => ?_) (fun j hj => ?_) (fun f hf => ?_) (by rw [e1]; rfl) (fun j hj => absurd hj (by rw [e1]; exact Nat.not_lt_zero _)))
    · funext i j
      rw [cu, if_neg (fun q => h1 q.1)]
    · rw [cu, if_neg (fun q => hj q.2.2)]
    · rfl
