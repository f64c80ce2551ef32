/-! image, restore of the class -/
theorem TL_fr {c c2 c3 : tC} {t f : Nat} (h : TL c c2 t f) (hF : ∀ g i j, 8 ≤ g → g ≤ 45 → c3 g i j = c2 g i j) : TL c c3 t f := by
  obtain ⟨t1, t2, t3, t4, t5, t6, t7, t8, t9, t10, t11⟩ := h
  refine ⟨fun j hj => ?_, fun i hi j hj => ?_, fun i hi j hj => ?_, fun i hi => ⟨?_, fun g j q1 q2 hj => ?_⟩, fun j hj => ?_, fun g j q1 q2 hj => ?_, ?_, fun g j q1 q2 hj => ?_, fun j hj => ?_, fun j hj => ?_, fun j hj => ?_⟩
  · rw [hF _ _ _ (by omega) (by omega)]; exact t1 j hj
  · rw [hF _ _ _ (by omega) (by omega)]; exact t2 i hi j hj
  · rw [hF _ _ _ (by omega) (by omega)]; exact t3 i hi j hj
  · rw [hF _ _ _ (by omega) (by omega)]; exact (t4 i hi).1
  · rw [hF _ _ _ (by omega) (by omega)]; exact (t4 i hi).2 g j q1 q2 hj
  · rw [hF _ _ _ (by omega) (by omega)]; exact t5 j hj
  · rw [hF _ _ _ (by omega) (by omega)]; exact t6 g j q1 q2 hj
  · rw [hF _ _ _ (by omega) (by omega)]; exact t7
  · rw [hF _ _ _ (by omega) (by omega)]; exact t8 g j q1 q2 hj
  · rw [hF _ _ _ (by omega) (by omega)]; exact t9 j hj
  · rw [hF _ _ _ (by omega) (by omega)]; exact t10 j hj
  · rw [hF _ _ _ (by omega) (by omega)]; exact t11 j hj
theorem SI_fr {c c2 : tC} {s : Nat} (h : SI c s) (h1 : c2 51 44 s = c 51 44 s) (h2 : c2 51 45 s = c 51 45 s) (h3 : c2 51 46 s = c 51 46 s) (h4 : c2 51 47 s = c 51 47 s) (h5 : c2 50 0 2 = c 50 0 2) (h6 : c2 2 s 0 = c 2 s 0) (h7 : c2 2 s 1 = c 2 s 1) : SI c2 s := by
  unfold SI at *
  rw [h1, h2, h3, h4, h5, h6, h7]
  exact h
theorem x_image {z : xZ} {d : Nat} {Q : tQ} {c : tC} {L : tL} {np ns nl : Nat} (h1 : c 8 0 1 = (np : Int)) (h2 : c 8 0 2 = (ns : Int)) (h3 : c 8 0 3 = (nl : Int)) (l1 : np ≤ 12) (l2 : ns ≤ 14) (l3 : nl ≤ 8) (hr : ∀ i : Nat, i < np → c 12 i 4 = 0 ∨ c 12 i 4 = 1) (k : ∀ c2, (∀ g i j, ¬ inT 1 g i → ¬ (g = 0 ∧ i = 0 ∧ j = 7) → c2 g i j = c g i j) → TL c c2 1 0 → c2 0 0 7 = 1 → Q (some (.int (iI (c 8 0 0)))) c2 L) : En z (d + 20) MX10_image Q 0 [some (.ref (xad z 0 0))] [] c L := by
  refine r_aloadN 1 dX10_image_0 rfl rfl ?_
  refine r_getq 4 dX10_image_1 rfl fX10_30 (by decide) (sh_0 z _) rfl ?_
  refine r_aloadN 5 dX10_image_4 rfl rfl ?_
  refine r_getq 8 dX10_image_5 rfl fX10_26 (by decide) (sh_0 z _) rfl ?_
  refine r_cv1 11 dX10_image_8 rfl gX10_361 rfl (by decide) (sh_8 z _) rfl rfl (Nat.le_of_ble_eq_true rfl) (Nat.le_of_ble_eq_true rfl) rfl ?_
  refine x_townLike1 h1 h2 h3 l1 l2 l3 hr (fun c2 g1 g2 => ?_)
  refine r_aloadN 12 dX10_image_11 rfl rfl ?_
  refine r_iconst 13 dX10_image_12 rfl ?_
  refine r_putz 16 dX10_image_13 rfl pX10_51 (by decide) (sh_0 z _) rfl (by decide) ?_
  refine r_aloadN 17 dX10_image_16 rfl rfl ?_
  refine r_getq 20 dX10_image_17 rfl fX10_26 (by decide) (sh_0 z _) rfl ?_
  refine r_geti 23 dX10_image_20 rfl fX10_192 (by decide) (sh_8 z _) rfl ?_
  rw [cu_ap, if_neg (by omega), g1 8 0 0 (by unfold inT PG; omega)]
  refine r_ret dX10_image_23 rfl (k _ (fun g i j n1 n2 => ?_) ?_ ?_)
  · rw [cu_ap, if_neg n2]; exact g1 g i j n1
  · exact TL_fr g2 (fun g i j n1 n2 => by rw [cu_ap, if_neg (by omega)])
  · rw [cu_ap, if_pos ⟨rfl, rfl, rfl⟩]
theorem y_isSource {z : xZ} {d : Nat} {Q : tQ} {c : tC} {L : tL} {v n : Int} (hn : c 8 0 2 = n) (hn14 : 0 ≤ n ∧ n ≤ 14) (hv : inR v) (k1 : (0 ≤ v ∧ v < n) → Q (some (.int (iI 1))) c L) (k0 : ¬ (0 ≤ v ∧ v < n) → Q (some (.int (iI 0))) c L) : En z (d + 1) MX9_isSource Q 0 [some (.ref (xad z 8 0)), some (.int (iI v))] [] c L := by
  have hv1 := hv.1
  have hv2 := hv.2
  refine r_iloadN 1 dX9_isSource_0 rfl rfl ?_
  refine r_iflt 16 4 dX9_isSource_1 rfl (by decide) (by omega) (fun h1 => ?_) (fun h1 => ?_)
  · refine r_iconst 17 dX9_isSource_16 rfl ?_
    exact r_zret dX9_isSource_17 rfl (by decide) (k0 (by omega))
  · refine r_iloadN 5 dX9_isSource_4 rfl rfl ?_
    refine r_aloadN 6 dX9_isSource_5 rfl rfl ?_
    refine r_geti 9 dX9_isSource_6 rfl fX9_18 (by decide) (sh_8 z _) rfl ?_
    refine r_icge 16 12 dX9_isSource_9 rfl (by decide) (by omega) (by omega) (fun h9 => ?_) (fun h9 => ?_)
    · refine r_iconst 17 dX9_isSource_16 rfl ?_
      exact r_zret dX9_isSource_17 rfl (by decide) (k0 (by omega))
    · refine r_iconst 13 dX9_isSource_12 rfl ?_
      refine r_goto 17 dX9_isSource_13 (by decide) ?_
      exact r_zret dX9_isSource_17 rfl (by decide) (k1 (by omega))
theorem x_rest_loop {z : xZ} {d : Nat} {Q : tQ} {L : tL} {c0 : tC} {n v : Int} (hg0 : MG c0) (hh : ∀ s : Nat, s < 8 → SI c0 s) (hn : c0 8 0 2 = n) (hn14 : 0 ≤ n ∧ n ≤ 14) (hv : c0 8 0 0 = v) (kk : ∀ c, (∀ g i j, ¬ (g = 2 ∧ i < 8 ∧ j < 2) → c g i j = c0 g i j) → (∀ s : Nat, s < 8 → ((c0 51 44 s = 2 ∧ n ≤ c0 51 47 s) → c 2 s 0 = -1 ∧ c 2 s 1 = 0) ∧ (¬ (c0 51 44 s = 2 ∧ n ≤ c0 51 47 s) → c 2 s 0 = c0 2 s 0 ∧ c 2 s 1 = c0 2 s 1)) → Q (some (.int (iI v))) c L) : ∀ (k i : Nat) (c : tC), i + k = 8 → (∀ g i j, ¬ (g = 2 ∧ i < 8 ∧ j < 2) → c g i j = c0 g i j) → (∀ s : Nat, s < i → ((c0 51 44 s = 2 ∧ n ≤ c0 51 47 s) → c 2 s 0 = -1 ∧ c 2 s 1 = 0) ∧ (¬ (c0 51 44 s = 2 ∧ n ≤ c0 51 47 s) → c 2 s 0 = c0 2 s 0 ∧ c 2 s 1 = c0 2 s 1)) → (∀ s : Nat, i ≤ s → s < 8 → c 2 s 0 = c0 2 s 0 ∧ c 2 s 1 = c0 2 s 1) → En z (d + 4) MX10_restore Q 27 [some (.ref (xad z 0 0)), some (.int (iI (i : Int)))] [] c L := by
  intro k
  induction k with
  | zero =>
    intro i c hi hF hX hU
    refine r_iloadN 28 dX10_restore_27 rfl rfl ?_
    refine r_bipush 30 dX10_restore_28 rfl (by decide) ?_
    refine r_icge 79 33 dX10_restore_30 rfl (by decide) (by omega) (by omega) (fun h30 => ?_) (fun h30 => ?_)
    · refine r_aloadN 80 dX10_restore_79 rfl rfl ?_
      refine r_getq 83 dX10_restore_80 rfl fX10_26 (by decide) (sh_0 z _) rfl ?_
      refine r_geti 86 dX10_restore_83 rfl fX10_192 (by decide) (sh_8 z _) rfl ?_
      rw [hF 8 0 0 (by omega), hv]
      refine r_ret dX10_restore_86 rfl (kk c hF (fun s hs => hX s (by omega)))
    · exfalso; omega
  | succ k ih =>
    intro i c hi hF hX hU
    have hUi := hU i (by omega) (by omega)
    have hi9 := SI_fr (hh i (by omega)) (hF 51 44 i (by omega)) (hF 51 45 i (by omega)) (hF 51 46 i (by omega)) (hF 51 47 i (by omega)) (hF 50 0 2 (by omega)) hUi.1 hUi.2
    have hi2 := hi9
    have h47 := hF 51 47 i (by omega)
    have hg : MG c := by
      have e : c 50 0 = c0 50 0 := funext fun j => hF 50 0 j (by omega)
      unfold MG RT_rng at *
      rw [e]
      exact hg0
    have hgb := hg
    unfold MG RT_rng at hgb
    refine r_iloadN 28 dX10_restore_27 rfl rfl ?_
    refine r_bipush 30 dX10_restore_28 rfl (by decide) ?_
    refine r_icge 79 33 dX10_restore_30 rfl (by decide) (by omega) (by omega) (fun h30 => ?_) (fun h30 => ?_)
    · exfalso; omega
    · refine r_aloadN 34 dX10_restore_33 rfl rfl ?_
      refine r_getq 37 dX10_restore_34 rfl fX10_11 (by decide) (sh_0 z _) rfl ?_
      refine r_iloadN 38 dX10_restore_37 rfl rfl ?_
      refine r_aald 39 dX10_restore_38 (i) rfl rfl (by decide) (sh_1 z _) rfl (by decide) (by omega) (by omega) ?_
      refine r_cv0 42 dX10_restore_39 rfl gX10_78 rfl (ct_2 (by omega)) (sh_2 z _) rfl rfl (Nat.le_of_ble_eq_true rfl) (Nat.le_of_ble_eq_true rfl) rfl ?_
      refine x_holdsSource hg (s := i) (by omega) hi9 (fun y39 => ?_) (fun y39 => ?_)
      · refine r_ifeqF 45 dX10_restore_42 rfl 73 (by decide) (by decide) (by decide) ?_
        refine r_aloadN 46 dX10_restore_45 rfl rfl ?_
        refine r_getq 49 dX10_restore_46 rfl fX10_26 (by decide) (sh_0 z _) rfl ?_
        refine r_aloadN 50 dX10_restore_49 rfl rfl ?_
        refine r_getq 53 dX10_restore_50 rfl fX10_11 (by decide) (sh_0 z _) rfl ?_
        refine r_iloadN 54 dX10_restore_53 rfl rfl ?_
        refine r_aald 55 dX10_restore_54 (i) rfl rfl (by decide) (sh_1 z _) rfl (by decide) (by omega) (by omega) ?_
        refine r_cv0 58 dX10_restore_55 rfl gX10_111 rfl (ct_2 (by omega)) (sh_2 z _) rfl rfl (Nat.le_of_ble_eq_true rfl) (Nat.le_of_ble_eq_true rfl) rfl ?_
        refine x_content (s := i) (by omega) (fun r55 e55 => ?_)
        refine r_cv1 61 dX10_restore_58 rfl gX10_101 rfl (by decide) (sh_8 z _) rfl rfl (Nat.le_of_ble_eq_true rfl) (Nat.le_of_ble_eq_true rfl) rfl ?_
        refine y_isSource (n := n) (by rw [hF 8 0 2 (by omega), hn]) hn14 (by unfold SI at hi2; constructor <;> omega) (fun y58 => ?_) (fun y58 => ?_)
        · refine r_ifneT 73 0 dX10_restore_61 (by decide) (by decide) (by decide) ?_
          refine r_iinc1 76 dX10_restore_73 rfl rfl (by decide) ?_
          refine r_goto 27 dX10_restore_76 (by decide) ?_
          first
            | (refine ih (i + 1) _ (by omega) (fun g a b n => ?_) (fun s hs => ?_) (fun s h1 h2 => ?_)
               · rw [cu_ap, if_neg (by omega), cu_ap, if_neg (by omega)]; exact hF g a b n
               · by_cases q : s = i
                 · rw [q]
                   refine ⟨fun _ => ⟨by rw [cu_ap, if_neg (by omega), cu_ap, if_pos ⟨rfl, rfl, rfl⟩], by rw [cu_ap, if_pos ⟨rfl, rfl, rfl⟩]⟩, fun w => absurd ?_ w⟩
                   unfold SI at hi2
                   exact ⟨by rw [← hF 51 44 i (by omega)]; exact y39, by omega⟩
                 · rw [cu_ap, if_neg (by omega), cu_ap, if_neg (by omega), cu_ap, if_neg (by omega), cu_ap, if_neg (by omega)]; exact hX s (by omega)
               · rw [cu_ap, if_neg (by omega), cu_ap, if_neg (by omega), cu_ap, if_neg (by omega), cu_ap, if_neg (by omega)]; exact hU s (by omega) h2)
            | (refine ih (i + 1) _ (by omega) hF (fun s hs => ?_) (fun s h1 h2 => hU s (by omega) h2)
               by_cases q : s = i
               · rw [q]
                 refine ⟨fun w => absurd w ?_, fun _ => hU i (by omega) (by omega)⟩
                 intro w
                 have w1 : c 51 44 i = 2 := by rw [hF 51 44 i (by omega)]; exact w.1
                 unfold SI at hi2
                 first
                   | exact y39 w1
                   | omega
               · exact hX s (by omega))
        · refine r_ifneF 64 dX10_restore_61 rfl 73 (by decide) (by decide) (by decide) ?_
          refine r_aloadN 65 dX10_restore_64 rfl rfl ?_
          refine r_getq 68 dX10_restore_65 rfl fX10_11 (by decide) (sh_0 z _) rfl ?_
          refine r_iloadN 69 dX10_restore_68 rfl rfl ?_
          refine r_aald 70 dX10_restore_69 (i) rfl rfl (by decide) (sh_1 z _) rfl (by decide) (by omega) (by omega) ?_
          refine r_cv0 73 dX10_restore_70 rfl gX10_104 rfl (ct_2 (by omega)) (sh_2 z _) rfl rfl (Nat.le_of_ble_eq_true rfl) (Nat.le_of_ble_eq_true rfl) rfl ?_
          refine x_becomeEmpty (by omega) ?_
          refine r_iinc1 76 dX10_restore_73 rfl rfl (by decide) ?_
          refine r_goto 27 dX10_restore_76 (by decide) ?_
          first
            | (refine ih (i + 1) _ (by omega) (fun g a b n => ?_) (fun s hs => ?_) (fun s h1 h2 => ?_)
               · rw [cu_ap, if_neg (by omega), cu_ap, if_neg (by omega)]; exact hF g a b n
               · by_cases q : s = i
                 · rw [q]
                   refine ⟨fun _ => ⟨by rw [cu_ap, if_neg (by omega), cu_ap, if_pos ⟨rfl, rfl, rfl⟩], by rw [cu_ap, if_pos ⟨rfl, rfl, rfl⟩]⟩, fun w => absurd ?_ w⟩
                   unfold SI at hi2
                   exact ⟨by rw [← hF 51 44 i (by omega)]; exact y39, by omega⟩
                 · rw [cu_ap, if_neg (by omega), cu_ap, if_neg (by omega), cu_ap, if_neg (by omega), cu_ap, if_neg (by omega)]; exact hX s (by omega)
               · rw [cu_ap, if_neg (by omega), cu_ap, if_neg (by omega), cu_ap, if_neg (by omega), cu_ap, if_neg (by omega)]; exact hU s (by omega) h2)
            | (refine ih (i + 1) _ (by omega) hF (fun s hs => ?_) (fun s h1 h2 => hU s (by omega) h2)
               by_cases q : s = i
               · rw [q]
                 refine ⟨fun w => absurd w ?_, fun _ => hU i (by omega) (by omega)⟩
                 intro w
                 have w1 : c 51 44 i = 2 := by rw [hF 51 44 i (by omega)]; exact w.1
                 unfold SI at hi2
                 first
                   | exact y39 w1
                   | omega
               · exact hX s (by omega))
      · refine r_ifeqT 73 0 dX10_restore_42 (by decide) (by decide) (by decide) ?_
        refine r_iinc1 76 dX10_restore_73 rfl rfl (by decide) ?_
        refine r_goto 27 dX10_restore_76 (by decide) ?_
        first
          | (refine ih (i + 1) _ (by omega) (fun g a b n => ?_) (fun s hs => ?_) (fun s h1 h2 => ?_)
             · rw [cu_ap, if_neg (by omega), cu_ap, if_neg (by omega)]; exact hF g a b n
             · by_cases q : s = i
               · rw [q]
                 refine ⟨fun _ => ⟨by rw [cu_ap, if_neg (by omega), cu_ap, if_pos ⟨rfl, rfl, rfl⟩], by rw [cu_ap, if_pos ⟨rfl, rfl, rfl⟩]⟩, fun w => absurd ?_ w⟩
                 unfold SI at hi2
                 exact ⟨by rw [← hF 51 44 i (by omega)]; exact y39, by omega⟩
               · rw [cu_ap, if_neg (by omega), cu_ap, if_neg (by omega), cu_ap, if_neg (by omega), cu_ap, if_neg (by omega)]; exact hX s (by omega)
             · rw [cu_ap, if_neg (by omega), cu_ap, if_neg (by omega), cu_ap, if_neg (by omega), cu_ap, if_neg (by omega)]; exact hU s (by omega) h2)
          | (refine ih (i + 1) _ (by omega) hF (fun s hs => ?_) (fun s h1 h2 => hU s (by omega) h2)
             by_cases q : s = i
             · rw [q]
               refine ⟨fun w => absurd w ?_, fun _ => hU i (by omega) (by omega)⟩
               intro w
               have w1 : c 51 44 i = 2 := by rw [hF 51 44 i (by omega)]; exact w.1
               unfold SI at hi2
               first
                 | exact y39 w1
                 | omega
             · exact hX s (by omega))
theorem x_restore {z : xZ} {d : Nat} {Q : tQ} {c : tC} {L : tL} {np ns nl : Nat} (hi7 : c 0 0 7 = 0 ∨ c 0 0 7 = 1) (hg0 : MG c) (hh : ∀ s : Nat, s < 8 → SI c s) (hq : c 0 0 7 = 1 → (c 8 1 1 = (np : Int) ∧ c 8 1 2 = (ns : Int) ∧ c 8 1 3 = (nl : Int)) ∧ (np ≤ 12 ∧ ns ≤ 14 ∧ nl ≤ 8) ∧ ∀ i : Nat, i < np → c 12 (12 + i) 4 = 0 ∨ c 12 (12 + i) 4 = 1) (kb : c 0 0 7 = 0 → Q (some (.int (iI (-6)))) (xRe c 6) L) (k : c 0 0 7 = 1 → ∀ c2, (∀ g i j, ¬ inT 0 g i → ¬ (g = 2 ∧ i < 8 ∧ j < 2) → c2 g i j = c g i j) → TL c c2 0 1 → (∀ s : Nat, s < 8 → ((c 51 44 s = 2 ∧ (ns : Int) ≤ c 51 47 s) → c2 2 s 0 = -1 ∧ c2 2 s 1 = 0) ∧ (¬ (c 51 44 s = 2 ∧ (ns : Int) ≤ c 51 47 s) → c2 2 s 0 = c 2 s 0 ∧ c2 2 s 1 = c 2 s 1)) → Q (some (.int (iI (c 8 1 0)))) c2 L) : En z (d + 20) MX10_restore Q 0 [some (.ref (xad z 0 0)), none] [] c L := by
  refine r_aloadN 1 dX10_restore_0 rfl rfl ?_
  refine r_geti 4 dX10_restore_1 rfl fX10_51 (by decide) (sh_0 z _) rfl ?_
  refine r_ifne 14 7 dX10_restore_4 rfl (by decide) (by omega) (fun h4 => ?_) (fun h4 => ?_)
  · have h71 : c 0 0 7 = 1 := by omega
    have hq9 := hq h71
    refine r_aloadN 15 dX10_restore_14 rfl rfl ?_
    refine r_getq 18 dX10_restore_15 rfl fX10_26 (by decide) (sh_0 z _) rfl ?_
    refine r_aloadN 19 dX10_restore_18 rfl rfl ?_
    refine r_getq 22 dX10_restore_19 rfl fX10_30 (by decide) (sh_0 z _) rfl ?_
    refine r_cv1 25 dX10_restore_22 rfl gX10_361 rfl (by decide) (sh_8 z _) rfl rfl (Nat.le_of_ble_eq_true rfl) (Nat.le_of_ble_eq_true rfl) rfl ?_
    refine x_townLike0 hq9.1.1 hq9.1.2.1 hq9.1.2.2 hq9.2.1.1 hq9.2.1.2.1 hq9.2.1.2.2 hq9.2.2 (fun c2 g1 g2 => ?_)
    refine r_iconst 26 dX10_restore_25 rfl ?_
    refine r_istore1 27 dX10_restore_26 rfl rfl (by decide) ?_
    have hu : ∀ j, c2 50 0 j = c 50 0 j := fun j => g1 50 0 j (by unfold inT PG; omega)
    have hu1 : ∀ f j, c2 51 f j = c 51 f j := fun f j => g1 51 f j (by unfold inT PG; omega)
    have hu2 : ∀ i j, c2 2 i j = c 2 i j := fun i j => g1 2 i j (by unfold inT PG; omega)
    have hge : c2 50 0 = c 50 0 := funext hu
    have hg2 : MG c2 := by
      unfold MG RT_rng at *
      rw [hge]
      exact hg0
    refine x_rest_loop (c0 := c2) (n := (ns : Int)) (v := c 8 1 0) hg2 (fun s hs => SI_fr (hh s hs) (hu1 _ _) (hu1 _ _) (hu1 _ _) (hu1 _ _) (hu 2) (hu2 _ _) (hu2 _ _)) (by rw [g2.1 2 (by omega)]; exact hq9.1.2.1) (by omega) (g2.1 0 (by omega)) (fun c3 hF hX => ?_) 8 0 c2 rfl (fun _ _ _ _ => rfl) (fun s hs => absurd hs (Nat.not_lt_zero _)) (fun _ _ _ => ⟨rfl, rfl⟩)
    refine k h71 c3 (fun g i j n1 n2 => (hF g i j n2).trans (g1 g i j n1)) ?_ (fun s hs => ?_)
    · exact TL_fr g2 (fun g i j n1 n2 => hF g i j (by omega))
    · have := hX s hs
      rw [hu1 44 s, hu1 47 s, hu2 s 0, hu2 s 1] at this
      exact this
  · refine r_aloadN 8 dX10_restore_7 rfl rfl ?_
    refine r_bipush 10 dX10_restore_8 rfl (by decide) ?_
    refine r_cv1 13 dX10_restore_10 rfl gX10_60 rfl (by decide) (sh_0 z _) rfl rfl (Nat.le_of_ble_eq_true rfl) (Nat.le_of_ble_eq_true rfl) rfl ?_
    refine x_refuse (k0 := 6) (by decide) (by decide) ?_
    exact r_ret dX10_restore_13 rfl (kb (by omega))
