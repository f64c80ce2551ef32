/-! ===== both answer alike, and the relation stays: what is only asked ===== -/
theorem RR_refK {c c3 : tC} {L L2 : tL} (w : Nat) (h : RR c L) (hX : RX c3) (hf : FLT c3) (hF : ∀ g i j, ¬ wrT g i j → c3 g i j = xRe c w g i j) (h2 : c 50 0 2 ≤ c3 50 0 2) (h4 : ∀ s i, s < 8 → L2 3 s i = L 3 s i) (h5 : ∀ i, L2 52 48 i = L 52 48 i) : RR (mRe c3 w) L2 := by
  obtain ⟨a1, a2, a3, a4, a5, a6⟩ := h
  have hG : ∀ g i j, ¬ wrT g i j → g ≠ 35 → ¬ (g = 51 ∧ i = 10) → mRe c3 w g i j = c g i j := fun g i j n1 n2 n3 => (mRe_ne n3).trans ((hF g i j n1).trans (xRe_ne n2))
  refine ⟨RX_mRe w hX, IM_fr a2 (fun g i j n => hG g i j ?_ ?_ ?_) (hG _ _ _ ?_ ?_ ?_) (fun j n1 n2 => hG _ _ _ ?_ ?_ ?_) (fun j => hG _ _ _ ?_ ?_ ?_), SH_fr a3 (fun s j n1 n2 => hG _ _ _ ?_ ?_ ?_) (fun f s n1 n2 n3 => hG _ _ _ ?_ ?_ ?_) (by rw [mRe_ne (by omega)]; exact h2) h4 h5, fun k n1 n2 => ?_, ?_, ?_⟩
  · unfold inT at n; unfold wrT inT; unfold PG at *; omega
  · unfold inT PG at n; omega
  · unfold inT PG at n; omega
  · unfold wrT inT PG; omega
  · omega
  · omega
  · unfold wrT inT PG; omega
  · omega
  · omega
  · unfold wrT inT PG; omega
  · omega
  · omega
  · unfold wrT inT PG; omega
  · omega
  · omega
  · unfold wrT inT PG; omega
  · omega
  · omega
  · rw [mRe_ne (by omega), mRe_at, hF 35 0 k (by unfold wrT inT PG; omega), hF 51 10 w (by unfold wrT inT PG; omega), hF 51 10 k (by unfold wrT inT PG; omega), xRe_at, xRe_ne (by omega), xRe_ne (by omega)]
    have := a4 k n1 n2
    by_cases q : w = k
    · have hk := a4 w (by omega) (by omega)
      rw [if_pos (by omega), if_pos (by omega), hk]
    · rw [if_neg (by omega), if_neg (by omega), this]
  · obtain ⟨t1, t2, t3⟩ := a5
    have e1 := hG 33 0 4 (by unfold wrT inT PG; omega) (by omega) (by omega)
    have e2 := hG 50 0 66 (by unfold wrT inT PG; omega) (by omega) (by omega)
    refine ⟨by rw [e1, e2]; exact t1, by rw [e2]; exact t2, fun j n1 n2 => ?_⟩
    rw [hG 34 0 j (by unfold wrT inT PG; omega) (by omega) (by omega), hG 51 65 j (by unfold wrT inT PG; omega) (by omega) (by omega)]
    exact t3 j n1 (by rw [← e2]; exact n2)
  · unfold FLT at *
    rw [mRe_ne (by omega), mRe_ne (by omega)]
    exact hf
theorem RR_n {c : tC} {L : tL} (h : RR c L) : ∃ n : Nat, c 50 0 2 = (n : Int) := Int.eq_ofNat_of_zero_le (R0_rng h.1).2.2.1.1
theorem RX_sfr {c c2 : tC} (hF : ∀ g i j, ¬ (g = 5 ∨ g = 7 ∨ (g = 51 ∧ i = 64)) → c2 g i j = c g i j) (h : RX c) : RX c2 := RT_gen (by omega) (fun g i j n => hF g i j (by unfold inT PG at n; omega)) (fun j _ => hF _ _ _ (by omega)) (fun f j n1 n2 _ => hF _ _ _ (by omega)) h
theorem pr_sounds {z : xZ} {d : Nat} {Q : tQ} {c : tC} {L : tL} {s h : Int}  (hRR : RR c L) (hs : inR s) (hh : inR h)  (k : ∀ r c1 (L1 : tL), (∀ (d2 : Nat) (Q2 : tQ), (∀ c2 L2, RR c2 L2 → Q2 (some (.int (iI r))) c2 L2) → En z (d2 + 20) MX11_sounds Q2 0 [some (.ref (xad z 50 0)), some (.int (iI s)), some (.int (iI h))] [] c1 L1) → Q (some (.int (iI r))) c1 L1) : En z (d + 20) MX10_sounds Q 0 [some (.ref (xad z 0 0)), some (.int (iI s)), some (.int (iI h))] [] c L := by
  have hR := hRR.1
  obtain ⟨n, hn⟩ := RR_n hRR
  refine x_sounds hR hn hs hh (fun r w e => k r _ _ (fun d2 Q2 k2 => ?_))
  have hR1 := RX_xRe w hR
  have hn1 : xRe c w 50 0 2 = (n : Int) := (xRe_ne (by decide)).trans hn
  refine m_sounds hR1 hn1 hs hh (fun r2 w2 e2 => ?_)
  try rw [xRe_g (g := 51) (by decide)] at e2
  try rw [xRe_g (g := 50) (by decide)] at e2
  obtain ⟨h1, h2⟩ := Prod.mk.inj (e2.trans e.symm)
  subst h1
  subst h2
  exact k2 _ _ (RR_ref _ hRR)
theorem pr_reach {z : xZ} {d : Nat} {Q : tQ} {c : tC} {L : tL} {s v : Int}  (hRR : RR c L) (hs : inR s) (hv : inR v)  (k : ∀ r c1 (L1 : tL), (∀ (d2 : Nat) (Q2 : tQ), (∀ c2 L2, RR c2 L2 → Q2 (some (.int (iI r))) c2 L2) → En z (d2 + 20) MX11_reach Q2 0 [some (.ref (xad z 50 0)), some (.int (iI s)), some (.int (iI v))] [] c1 L1) → Q (some (.int (iI r))) c1 L1) : En z (d + 20) MX10_reach Q 0 [some (.ref (xad z 0 0)), some (.int (iI s)), some (.int (iI v))] [] c L := by
  have hR := hRR.1
  obtain ⟨n, hn⟩ := RR_n hRR
  refine x_reach hR hn hs hv (fun r w e => k r _ _ (fun d2 Q2 k2 => ?_))
  have hR1 := RX_xRe w hR
  have hn1 : xRe c w 50 0 2 = (n : Int) := (xRe_ne (by decide)).trans hn
  refine m_reach hR1 hn1 hs hv (fun r2 w2 e2 => ?_)
  try rw [xRe_g (g := 51) (by decide)] at e2
  try rw [xRe_g (g := 50) (by decide)] at e2
  obtain ⟨h1, h2⟩ := Prod.mk.inj (e2.trans e.symm)
  subst h1
  subst h2
  exact k2 _ _ (RR_ref _ hRR)
theorem pr_needs {z : xZ} {d : Nat} {Q : tQ} {c : tC} {L : tL} {p t : Int}  (hRR : RR c L) (hp : inR p) (ht : inR t)  (k : ∀ r c1 (L1 : tL), (∀ (d2 : Nat) (Q2 : tQ), (∀ c2 L2, RR c2 L2 → Q2 (some (.int (iI r))) c2 L2) → En z (d2 + 20) MX11_needs Q2 0 [some (.ref (xad z 50 0)), some (.int (iI p)), some (.int (iI t))] [] c1 L1) → Q (some (.int (iI r))) c1 L1) : En z (d + 20) MX10_needs Q 0 [some (.ref (xad z 0 0)), some (.int (iI p)), some (.int (iI t))] [] c L := by
  have hR := hRR.1
  obtain ⟨n, hn⟩ := RR_n hRR
  refine x_needs hR hn hp ht (fun r w e => k r _ _ (fun d2 Q2 k2 => ?_))
  have hR1 := RX_xRe w hR
  have hn1 : xRe c w 50 0 2 = (n : Int) := (xRe_ne (by decide)).trans hn
  refine m_needs hR1 hn1 hp ht (fun r2 w2 e2 => ?_)
  try rw [xRe_g (g := 51) (by decide)] at e2
  try rw [xRe_g (g := 50) (by decide)] at e2
  obtain ⟨h1, h2⟩ := Prod.mk.inj (e2.trans e.symm)
  subst h1
  subst h2
  exact k2 _ _ (RR_ref _ hRR)
theorem pr_hears {z : xZ} {d : Nat} {Q : tQ} {c : tC} {L : tL} {p h : Int}  (hRR : RR c L) (hp : inR p) (hh : inR h)  (k : ∀ r c1 (L1 : tL), (∀ (d2 : Nat) (Q2 : tQ), (∀ c2 L2, RR c2 L2 → Q2 (some (.int (iI r))) c2 L2) → En z (d2 + 20) MX11_hears Q2 0 [some (.ref (xad z 50 0)), some (.int (iI p)), some (.int (iI h))] [] c1 L1) → Q (some (.int (iI r))) c1 L1) : En z (d + 20) MX10_hears Q 0 [some (.ref (xad z 0 0)), some (.int (iI p)), some (.int (iI h))] [] c L := by
  have hR := hRR.1
  obtain ⟨n, hn⟩ := RR_n hRR
  refine x_hears hR hn hp hh (fun r w e => k r _ _ (fun d2 Q2 k2 => ?_))
  have hR1 := RX_xRe w hR
  have hn1 : xRe c w 50 0 2 = (n : Int) := (xRe_ne (by decide)).trans hn
  refine m_hears hR1 hn1 hp hh (fun r2 w2 e2 => ?_)
  try rw [xRe_g (g := 51) (by decide)] at e2
  try rw [xRe_g (g := 50) (by decide)] at e2
  obtain ⟨h1, h2⟩ := Prod.mk.inj (e2.trans e.symm)
  subst h1
  subst h2
  exact k2 _ _ (RR_ref _ hRR)
theorem pr_loudest {z : xZ} {d : Nat} {Q : tQ} {c : tC} {L : tL} {p h : Int}  (hRR : RR c L) (hp : inR p) (hh : inR h)  (k : ∀ r c1 (L1 : tL), (∀ (d2 : Nat) (Q2 : tQ), (∀ c2 L2, RR c2 L2 → Q2 (some (.int (iI r))) c2 L2) → En z (d2 + 20) MX11_loudest Q2 0 [some (.ref (xad z 50 0)), some (.int (iI p)), some (.int (iI h)), none, none, none] [] c1 L1) → Q (some (.int (iI r))) c1 L1) : En z (d + 20) MX10_loudest Q 0 [some (.ref (xad z 0 0)), some (.int (iI p)), some (.int (iI h))] [] c L := by
  have hR := hRR.1
  obtain ⟨n, hn⟩ := RR_n hRR
  refine x_loudest hR hn hp hh (fun r w e => k r _ _ (fun d2 Q2 k2 => ?_))
  have hR1 := RX_xRe w hR
  have hn1 : xRe c w 50 0 2 = (n : Int) := (xRe_ne (by decide)).trans hn
  refine m_loudest hR1 hn1 hp hh (fun r2 w2 e2 => ?_)
  try rw [xRe_g (g := 51) (by decide)] at e2
  try rw [xRe_g (g := 50) (by decide)] at e2
  obtain ⟨h1, h2⟩ := Prod.mk.inj (e2.trans e.symm)
  subst h1
  subst h2
  exact k2 _ _ (RR_ref _ hRR)
theorem pr_could {z : xZ} {d : Nat} {Q : tQ} {c : tC} {L : tL} {p t : Int}  (hRR : RR c L) (hp : inR p) (ht : inR t)  (k : ∀ r c1 (L1 : tL), (∀ (d2 : Nat) (Q2 : tQ), (∀ c2 L2, RR c2 L2 → Q2 (some (.int (iI r))) c2 L2) → En z (d2 + 20) MX11_could Q2 0 [some (.ref (xad z 50 0)), some (.int (iI p)), some (.int (iI t)), none, none] [] c1 L1) → Q (some (.int (iI r))) c1 L1) : En z (d + 20) MX10_could Q 0 [some (.ref (xad z 0 0)), some (.int (iI p)), some (.int (iI t))] [] c L := by
  have hR := hRR.1
  obtain ⟨n, hn⟩ := RR_n hRR
  refine x_could hR hn hp ht (fun r w e => k r _ _ (fun d2 Q2 k2 => ?_))
  have hR1 := RX_xRe w hR
  have hn1 : xRe c w 50 0 2 = (n : Int) := (xRe_ne (by decide)).trans hn
  refine m_could hR1 hn1 hp ht (fun r2 w2 e2 => ?_)
  try rw [xRe_g (g := 51) (by decide)] at e2
  try rw [xRe_g (g := 50) (by decide)] at e2
  obtain ⟨h1, h2⟩ := Prod.mk.inj (e2.trans e.symm)
  subst h1
  subst h2
  exact k2 _ _ (RR_ref _ hRR)
theorem pr_lacks {z : xZ} {d : Nat} {Q : tQ} {c : tC} {L : tL} {p : Int}  (hRR : RR c L) (hp : inR p)  (k : ∀ r c1 (L1 : tL), (∀ (d2 : Nat) (Q2 : tQ), (∀ c2 L2, RR c2 L2 → Q2 (some (.int (iI r))) c2 L2) → En z (d2 + 20) MX11_lacks Q2 0 [some (.ref (xad z 50 0)), some (.int (iI p)), none, none, none] [] c1 L1) → Q (some (.int (iI r))) c1 L1) : En z (d + 20) MX10_lacks Q 0 [some (.ref (xad z 0 0)), some (.int (iI p))] [] c L := by
  have hR := hRR.1
  obtain ⟨n, hn⟩ := RR_n hRR
  refine x_lacks hR hn hp (fun r w e => k r _ _ (fun d2 Q2 k2 => ?_))
  have hR1 := RX_xRe w hR
  have hn1 : xRe c w 50 0 2 = (n : Int) := (xRe_ne (by decide)).trans hn
  refine m_lacks hR1 hn1 hp (fun r2 w2 e2 => ?_)
  try rw [xRe_g (g := 51) (by decide)] at e2
  try rw [xRe_g (g := 50) (by decide)] at e2
  obtain ⟨h1, h2⟩ := Prod.mk.inj (e2.trans e.symm)
  subst h1
  subst h2
  exact k2 _ _ (RR_ref _ hRR)
theorem pr_told {z : xZ} {d : Nat} {Q : tQ} {c : tC} {L : tL} {w0 : Int}  (hRR : RR c L) (hw0 : inR w0)  (k : ∀ r c1 (L1 : tL), (∀ (d2 : Nat) (Q2 : tQ), (∀ c2 L2, RR c2 L2 → Q2 (some (.int (iI r))) c2 L2) → En z (d2 + 20) MX11_told Q2 0 [some (.ref (xad z 50 0)), some (.int (iI w0)), none, none] [] c1 L1) → Q (some (.int (iI r))) c1 L1) : En z (d + 20) MX10_told Q 0 [some (.ref (xad z 0 0)), some (.int (iI w0))] [] c L := by
  have hR := hRR.1
  obtain ⟨n, hn⟩ := RR_n hRR
  refine x_told hR hn hw0 (fun r w e => k r _ _ (fun d2 Q2 k2 => ?_))
  have hR1 := RX_xRe w hR
  have hn1 : xRe c w 50 0 2 = (n : Int) := (xRe_ne (by decide)).trans hn
  refine m_told hR1 hn1 hw0 (fun r2 w2 e2 => ?_)
  try rw [xRe_g (g := 51) (by decide)] at e2
  try rw [xRe_g (g := 50) (by decide)] at e2
  obtain ⟨h1, h2⟩ := Prod.mk.inj (e2.trans e.symm)
  subst h1
  subst h2
  exact k2 _ _ (RR_ref _ hRR)
theorem pr_beats {z : xZ} {d : Nat} {Q : tQ} {c : tC} {L : tL} {p h : Int}  (hRR : RR c L) (hp : inR p) (hh : inR h)  (k : ∀ r c1 (L1 : tL), (∀ (d2 : Nat) (Q2 : tQ), (∀ c2 L2, RR c2 L2 → Q2 (some (.int (iI r))) c2 L2) → En z (d2 + 20) MX11_beats Q2 0 [some (.ref (xad z 50 0)), some (.int (iI p)), some (.int (iI h)), none, none, none, none] [] c1 L1) → Q (some (.int (iI r))) c1 L1) : En z (d + 20) MX10_beats Q 0 [some (.ref (xad z 0 0)), some (.int (iI p)), some (.int (iI h))] [] c L := by
  have hR := hRR.1
  obtain ⟨n, hn⟩ := RR_n hRR
  refine x_beats hR hn hp hh (fun r w e => k r _ _ (fun d2 Q2 k2 => ?_))
  have hR1 := RX_xRe w hR
  have hn1 : xRe c w 50 0 2 = (n : Int) := (xRe_ne (by decide)).trans hn
  refine m_beats hR1 hn1 hp hh (fun r2 w2 e2 => ?_)
  try rw [xRe_g (g := 51) (by decide)] at e2
  try rw [xRe_g (g := 50) (by decide)] at e2
  obtain ⟨h1, h2⟩ := Prod.mk.inj (e2.trans e.symm)
  subst h1
  subst h2
  exact k2 _ _ (RR_ref _ hRR)
theorem pr_meter {z : xZ} {d : Nat} {Q : tQ} {c : tC} {L : tL} {v lo a b : Int}  (hRR : RR c L) (hv : inR v) (hlo : inR lo) (ha : inR a) (hb : inR b)  (k : ∀ r c1 (L1 : tL), (∀ (d2 : Nat) (Q2 : tQ), (∀ c2 L2, RR c2 L2 → Q2 (some (.int (iI r))) c2 L2) → En z (d2 + 20) MX11_meter Q2 0 [some (.ref (xad z 50 0)), some (.int (iI v)), some (.int (iI lo)), some (.int (iI a)), some (.int (iI b))] [] c1 L1) → Q (some (.int (iI r))) c1 L1) : En z (d + 20) MX10_meter Q 0 [some (.ref (xad z 0 0)), some (.int (iI v)), some (.int (iI lo)), some (.int (iI a)), some (.int (iI b))] [] c L := by
  have hR := hRR.1
  obtain ⟨n, hn⟩ := RR_n hRR
  refine x_meter hR hn hv hlo ha hb (fun r w e => k r _ _ (fun d2 Q2 k2 => ?_))
  have hR1 := RX_xRe w hR
  have hn1 : xRe c w 50 0 2 = (n : Int) := (xRe_ne (by decide)).trans hn
  refine m_meter hR1 hn1 hv hlo ha hb (fun r2 w2 e2 => ?_)
  try rw [xRe_g (g := 51) (by decide)] at e2
  try rw [xRe_g (g := 50) (by decide)] at e2
  obtain ⟨h1, h2⟩ := Prod.mk.inj (e2.trans e.symm)
  subst h1
  subst h2
  exact k2 _ _ (RR_ref _ hRR)
theorem pr_place {z : xZ} {d : Nat} {Q : tQ} {c : tC} {L : tL} {lo a b : Int}  (hRR : RR c L) (hlo : inR lo) (ha : inR a) (hb : inR b)  (k : ∀ r c1 (L1 : tL), (∀ (d2 : Nat) (Q2 : tQ), (∀ c2 L2, RR c2 L2 → Q2 (some (.int (iI r))) c2 L2) → En z (d2 + 20) MX11_place Q2 0 [some (.ref (xad z 50 0)), some (.int (iI lo)), some (.int (iI a)), some (.int (iI b)), none, none, none, none, none] [] c1 L1) → Q (some (.int (iI r))) c1 L1) : En z (d + 20) MX10_place Q 0 [some (.ref (xad z 0 0)), some (.int (iI lo)), some (.int (iI a)), some (.int (iI b))] [] c L := by
  have hR := hRR.1
  obtain ⟨n, hn⟩ := RR_n hRR
  refine x_place hR hn hlo ha hb (fun r w e => k r _ _ (fun d2 Q2 k2 => ?_))
  have hR1 := RX_xRe w hR
  have hn1 : xRe c w 50 0 2 = (n : Int) := (xRe_ne (by decide)).trans hn
  refine m_place hR1 hn1 hlo ha hb (fun r2 w2 e2 => ?_)
  try rw [xRe_g (g := 51) (by decide)] at e2
  try rw [xRe_g (g := 50) (by decide)] at e2
  obtain ⟨h1, h2⟩ := Prod.mk.inj (e2.trans e.symm)
  subst h1
  subst h2
  exact k2 _ _ (RR_ref _ hRR)
theorem pr_bed {z : xZ} {d : Nat} {Q : tQ} {c : tC} {L : tL} {p a b : Int}  (hRR : RR c L) (hp : inR p) (ha : inR a) (hb : inR b)  (k : ∀ r c1 (L1 : tL), (∀ (d2 : Nat) (Q2 : tQ), (∀ c2 L2, RR c2 L2 → Q2 (some (.int (iI r))) c2 L2) → En z (d2 + 20) MX11_bed Q2 0 [some (.ref (xad z 50 0)), some (.int (iI p)), some (.int (iI a)), some (.int (iI b)), none, none, none, none, none, none, none] [] c1 L1) → Q (some (.int (iI r))) c1 L1) : En z (d + 20) MX10_bed Q 0 [some (.ref (xad z 0 0)), some (.int (iI p)), some (.int (iI a)), some (.int (iI b))] [] c L := by
  have hR := hRR.1
  obtain ⟨n, hn⟩ := RR_n hRR
  refine x_bed hR hn hp ha hb (fun r w e => k r _ _ (fun d2 Q2 k2 => ?_))
  have hR1 := RX_xRe w hR
  have hn1 : xRe c w 50 0 2 = (n : Int) := (xRe_ne (by decide)).trans hn
  refine m_bed hR1 hn1 hp ha hb (fun r2 w2 e2 => ?_)
  try rw [xRe_g (g := 51) (by decide)] at e2
  try rw [xRe_g (g := 50) (by decide)] at e2
  obtain ⟨h1, h2⟩ := Prod.mk.inj (e2.trans e.symm)
  subst h1
  subst h2
  exact k2 _ _ (RR_ref _ hRR)
theorem pr_lots {z : xZ} {d : Nat} {Q : tQ} {c : tC} {L : tL} {a b : Int}  (hRR : RR c L) (ha : inR a) (hb : inR b)  (k : ∀ r c1 (L1 : tL), (∀ (d2 : Nat) (Q2 : tQ), (∀ c2 L2, RR c2 L2 → Q2 (some (.int (iI r))) c2 L2) → En z (d2 + 20) MX11_lots Q2 0 [some (.ref (xad z 50 0)), some (.int (iI a)), some (.int (iI b)), none, none, none, none, none] [] c1 L1) → Q (some (.int (iI r))) c1 L1) : En z (d + 20) MX10_lots Q 0 [some (.ref (xad z 0 0)), some (.int (iI a)), some (.int (iI b)), none, none, none] [] c L := by
  have hR := hRR.1
  obtain ⟨n, hn⟩ := RR_n hRR
  refine x_lots  ha hb (fun r w e => k r _ _ (fun d2 Q2 k2 => ?_))
  have hR1 := RX_xRe w hR
  have hn1 : xRe c w 50 0 2 = (n : Int) := (xRe_ne (by decide)).trans hn
  refine m_lots  ha hb (fun r2 w2 e2 => ?_)
  try rw [xRe_g (g := 51) (by decide)] at e2
  try rw [xRe_g (g := 50) (by decide)] at e2
  obtain ⟨h1, h2⟩ := Prod.mk.inj (e2.trans e.symm)
  subst h1
  subst h2
  exact k2 _ _ (RR_ref _ hRR)
theorem pr_need {z : xZ} {d : Nat} {Q : tQ} {c : tC} {L : tL} {v : Int}  (hRR : RR c L) (hv : inR v)  (k : ∀ r c1 (L1 : tL), (∀ (d2 : Nat) (Q2 : tQ), (∀ c2 L2, RR c2 L2 → Q2 (some (.int (iI r))) c2 L2) → En z (d2 + 20) MX11_need_ Q2 0 [some (.ref (xad z 50 0)), some (.int (iI v)), none] [] c1 L1) → Q (some (.int (iI r))) c1 L1) : En z (d + 20) MX10_need Q 0 [some (.ref (xad z 0 0)), some (.int (iI v))] [] c L := by
  have hR := hRR.1
  obtain ⟨n, hn⟩ := RR_n hRR
  refine x_need hR hn hv (fun r w e => k r _ _ (fun d2 Q2 k2 => ?_))
  have hR1 := RX_xRe w hR
  have hn1 : xRe c w 50 0 2 = (n : Int) := (xRe_ne (by decide)).trans hn
  refine m_need_ hR1 hn1 hv (fun r2 w2 e2 => ?_)
  try rw [xRe_g (g := 51) (by decide)] at e2
  try rw [xRe_g (g := 50) (by decide)] at e2
  obtain ⟨h1, h2⟩ := Prod.mk.inj (e2.trans e.symm)
  subst h1
  subst h2
  exact k2 _ _ (RR_ref _ hRR)
theorem pr_halve {z : xZ} {d : Nat} {Q : tQ} {c : tC} {L : tL} {v : Int}  (hRR : RR c L) (hv : inR v)  (k : ∀ r c1 (L1 : tL), (∀ (d2 : Nat) (Q2 : tQ), (∀ c2 L2, RR c2 L2 → Q2 (some (.int (iI r))) c2 L2) → En z (d2 + 20) MX11_halve Q2 0 [some (.ref (xad z 50 0)), some (.int (iI v)), none, none] [] c1 L1) → Q (some (.int (iI r))) c1 L1) : En z (d + 20) MX10_halve Q 0 [some (.ref (xad z 0 0)), some (.int (iI v))] [] c L := by
  have hR := hRR.1
  obtain ⟨n, hn⟩ := RR_n hRR
  refine x_halve hR hn hv (fun r w e => k r _ _ (fun d2 Q2 k2 => ?_))
  have hR1 := RX_xRe w hR
  have hn1 : xRe c w 50 0 2 = (n : Int) := (xRe_ne (by decide)).trans hn
  refine m_halve hR1 hn1 hv (fun r2 w2 e2 => ?_)
  try rw [xRe_g (g := 51) (by decide)] at e2
  try rw [xRe_g (g := 50) (by decide)] at e2
  obtain ⟨h1, h2⟩ := Prod.mk.inj (e2.trans e.symm)
  subst h1
  subst h2
  exact k2 _ _ (RR_ref _ hRR)
theorem pr_law {z : xZ} {d : Nat} {Q : tQ} {c : tC} {L : tL} {v : Int}  (hRR : RR c L) (hv : inR v)  (k : ∀ r c1 (L1 : tL), (∀ (d2 : Nat) (Q2 : tQ), (∀ c2 L2, RR c2 L2 → Q2 (some (.int (iI r))) c2 L2) → En z (d2 + 20) MX11_law Q2 0 [some (.ref (xad z 50 0)), some (.int (iI v))] [] c1 L1) → Q (some (.int (iI r))) c1 L1) : En z (d + 20) MX10_law Q 0 [some (.ref (xad z 0 0)), some (.int (iI v))] [] c L := by
  have hR := hRR.1
  obtain ⟨n, hn⟩ := RR_n hRR
  refine x_law hR hn hv (fun r w e => k r _ _ (fun d2 Q2 k2 => ?_))
  have hR1 := RX_xRe w hR
  have hn1 : xRe c w 50 0 2 = (n : Int) := (xRe_ne (by decide)).trans hn
  refine m_law  hv (fun r2 w2 e2 => ?_)
  try rw [xRe_g (g := 51) (by decide)] at e2
  try rw [xRe_g (g := 50) (by decide)] at e2
  obtain ⟨h1, h2⟩ := Prod.mk.inj (e2.trans e.symm)
  subst h1
  subst h2
  exact k2 _ _ (RR_ref _ hRR)
theorem pr_status {z : xZ} {d : Nat} {Q : tQ} {c : tC} {L : tL} {v : Int}  (hRR : RR c L) (hv : inR v)  (k : ∀ r c1 (L1 : tL), (∀ (d2 : Nat) (Q2 : tQ), (∀ c2 L2, RR c2 L2 → Q2 (some (.int (iI r))) c2 L2) → En z (d2 + 20) MX11_status Q2 0 [some (.ref (xad z 50 0)), some (.int (iI v))] [] c1 L1) → Q (some (.int (iI r))) c1 L1) : En z (d + 20) MX10_status Q 0 [some (.ref (xad z 0 0)), some (.int (iI v))] [] c L := by
  have hR := hRR.1
  obtain ⟨n, hn⟩ := RR_n hRR
  refine x_status hR hRR.2.2.2.2.1 hRR.2.2.2.1 hv (fun r w e => k r _ _ (fun d2 Q2 k2 => ?_))
  have hR1 := RX_xRe w hR
  have hn1 : xRe c w 50 0 2 = (n : Int) := (xRe_ne (by decide)).trans hn
  refine m_status  hv (fun r2 w2 e2 => ?_)
  try rw [xRe_g (g := 51) (by decide)] at e2
  try rw [xRe_g (g := 50) (by decide)] at e2
  obtain ⟨h1, h2⟩ := Prod.mk.inj (e2.trans e.symm)
  subst h1
  subst h2
  exact k2 _ _ (RR_ref _ hRR)
theorem pr_trace {z : xZ} {d : Nat} {Q : tQ} {c : tC} {L : tL} {i : Int}  (hRR : RR c L) (hi : inR i)  (k : ∀ r c1 (L1 : tL), (∀ (d2 : Nat) (Q2 : tQ), (∀ c2 L2, RR c2 L2 → Q2 (some (.int (iI r))) c2 L2) → En z (d2 + 20) MX11_trace Q2 0 [some (.ref (xad z 50 0)), some (.int (iI i))] [] c1 L1) → Q (some (.int (iI r))) c1 L1) : En z (d + 20) MX10_trace Q 0 [some (.ref (xad z 0 0)), some (.int (iI i))] [] c L := by
  have hR := hRR.1
  obtain ⟨n, hn⟩ := RR_n hRR
  refine x_trace hRR.2.2.2.2.1 hi (fun r w e => k r _ _ (fun d2 Q2 k2 => ?_))
  have hR1 := RX_xRe w hR
  have hS1 : SH (xRe c w) L := SH_fr hRR.2.2.1 (fun _ _ _ _ => xRe_ne (by decide)) (fun _ _ _ _ _ => xRe_ne (by decide)) (by rw [xRe_ne (by decide)]; exact Int.le_refl _) (fun _ _ _ => rfl) (fun _ => rfl)
  have hT1 : TRC (xRe c w) := by
    obtain ⟨t1, t2, t3⟩ := hRR.2.2.2.2.1
    refine ⟨?_, ?_, fun j n1 n2 => ?_⟩
    · rw [xRe_ne (by decide), xRe_ne (by decide)]; exact t1
    · rw [xRe_ne (by decide)]; exact t2
    · rw [xRe_ne (by decide)] at n2
      rw [xRe_ne (by decide), xRe_ne (by decide)]; exact t3 j n1 n2
  refine m_trace hT1 hi (fun r2 w2 e2 => ?_)
  try rw [xRe_g (g := 51) (by decide)] at e2
  try rw [xRe_g (g := 50) (by decide)] at e2
  obtain ⟨h1, h2⟩ := Prod.mk.inj (e2.trans e.symm)
  subst h1
  subst h2
  exact k2 _ _ (RR_ref _ hRR)
theorem pr_holds {z : xZ} {d : Nat} {Q : tQ} {c : tC} {L : tL} {s : Int}  (hRR : RR c L) (hs : inR s)  (k : ∀ r c1 (L1 : tL), (∀ (d2 : Nat) (Q2 : tQ), (∀ c2 L2, RR c2 L2 → Q2 (some (.int (iI r))) c2 L2) → En z (d2 + 20) MX11_holds Q2 0 [some (.ref (xad z 50 0)), some (.int (iI s))] [] c1 L1) → Q (some (.int (iI r))) c1 L1) : En z (d + 20) MX10_holds Q 0 [some (.ref (xad z 0 0)), some (.int (iI s))] [] c L := by
  have hR := hRR.1
  obtain ⟨n, hn⟩ := RR_n hRR
  refine x_holds hRR.2.2.1 hs (fun r w e => k r _ _ (fun d2 Q2 k2 => ?_))
  have hR1 := RX_xRe w hR
  have hS1 : SH (xRe c w) L := SH_fr hRR.2.2.1 (fun _ _ _ _ => xRe_ne (by decide)) (fun _ _ _ _ _ => xRe_ne (by decide)) (by rw [xRe_ne (by decide)]; exact Int.le_refl _) (fun _ _ _ => rfl) (fun _ => rfl)
  have hT1 : TRC (xRe c w) := by
    obtain ⟨t1, t2, t3⟩ := hRR.2.2.2.2.1
    refine ⟨?_, ?_, fun j n1 n2 => ?_⟩
    · rw [xRe_ne (by decide), xRe_ne (by decide)]; exact t1
    · rw [xRe_ne (by decide)]; exact t2
    · rw [xRe_ne (by decide)] at n2
      rw [xRe_ne (by decide), xRe_ne (by decide)]; exact t3 j n1 n2
  refine m_holds hS1 hs (fun r2 w2 e2 => ?_)
  try rw [xRe_g (g := 51) (by decide)] at e2
  try rw [xRe_g (g := 50) (by decide)] at e2
  obtain ⟨h1, h2⟩ := Prod.mk.inj (e2.trans e.symm)
  subst h1
  subst h2
  exact k2 _ _ (RR_ref _ hRR)
theorem pr_says {z : xZ} {d : Nat} {Q : tQ} {c : tC} {L : tL} {s v : Int}  (hRR : RR c L) (hs : inR s) (hv : inR v)  (k : ∀ r c1 (L1 : tL), (∀ (d2 : Nat) (Q2 : tQ), (∀ c2 L2, RR c2 L2 → Q2 (some (.int (iI r))) c2 L2) → En z (d2 + 20) MX11_says Q2 0 [some (.ref (xad z 50 0)), some (.int (iI s)), some (.int (iI v)), none, none, none] [] c1 L1) → Q (some (.int (iI r))) c1 L1) : En z (d + 20) MX10_says Q 0 [some (.ref (xad z 0 0)), some (.int (iI s)), some (.int (iI v)), none, none] [] c L := by
  have hR := hRR.1
  obtain ⟨n, hn⟩ := RR_n hRR
  refine x_says hR hRR.2.2.1 hs hv (fun r w e => k r _ _ (fun d2 Q2 k2 => ?_))
  have hR1 := RX_xRe w hR
  have hS1 : SH (xRe c w) L := SH_fr hRR.2.2.1 (fun _ _ _ _ => xRe_ne (by decide)) (fun _ _ _ _ _ => xRe_ne (by decide)) (by rw [xRe_ne (by decide)]; exact Int.le_refl _) (fun _ _ _ => rfl) (fun _ => rfl)
  have hT1 : TRC (xRe c w) := by
    obtain ⟨t1, t2, t3⟩ := hRR.2.2.2.2.1
    refine ⟨?_, ?_, fun j n1 n2 => ?_⟩
    · rw [xRe_ne (by decide), xRe_ne (by decide)]; exact t1
    · rw [xRe_ne (by decide)]; exact t2
    · rw [xRe_ne (by decide)] at n2
      rw [xRe_ne (by decide), xRe_ne (by decide)]; exact t3 j n1 n2
  refine m_says hR1 hS1 hs hv (fun r2 w2 e2 => ?_)
  try rw [xRe_g (g := 51) (by decide)] at e2
  try rw [xRe_g (g := 50) (by decide)] at e2
  obtain ⟨h1, h2⟩ := Prod.mk.inj (e2.trans e.symm)
  subst h1
  subst h2
  exact k2 _ _ (RR_ref _ hRR)
theorem pr_fault {z : xZ} {d : Nat} {Q : tQ} {c : tC} {L : tL}   (hRR : RR c L)   (k : ∀ r c1 (L1 : tL), (∀ (d2 : Nat) (Q2 : tQ), (∀ c2 L2, RR c2 L2 → Q2 (some (.int (iI r))) c2 L2) → En z (d2 + 20) MX11_fault Q2 0 [some (.ref (xad z 50 0))] [] c1 L1) → Q (some (.int (iI r))) c1 L1) : En z (d + 20) MX10_fault Q 0 [some (.ref (xad z 0 0))] [] c L := by
  have hR := hRR.1
  obtain ⟨n, hn⟩ := RR_n hRR
  refine x_fault (k _ _ _ (fun d2 Q2 k2 => ?_))
  refine m_fault ?_
  rw [← show c 30 0 4 = c 50 0 8 from hRR.2.2.2.2.2]
  exact k2 _ _ hRR
theorem pr_element {z : xZ} {d : Nat} {Q : tQ} {c : tC} {L : tL} {s i : Int}  (hRR : RR c L) (hs : inR s) (hi : inR i)  (k : ∀ r c1 (L1 : tL), (∀ (d2 : Nat) (Q2 : tQ), (∀ c2 L2, RR c2 L2 → Q2 (some (.long r)) c2 L2) → En z (d2 + 20) MX11_element Q2 0 [some (.ref (xad z 50 0)), some (.int (iI s)), some (.int (iI i))] [] c1 L1) → Q (some (.long r)) c1 L1) : En z (d + 20) MX10_element Q 0 [some (.ref (xad z 0 0)), some (.int (iI s)), some (.int (iI i))] [] c L := by
  have hR := hRR.1
  obtain ⟨n, hn⟩ := RR_n hRR
  refine x_element hRR.2.2.1 hs hi (fun r e => k r _ _ (fun d2 Q2 k2 => ?_))
  refine m_element hRR.2.2.1 hs hi (fun r2 e2 => ?_)
  rw [e2, ← e]
  exact k2 _ _ hRR
theorem pr_odds {z : xZ} {d : Nat} {Q : tQ} {c : tC} {L : tL} {p s : Int}  (hRR : RR c L) (hp : inR p) (hs : inR s)  (k : ∀ r c1 (L1 : tL), (∀ (d2 : Nat) (Q2 : tQ), (∀ c2 L2, RR c2 L2 → Q2 (some (.long r)) c2 L2) → En z (d2 + 20) MX11_odds Q2 0 [some (.ref (xad z 50 0)), some (.int (iI p)), some (.int (iI s))] [] c1 L1) → Q (some (.long r)) c1 L1) : En z (d + 20) MX10_odds Q 0 [some (.ref (xad z 0 0)), some (.int (iI p)), some (.int (iI s))] [] c L := by
  have hR := hRR.1
  obtain ⟨n, hn⟩ := RR_n hRR
  refine x_odds hR hn hp hs (fun r L2 f6 e => k _ _ _ (fun d2 Q2 k2 => ?_))
  have hR6 : RR c L2 := ⟨hRR.1, hRR.2.1, SH_fr hRR.2.2.1 (fun _ _ _ _ => rfl) (fun _ _ _ _ _ => rfl) (Int.le_refl _) (fun _ _ _ => f6 _ _ _ (by decide)) (fun _ => f6 _ _ _ (by decide)), hRR.2.2.2⟩
  refine m_odds hR hn hp hs (fun r2 e2 => ?_)
  rw [e2, ← e]
  exact k2 _ _ hR6
theorem pr_sure {z : xZ} {d : Nat} {Q : tQ} {c : tC} {L : tL} {p t : Int}  (hRR : RR c L) (hp : inR p) (ht : inR t)  (k : ∀ r c1 (L1 : tL), (∀ (d2 : Nat) (Q2 : tQ), (∀ c2 L2, RR c2 L2 → Q2 (some (.int (iI r))) c2 L2) → En z (d2 + 20) MX11_sure Q2 0 [some (.ref (xad z 50 0)), some (.int (iI p)), some (.int (iI t)), none, none, none, none, none, none, none, none] [] c1 L1) → Q (some (.int (iI r))) c1 L1) : En z (d + 20) MX10_sure Q 0 [some (.ref (xad z 0 0)), some (.int (iI p)), some (.int (iI t))] [] c L := by
  have hR := hRR.1
  obtain ⟨n, hn⟩ := RR_n hRR
  refine x_sure hR hn hp ht (fun r w L2 f6 e => k r _ _ (fun d2 Q2 k2 => ?_))
  have hR6 : RR c L2 := ⟨hRR.1, hRR.2.1, SH_fr hRR.2.2.1 (fun _ _ _ _ => rfl) (fun _ _ _ _ _ => rfl) (Int.le_refl _) (fun _ _ _ => f6 _ _ _ (by decide)) (fun _ => f6 _ _ _ (by decide)), hRR.2.2.2⟩
  have hw : w = 0 := by
    have := congrArg Prod.snd e
    rw [show w = (gSure c p t).2 from this]
    unfold gSure
    split <;> rfl
  subst hw
  refine m_sure (c := c) hR hn hp ht (fun r2 w2 e2 => ?_)
  obtain ⟨h1, h2⟩ := Prod.mk.inj (e2.trans e.symm)
  subst h1
  subst h2
  exact k2 _ _ hR6
theorem pr_rid {z : xZ} {d : Nat} {Q : tQ} {c : tC} {L : tL} {v a b : Int}  (hRR : RR c L) (hv : inR v) (ha : inR a) (hb : inR b)  (k : ∀ r c1 (L1 : tL), (∀ (d2 : Nat) (Q2 : tQ), (∀ c2 L2, RR c2 L2 → Q2 (some (.int (iI r))) c2 L2) → En z (d2 + 20) MX11_rid Q2 0 [some (.ref (xad z 50 0)), some (.int (iI v)), some (.int (iI a)), some (.int (iI b))] [] c1 L1) → Q (some (.int (iI r))) c1 L1) : En z (d + 20) MX10_rid Q 0 [some (.ref (xad z 0 0)), some (.int (iI v)), some (.int (iI a)), some (.int (iI b))] [] c L := by
  have hR := hRR.1
  obtain ⟨n, hn⟩ := RR_n hRR
  refine x_rid hR hn hv ha hb (fun r w e => k r _ _ (fun d2 Q2 k2 => ?_))
  have hR1 := RX_xRe w hR
  have hn1 : xRe c w 50 0 2 = (n : Int) := (xRe_ne (by decide)).trans hn
  refine m_rid hR1 hn1 hv ha hb (fun r2 w2 c2 f2 e2 => ?_)
  rw [xRe_g (g := 51) (by decide), xRe_g (g := 50) (by decide)] at e2
  obtain ⟨h1, h2⟩ := Prod.mk.inj (e2.trans e.symm)
  subst h1
  subst h2
  have hF : ∀ g i j, ¬ (g = 5 ∨ g = 7 ∨ (g = 51 ∧ i = 64)) → c2 g i j = xRe c w2 g i j := fun g i j n1 => by
    by_cases q : g = 51
    · subst q
      exact congrFun (f2.2 i (by omega)) j
    · rw [f2.1 g q]
  refine k2 _ _ (RR_refK _ hRR (RX_sfr hF hR1) ?_ (fun g i j n1 => hF g i j ?_) ?_ (fun _ _ _ => rfl) (fun _ => rfl))
  · unfold FLT
    rw [hF _ _ _ (by omega), hF _ _ _ (by omega), xRe_ne (by omega), xRe_ne (by omega)]
    exact hRR.2.2.2.2.2
  · unfold wrT at n1; omega
  · rw [hF _ _ _ (by omega), xRe_ne (by omega)]; exact Int.le_refl _
theorem pr_best {z : xZ} {d : Nat} {Q : tQ} {c : tC} {L : tL} {u a b : Int}  (hRR : RR c L) (hu : inR u) (ha : inR a) (hb : inR b)  (k : ∀ r c1 (L1 : tL), (∀ (d2 : Nat) (Q2 : tQ), (∀ c2 L2, RR c2 L2 → Q2 (some (.int (iI r))) c2 L2) → En z (d2 + 20) MX11_best Q2 0 [some (.ref (xad z 50 0)), some (.int (iI u)), some (.int (iI a)), some (.int (iI b)), none, none, none, none, none, none, none] [] c1 L1) → Q (some (.int (iI r))) c1 L1) : En z (d + 20) MX10_best Q 0 [some (.ref (xad z 0 0)), some (.int (iI u)), some (.int (iI a)), some (.int (iI b))] [] c L := by
  have hR := hRR.1
  obtain ⟨n, hn⟩ := RR_n hRR
  refine x_best hR hn hu ha hb (fun r w c9 f9 e => k r _ _ (fun d2 Q2 k2 => ?_))
  have hF9 : ∀ g i j, ¬ (g = 5 ∨ g = 7 ∨ (g = 51 ∧ i = 64)) → c9 g i j = c g i j := fun g i j n1 => by rw [f9 g (by omega) (by omega)]
  have hR1 := RX_xRe w (RX_sfr hF9 hR)
  have hn1 : xRe c9 w 50 0 2 = (n : Int) := (xRe_ne (by decide)).trans ((hF9 _ _ _ (by omega)).trans hn)
  refine m_best hR1 hn1 hu ha hb (fun r2 w2 c2 f2 e2 => ?_)
  rw [xRe_g (g := 51) (by decide), xRe_g (g := 50) (by decide), f9 51 (by decide) (by decide), f9 50 (by decide) (by decide)] at e2
  obtain ⟨h1, h2⟩ := Prod.mk.inj (e2.trans e.symm)
  subst h1
  subst h2
  have hF : ∀ g i j, ¬ (g = 5 ∨ g = 7 ∨ (g = 51 ∧ i = 64)) → c2 g i j = xRe c9 w2 g i j := fun g i j n1 => by
    by_cases q : g = 51
    · subst q
      exact congrFun (f2.2 i (by omega)) j
    · rw [f2.1 g q]
  have hFF : ∀ g i j, ¬ (g = 5 ∨ g = 7 ∨ (g = 51 ∧ i = 64)) → c2 g i j = xRe c w2 g i j := fun g i j n1 => by
    rw [hF g i j n1, xRe_at, xRe_at, hF9 35 0 w2 (by omega), hF9 g i j n1]
  refine k2 _ _ (RR_refK _ hRR (RX_sfr hF hR1) ?_ (fun g i j n1 => hFF g i j ?_) ?_ (fun _ _ _ => rfl) (fun _ => rfl))
  · unfold FLT
    rw [hFF _ _ _ (by omega), hFF _ _ _ (by omega), xRe_ne (by omega), xRe_ne (by omega)]
    exact hRR.2.2.2.2.2
  · unfold wrT at n1; omega
  · rw [hFF _ _ _ (by omega), xRe_ne (by omega)]; exact Int.le_refl _
