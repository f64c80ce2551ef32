/-! ===== the relation at the beginning ===== -/
theorem bg_S : bgC 50 0 0 = 0 ∧ bgC 50 0 1 = 0 ∧ bgC 50 0 2 = 0 ∧ bgC 50 0 3 = 0 ∧ bgC 50 0 4 = 0 ∧ bgC 50 0 5 = 0 ∧ bgC 50 0 6 = 0 ∧ bgC 50 0 7 = -1 ∧ bgC 50 0 8 = -1 ∧ bgC 50 0 9 = 0 := ⟨rfl, rfl, rfl, rfl, rfl, rfl, rfl, rfl, rfl, rfl⟩
theorem bg_RX : RX bgC := by
  obtain ⟨s0, s1, s2, s3, s4, s5, s6, s7, s8, s9⟩ := bg_S
  refine ⟨⟨rfl, rfl, rfl, rfl, rfl, rfl, rfl, rfl, rfl⟩, ?_, fun i hi => ?_, fun i hi => ?_, ?_, fun i hi => ?_, ?_, fun i hi => ⟨rfl, ?_, ?_⟩, fun i hi => ⟨rfl, ?_, ?_⟩, fun p hp => ?_, fun i hi => ?_, fun i j hij hj => ?_, fun i hi => ?_, fun i j hij hj => ?_, fun k hk hk2 => ?_, fun i hi => ?_⟩
  · unfold RT_rng
    rw [s0, s1, s2, s3, s4, s5, s6, s7, s9]
    omega
  · rw [s1] at hi; omega
  · rw [s2] at hi; omega
  · unfold RT_off
    rw [s2]
    rfl
  · rw [s2] at hi; omega
  · refine ⟨⟨rfl, rfl, rfl, rfl, rfl, rfl⟩, ?_⟩
    show (0 ≤ (5 : Int) ∧ (5 : Int) ≤ 99) ∧ (0 ≤ (10 : Int) ∧ (10 : Int) ≤ 99) ∧ (1 ≤ (4 : Int) ∧ (4 : Int) ≤ 9) ∧ (1 ≤ (1 : Int) ∧ (1 : Int) ≤ 9) ∧ (0 ≤ (2 : Int) ∧ (2 : Int) ≤ 99) ∧ (0 ≤ (0 : Int) ∧ (0 : Int) ≤ 239)
    omega
  · show (0 : Int) ≤ 0; omega
  · show (0 : Int) ≤ 9; omega
  · show (0 : Int) ≤ 0; omega
  · show (0 : Int) ≤ 1; omega
  · rw [s6] at hp; omega
  · rw [s3] at hi; omega
  · rw [s3] at hj; omega
  · rw [s4] at hi; omega
  · rw [s4] at hj; omega
  · rw [s9] at hk2; omega
  · rw [s5] at hi; omega
theorem bg_RR : RR bgC bgL := by
  refine ⟨bg_RX, Or.inl ⟨rfl, rfl⟩, fun s hs => Or.inl ⟨rfl, rfl, rfl⟩, fun k h1 h2 => rfl, ⟨rfl, ?_, fun j h1 h2 => ?_⟩, rfl⟩
  · show 0 ≤ (0 : Int) ∧ (0 : Int) ≤ 100
    omega
  · have e : bgC 50 0 66 = 0 := rfl
    rw [e] at h2
    omega
