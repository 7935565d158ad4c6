/-! REL: one tick, what it needs -/
theorem Rel_cB {μ ν : Nat → Int → Int} (h : Rel μ ν) (hp : μ 23 0 = 1) {i : Int} (hi : 0 ≤ i ∧ i < fsC μ (μ 22 0)) : 0 ≤ cB ν i ∧ cB ν i < 120 := by
  have b := (h.2.2.2.2.2 hp).2.1.2.2 i hi.1 hi.2
  unfold cB
  omega
theorem Rel_NX {μ ν : Nat → Int → Int} (h : Rel μ ν) (hp : μ 23 0 = 1) : NX ν := by
  obtain ⟨n1, n2, n3⟩ := Rel_now h hp
  have b := (h.2.2.2.2.2 hp).2.1.2.2
  have hL := h.2.2.2.1.1
  have hL8 := h.2.2.2.1.2.1
  have a4 := (h.2.2.2.2.2 hp).1.2.2.2.1
  have t := h.2.2.2.2.1.2.2.1
  refine ⟨Rel_IP h, fun i h1 h2 => b i h1 (by rw [← n2]; exact h2), ⟨by omega, by omega⟩, by omega, by omega, by omega⟩
theorem Rel_sum {μ : Nat → Int → Int} (hB : RB μ) : 0 ≤ sI (μ 21) 8 ∧ sI (μ 21) 8 ≤ 48 := sI_bd (μ 21) (c := 6) hB.2.2.1 (i := 8) (by omega)
theorem Rel_PM {μ ν : Nat → Int → Int} (h : Rel μ ν) (hp : μ 23 0 = 1) : PM ν := by
  have hN := Rel_NX h hp
  obtain ⟨n1, n2, n3⟩ := Rel_now h hp
  obtain ⟨⟨a1, a2, a3, a4, a5⟩, ⟨b1, b2, b3⟩, ⟨c1, c2⟩, ⟨⟨d1, d2, d3, d4, d5⟩, nz⟩⟩ := h.2.2.2.2.2 hp
  obtain ⟨⟨m1, m2, m3, m4, m5, m6, m7⟩, m8, m9, m10⟩ := h.2.2.2.2.1
  have e0 : μ 0 = ν 1 := h.1.1.1
  have e21 : μ 21 = ν 25 := h.1.2.2.2.2.2.2
  have hL8 := h.2.2.2.1.2.1
  have hb := b3 (ν 23 0) n1.1 (by omega)
  refine ⟨⟨hN, by rw [← e21]; exact h.2.1.2.2.1, by rw [← e0]; exact h.2.1.2.1, by rw [← e21]; omega⟩, ⟨hb, by omega, by omega⟩, by rw [← e0, ← e21]; exact d1, by omega, m4, m5, by omega, m10⟩
