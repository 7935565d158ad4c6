/-! REL: where the set is after a tick -/
theorem nx_facts {μ ν : Nat → Int → Int} (h : Rel μ ν) (hp : μ 23 0 = 1) : t23 μ = rd21 ν ∧ (t23 μ = 1 → (0 ≤ t24 μ ∧ t24 μ < μ 22 0) ∧ (0 ≤ t25 μ ∧ t25 μ < μ 13 (μ 18 (t24 μ))) ∧ rd22 ν = t24 μ ∧ rd24 ν = t26 μ ∧ rd23 ν = fsC μ (t24 μ) + t25 μ) ∧ (t23 μ = 1 → t26 μ ≠ 0 → t24 μ = μ 24 0 ∧ t25 μ = μ 25 0 ∧ t26 μ = μ 26 0 + 1 ∧ rd23 ν = ν 23 0) := by
  have hI := Rel_IH h
  obtain ⟨⟨a1, a2, a3, a4, a5⟩, ⟨b1, b2, b3⟩, c, d⟩ := h.2.2.2.2.2 hp
  have t := h.2.2.2.2.1.2.2.1
  have hL := h.2.2.2.1.1
  have hpl := h.2.2.2.1.2.2.2.1
  have e1 := b1 (μ 24 0 + 1) (by omega) (by omega)
  have e2 := fsC_s μ a1.1
  have hB1 : μ 24 0 + 1 < μ 22 0 → 0 ≤ μ 13 (μ 18 (μ 24 0 + 1)) := fun z => by
    have i2 := hI.2.1 (μ 24 0 + 1) (by omega) z
    exact (hI.2.2 _ i2.1 i2.2).1
  by_cases q : μ 26 0 + 1 < 192
  · have x3 : t23 μ = μ 23 0 := if_pos q
    have x4 : t24 μ = μ 24 0 := if_pos q
    have x5 : t25 μ = μ 25 0 := if_pos q
    have x6 : t26 μ = μ 26 0 + 1 := if_pos q
    have y1 : rd21 ν = ν 21 0 := if_neg (by omega)
    have y2 : rd22 ν = ν 22 0 := if_neg (fun z => by have := z.1; omega)
    have y3 : rd23 ν = ν 23 0 := if_neg (by omega)
    have y4 : rd24 ν = ν 24 0 + 1 := if_neg (by omega)
    rw [x3, x4, x5, x6, y1, y2, y3, y4]
    refine ⟨hpl, fun _ => ⟨a1, a2, a3, by omega, a5⟩, fun _ _ => ⟨rfl, rfl, rfl, rfl⟩⟩
  · have x6 : t26 μ = 0 := if_neg q
    have y4 : rd24 ν = 0 := if_pos (by omega)
    have y3 : rd23 ν = ν 23 0 + 1 := if_pos (by omega)
    by_cases q2 : μ 25 0 + 1 < μ 13 (μ 18 (μ 24 0))
    · have x3 : t23 μ = μ 23 0 := (if_neg q).trans (if_pos q2)
      have x4 : t24 μ = μ 24 0 := (if_neg q).trans (if_pos q2)
      have x5 : t25 μ = μ 25 0 + 1 := (if_neg q).trans (if_pos q2)
      have y2 : rd22 ν = ν 22 0 := if_neg (fun z => by
        have z2 := z.2
        rw [a3, e1] at z2
        omega)
      have y1 : rd21 ν = 1 := by
        unfold rd21
        rw [if_pos (show ν 24 0 + 1 = 192 by omega), y2, if_pos (by omega)]
      rw [x3, x4, x5, x6, y1, y2, y3, y4]
      exact ⟨hp, fun _ => ⟨a1, ⟨by omega, q2⟩, a3, rfl, by omega⟩, fun _ z => absurd rfl z⟩
    · have x3 : t23 μ = if μ 24 0 + 1 < μ 22 0 then 1 else 0 := (if_neg q).trans (if_neg q2)
      have x4 : t24 μ = μ 24 0 + 1 := (if_neg q).trans (if_neg q2)
      have x5 : t25 μ = 0 := (if_neg q).trans (if_neg q2)
      have y2 : rd22 ν = ν 22 0 + 1 := if_pos ⟨by omega, by rw [a3, e1]; omega⟩
      have y1 : rd21 ν = if μ 24 0 + 1 < μ 22 0 then 1 else 0 := by
        unfold rd21
        rw [if_pos (show ν 24 0 + 1 = 192 by omega), y2, a3, hL]
      rw [x3, x4, x5, x6, y1, y2, y3, y4]
      refine ⟨rfl, fun z => ?_, fun _ z => absurd rfl z⟩
      by_cases q3 : μ 24 0 + 1 < μ 22 0
      · have hb := hB1 q3
        have e3 := b1 (μ 24 0 + 1 + 1) (by omega) (by omega)
        exact ⟨⟨by omega, q3⟩, ⟨Int.le_refl 0, by have := d.2 (μ 24 0 + 1) (by omega) q3; omega⟩, by omega, rfl, by omega⟩
      · rw [if_neg q3] at z
        omega
