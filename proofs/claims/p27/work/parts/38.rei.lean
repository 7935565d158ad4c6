/-! REL: one tick, kept -/
theorem nx_hA4 {μ ν : Nat → Int → Int} (h : Rel μ ν) (hp : μ 23 0 = 1) (h1 : t23 μ = 1) : hA4 (nxT μ) (psR ν) ∧ (psR ν) 18 ((psR ν) 14 0) = fsC μ (μ 22 0) ∧ 0 ≤ rd23 ν ∧ rd23 ν < fsC μ (μ 22 0) := by
  have hI := Rel_IH h
  obtain ⟨n1, n2, n3⟩ := Rel_now h hp
  obtain ⟨f1, f2, f3⟩ := nx_facts h hp
  obtain ⟨g1, g2, g3, g4, g5⟩ := f2 h1
  obtain ⟨a, ⟨b1, b2, b3⟩, c, d⟩ := h.2.2.2.2.2 hp
  have hL := h.2.2.2.1.1
  have hL8 := h.2.2.2.1.2.1
  have i2 := hI.2.1 (t24 μ) g1.1 g1.2
  have i3 := hI.2.2 _ i2.1 i2.2
  have e2 := fsC_s μ g1.1
  have e3 := fsC_le hI (a := t24 μ + 1) (b := μ 22 0) (by omega) (by omega) (by omega)
  have e4 := fsC_le hI (a := 0) (b := t24 μ) (by omega) g1.1 (by omega)
  have e5 : fsC μ 0 = 0 := sI_0 _
  refine ⟨cAh_h (μ := nxT μ) (ν := psR ν) hI ⟨⟨g1.1, Int.le_of_lt g1.2⟩, g2.1, by show t25 μ < 64; omega⟩ hL.symm (b1 (μ 22 0) hL8.1 (Int.le_refl _)) g5 b2, n2, by omega, by omega⟩
theorem Rel_PT {μ ν : Nat → Int → Int} (h : Rel μ ν) (hp : μ 23 0 = 1) : PT μ := by
  have hI := Rel_IH h
  have hB := h.2.1
  obtain ⟨n1, n2, n3⟩ := Rel_now h hp
  obtain ⟨⟨a1, a2, a3, a4, a5⟩, b, ⟨c1, c2⟩, ⟨d1, d2⟩⟩ := h.2.2.2.2.2 hp
  obtain ⟨⟨m1, m2, m3, m4, m5, m6, m7⟩, m8, m9, m10⟩ := h.2.2.2.2.1
  have i2 := hI.2.1 (μ 24 0) a1.1 a1.2
  have i3 := hI.2.2 _ i2.1 i2.2
  have hc := Rel_cB h hp (i := ν 23 0) ⟨n1.1, by omega⟩
  have hs := Rel_sum hB
  refine ⟨⟨hB.1, hI, Rel_IB h⟩, ⟨hB.2.2.2, fun i => by have := hB.2.2.1 i; omega, hB.2.1⟩, ⟨by omega, a1, by omega, m9, h.2.2.2.1.2.2.2.2⟩, ⟨by omega, m2, by omega⟩, ?_, fun hn => ?_⟩
  · show (-1 ≤ (tkF (uAt (μ 19) (μ 26 0)) (μ 0) (μ 21, μ 27 0, μ 28 0, μ 29 0)).2.2.1 ∧ (tkF (uAt (μ 19) (μ 26 0)) (μ 0) (μ 21, μ 27 0, μ 28 0, μ 29 0)).2.2.1 < 8) ∧ 0 ≤ (tkF (uAt (μ 19) (μ 26 0)) (μ 0) (μ 21, μ 27 0, μ 28 0, μ 29 0)).2.2.2 ∧ (tkF (uAt (μ 19) (μ 26 0)) (μ 0) (μ 21, μ 27 0, μ 28 0, μ 29 0)).2.2.2 ≤ 100
    rcases tkF_w (uAt (μ 19) (μ 26 0)) (μ 0) (μ 21) (μ 27 0) with q | ⟨i, r, q⟩ | ⟨i, o, r, q⟩
    · rw [q]; dsimp only; omega
    · rw [q]; dsimp only; omega
    · rw [q]; dsimp only; omega
  · obtain ⟨x1, x2, x3, x4⟩ := nx_hA4 h hp hn.1
    have e := x1 0 (by omega) (by omega)
    have hb := Rel_cB h hp (i := rd23 ν) ⟨x3, x4⟩
    rw [e, x2]
    rw [if_pos (show (psR ν) 23 0 + 0 < fsC μ (μ 22 0) from (show rd23 ν + 0 < fsC μ (μ 22 0) by omega)), show (psR ν) 23 0 + 0 = rd23 ν from Int.add_zero _]
    exact hb
