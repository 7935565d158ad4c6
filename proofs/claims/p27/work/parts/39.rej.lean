/-! REL: one tick, all of it -/
theorem Rel_pass {μ ν : Nat → Int → Int} (h : Rel μ ν) (hp : μ 23 0 = 1) : Rel (psT μ) (psR ν) := by
  have hIv := Rel_IP h
  have hvw := RA_vw h.1
  have hpl := plX_eq h hp
  obtain ⟨⟨k1, k2, k3⟩, k4⟩ := ld_eq h hp
  obtain ⟨f1, f2, f3⟩ := nx_facts h hp
  have hA4f := nx_hA4 h hp
  obtain ⟨n1, n2, n3⟩ := Rel_now h hp
  have hcBb := fun i (hi : 0 ≤ i ∧ i < fsC μ (μ 22 0)) => Rel_cB h hp hi
  obtain ⟨⟨e1, e6, e7, e8, e10, e12, e21⟩, hB, hSg, hH, hM, hP⟩ := h
  obtain ⟨⟨a1, a2, a3, a4, a5⟩, b, ⟨c1, c2⟩, ⟨d1, d2⟩⟩ := hP hp
  obtain ⟨⟨m1, m2, m3, m4, m5, m6, m7⟩, m8, m9, m10⟩ := hM
  have hw := ld_wk (uAt (μ 19) (μ 26 0)) (μ 0) (g := μ 21) (pc := μ 27 0) (hd := μ 28 0) (wk := μ 29 0) m6 (fun q => (d1.2.2.2.1 q).2.2.2)
  have h23 := t23_c (μ := μ) hH.2.2.2.2
  refine ⟨⟨e1, e6, e7, e8, e10, e12, k1.symm⟩, ⟨hB.1, hB.2.1, fun i => ?_, ?_⟩, hSg, ⟨hH.1, hH.2.1, hH.2.2.1, f1, h23⟩, ⟨⟨k2.symm, k4.2.2.1, fun q => ?_, fun q => ?_, ?_, hw, k4.2.1⟩, ⟨?_, ?_, ?_⟩, t26_bd m9, m10⟩, fun h1 => ?_⟩
  · have := k4.1 i
    have := hB.2.1 i
    show 0 ≤ (ldX μ).1 i ∧ (ldX μ).1 i ≤ 6
    omega
  · show ∀ i, -200 ≤ p19 μ i ∧ p19 μ i ≤ 768
    unfold p19
    by_cases q : tNew μ
    · rw [if_pos q]; exact enX_b (m := nxT μ) hB.1 hB.2.2.2
    · rw [if_neg q]; exact hB.2.2.2
  · show (ldX μ).2.2.2 = wkR ν
    have q : (ldX μ).2.2.1 ≠ -1 := q
    unfold wkR
    rw [if_neg (by omega)]
    exact (k3 q).symm
  · show wkR ν = 0
    exact if_pos q
  · show 0 ≤ wkR ν ∧ wkR ν ≤ 7
    unfold wkR
    by_cases q : (ldR ν).2.2.1 = -1
    · rw [if_pos q]; omega
    · rw [if_neg q, k3 (by omega)]
      exact (k4.2.2.2.1 (by omega)).2.2
  · show (plX μ).1 = (plR ν).1
    rw [hpl]
  · show (plX μ).2.1 = (plR ν).2.1
    rw [hpl]
  · show (plX μ).2.2 = (plR ν).2.2
    rw [hpl]
  · have h1 : t23 μ = 1 := h1
    obtain ⟨g1, g2, g3, g4, g5⟩ := f2 h1
    obtain ⟨x1, x2, x3, x4⟩ := hA4f h1
    refine ⟨⟨g1, g2, g3, g4, g5⟩, b, ⟨?_, fun t s h2 h3 h4 h5 => ?_⟩, k4, d2⟩
    · show p30 μ = cB ν (rd23 ν)
      unfold p30
      by_cases q : tNew μ
      · have e := x1 0 (by omega) (by omega)
        rw [if_pos q, e, x2, if_pos (show (psR ν) 23 0 + 0 < fsC μ (μ 22 0) from (show rd23 ν + 0 < fsC μ (μ 22 0) by omega)), show (psR ν) 23 0 + 0 = rd23 ν from Int.add_zero _]
        rfl
      · have g := f3 h1 (fun z => q ⟨h1, z⟩)
        rw [if_neg q, c1, g.2.2.2]
    · have h2 : t26 μ ≤ t := h2
      show p19 μ (t * 8 + s) = nU (dT (psR ν) t) s
      unfold p19
      have t0 := (t26_bd m9).1
      by_cases q : tNew μ
      · rw [if_pos q]
        exact enX_n (μ := nxT μ) (ν := psR ν) hIv hvw.2.2.1 hvw.2.2.2.1 hvw.2.2.2.2.1 x1 (fun i y1 y2 => (hcBb i ⟨y1, by rw [← x2]; exact y2⟩).1) x3 (by rw [x2]; exact x4) (μ 19) (t := t) (s := s) ⟨by omega, h3⟩ ⟨h4, h5⟩
      · have g := f3 h1 (fun z => q ⟨h1, z⟩)
        rw [if_neg q, c2 t s (by omega) h3 h4 h5]
        exact (nU_cg3 (ν := dT ν t) (ν2 := dT (psR ν) t) rfl rfl rfl rfl rfl g.2.2.2 rfl n1.1 (fun _ _ _ => ⟨rfl, rfl⟩) s).symm
