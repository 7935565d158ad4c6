/-! REL: the set begun, all of it -/
theorem fs_split (μ : Nat → Int → Int) (n : Nat) {i : Int} (hi : 0 ≤ i ∧ i < fsC μ n) : ∃ j b, (0 ≤ j ∧ j < (n : Int)) ∧ (0 ≤ b ∧ b < μ 13 (μ 18 j)) ∧ i = fsC μ j + b := by
  induction n with
  | zero =>
    have e : fsC μ ((0 : Nat) : Int) = 0 := sI_0 _
    omega
  | succ n ih =>
    have e : fsC μ ((n + 1 : Nat) : Int) = fsC μ n + μ 13 (μ 18 n) := fsC_s μ (j := (n : Int)) (by omega)
    by_cases q : i < fsC μ n
    · obtain ⟨j, b, h1, h2, h3⟩ := ih ⟨hi.1, q⟩
      exact ⟨j, b, ⟨h1.1, by omega⟩, h2, h3⟩
    · have g1 : 0 ≤ i - fsC μ (n : Int) ∧ i - fsC μ (n : Int) < μ 13 (μ 18 (n : Int)) := by omega
      exact ⟨(n : Int), i - fsC μ (n : Int), ⟨Int.natCast_nonneg n, by omega⟩, g1, by omega⟩
theorem cdF_cg {μ m : Nat → Int → Int} (h5 : μ 5 = m 5) : cdF μ = cdF m := by
  funext p t
  unfold cdF
  rw [h5]
theorem st_facts {μ ν : Nat → Int → Int} (h : Rel μ ν) : (∀ j, 0 ≤ j → j ≤ μ 22 0 → (stR ν) 18 j = fsC μ j) ∧ (∀ j b, 0 ≤ j → j < μ 22 0 → 0 ≤ b → b < μ 13 (μ 18 j) → cB (stR ν) (fsC μ j + b) = cdF μ (μ 14 (μ 18 j * 64 + b)) (μ 15 (μ 18 j * 64 + b)) ∧ (0 ≤ (stR ν) 16 (fsC μ j + b) ∧ (stR ν) 16 (fsC μ j + b) < 12) ∧ 0 ≤ (stR ν) 17 (fsC μ j + b) ∧ (stR ν) 17 (fsC μ j + b) ≤ 1) := by
  have hL := h.2.2.2.1.1
  have hL8 := h.2.2.2.1.2.1
  obtain ⟨n, hn⟩ := Int.eq_ofNat_of_zero_le (show 0 ≤ ν 14 0 by omega)
  obtain ⟨w1, w2, w3⟩ := stX_w ν n
  refine ⟨fun j h1 h2 => ?_, fun j b h1 h2 h3 h4 => ?_⟩
  · show iU (stX ν (ν 14 0)).2.2.1 (ν 14 0) (fsR ν (ν 14 0)) j = fsC μ j
    rw [fs_eq h ⟨h1, h2⟩, hn]
    by_cases q : j = (n : Int)
    · rw [q, iU_s]
    · rw [iU_n _ _ q]; exact w1 j h1 (by omega)
  · obtain ⟨a1, a2⟩ := h.2.2.2.1.2.2.1 j h1 h2
    obtain ⟨b1, -, -, b2, b3⟩ := h.2.2.1 _ a2.1 a2.2
    have hA := Rel_Sg h a2
    have c1 := SgA_lB hA b1
    have c2 := SgA_b hA b1 (k := b) ⟨h3, by rw [← b2]; exact h4⟩
    have d := b3 b h3 h4
    have hb : b < lBs (vw ν) (ν 15 j) := by rw [← a1, c1, ← b2]; exact h4
    have w := w3 j b h1 (by omega) h3 hb
    have f16 : (stR ν) 16 (fsC μ j + b) = bP (vw ν) (ν 15 j) b := by
      show (stX ν (ν 14 0)).1 (fsC μ j + b) = _
      rw [fs_eq h ⟨h1, by omega⟩, hn]
      exact w.1
    have f17 : (stR ν) 17 (fsC μ j + b) = fB (vw ν) (ν 15 j) b := by
      show (stX ν (ν 14 0)).2.1 (fsC μ j + b) = _
      rw [fs_eq h ⟨h1, by omega⟩, hn]
      exact w.2
    rw [f16, f17]
    refine ⟨?_, ?_, fB_bd _ _ _⟩
    · unfold cB
      rw [f16, f17]
      show cdF (vw ν) (bP (vw ν) (ν 15 j) b) (bT (vw ν) (ν 15 j) b) = _
      rw [← a1, c2.1, c2.2, d.1, d.2, cdF_cg (RA_vw h.1).2.2.2.2.2.1]
    · rw [← a1, c2.1]
      exact (bP_bd b1 ⟨h3, by rw [← b2]; exact h4⟩).1
theorem Rel_start {μ ν : Nat → Int → Int} (h : Rel μ ν) (hc : 0 < μ 22 0 ∧ ∀ i, 0 ≤ i → i < μ 22 0 → μ 13 (μ 18 i) ≠ 0) : Rel (enM (stM μ)) (stR ν) ∧ 0 ≤ cAh (stM μ) 0 ∧ cAh (stM μ) 0 < 120 := by
  have hI := Rel_IH h
  have hB := Rel_IB h
  have hIv := Rel_IP h
  obtain ⟨f1, f2⟩ := st_facts h
  have h5 := fsC_512 hI
  have hL8 := h.2.2.2.1.2.1
  have hL := h.2.2.2.1.1
  have a0 := h.2.2.2.1.2.2.1 0 (Int.le_refl _) hc.1
  have z0 := hI.2.2 _ a0.2.1 a0.2.2
  have n0 := hc.2 0 (Int.le_refl _) hc.1
  have e0 : fsC μ 0 = 0 := sI_0 _
  have e1 := fsC_s μ (Int.le_refl 0)
  have e2 := fsC_le hI (a := 0 + 1) (b := μ 22 0) (by omega) (by omega) (by omega)
  have hpos : 0 < fsC μ (μ 22 0) := by omega
  have hd : hCd (stM μ) (stR ν) := fun j b h1 h2 h3 h4 => (f2 j b h1 h2 h3 h4).1
  have h4 : hA4 (stM μ) (stR ν) := cAh_h (μ := stM μ) (ν := stR ν) hI ⟨⟨Int.le_refl 0, hL8.1⟩, (⟨Int.le_refl 0, by decide⟩ : (0 : Int) ≤ 0 ∧ (0 : Int) < 64)⟩ hL.symm (f1 (μ 22 0) hL8.1 (Int.le_refl _)) (by show (0 : Int) = fsC μ 0 + 0; omega) hd
  have hF : (stR ν) 18 ((stR ν) 14 0) = fsC μ (μ 22 0) := by
    show (stR ν) 18 (ν 14 0) = _
    rw [← hL]
    exact f1 _ hL8.1 (Int.le_refl _)
  have hb : ∀ i, 0 ≤ i → i < fsC μ (μ 22 0) → (0 ≤ (stR ν) 16 i ∧ (stR ν) 16 i < 12) ∧ 0 ≤ (stR ν) 17 i ∧ (stR ν) 17 i ≤ 1 := by
    intro i h1 h2
    obtain ⟨n, hn⟩ := Int.eq_ofNat_of_zero_le hL8.1
    rw [hn] at h2
    obtain ⟨j, b, g1, g2, rfl⟩ := fs_split μ n ⟨h1, h2⟩
    exact (f2 j b g1.1 (by omega) g2.1 g2.2).2
  have hc0 := h4 0 (by omega) (by omega)
  have hc1 : cAh (stM μ) 0 = cB (stR ν) 0 := by
    rw [hc0, hF]
    exact if_pos (show (0 : Int) + 0 < _ by omega)
  have hcB : ∀ i, 0 ≤ i → i < fsC μ (μ 22 0) → 0 ≤ cB (stR ν) i ∧ cB (stR ν) i < 120 := fun i h1 h2 => by
    have := hb i h1 h2
    unfold cB
    omega
  refine ⟨⟨h.1.elim ?_, ?_, h.2.2.1, ?_, ?_, fun _ => ⟨⟨⟨Int.le_refl 0, hc.1⟩, ⟨Int.le_refl 0, ?_⟩, rfl, rfl, ?_⟩, ⟨f1, hd, hb⟩, ⟨hc1, fun t s h1 h2 h3 h4' => ?_⟩, ?_⟩⟩, by rw [hc1]; exact hcB 0 (Int.le_refl _) hpos⟩
  · intro x1 x2
    exact ⟨x1, x2.1, x2.2.1, x2.2.2.1, x2.2.2.2.1, x2.2.2.2.2.1, rfl⟩
  · exact ⟨h.2.1.1, h.2.1.2.1, fun _ => (⟨Int.le_refl 0, by decide⟩ : (0 : Int) ≤ 0 ∧ (0 : Int) ≤ 6), enX_b (m := stM μ) h.2.1.1 h.2.1.2.2.2⟩
  · exact ⟨hL, hL8, h.2.2.2.1.2.2.1, rfl, Or.inr rfl⟩
  · obtain ⟨⟨m1, m2, m3, m4, m5, m6, m7⟩, m8, m9, m10⟩ := h.2.2.2.2.1
    refine ⟨⟨rfl, (⟨by decide, by decide⟩ : (-1 : Int) ≤ -1 ∧ (-1 : Int) < 8), fun q => absurd rfl q, fun _ => rfl, (⟨by decide, by decide⟩ : (0 : Int) ≤ 0 ∧ (0 : Int) ≤ 7), m6, (sI_z (by omega)).symm⟩, m8, (⟨by decide, by decide⟩ : (0 : Int) ≤ 0 ∧ (0 : Int) < 192), fun j h1 h2 => ?_⟩
    by_cases q : j ≤ μ 22 0
    · rw [f1 j h1 q]
      have g1 := fsC_le hI (a := 0) (b := j) (by omega) h1 q
      have g2 := fsC_le hI (a := j) (b := μ 22 0) h1 q (Int.le_refl _)
      omega
    · obtain ⟨n, hn⟩ := Int.eq_ofNat_of_zero_le (show 0 ≤ ν 14 0 by omega)
      show 0 ≤ iU (stX ν (ν 14 0)).2.2.1 (ν 14 0) (fsR ν (ν 14 0)) j ∧ iU (stX ν (ν 14 0)).2.2.1 (ν 14 0) (fsR ν (ν 14 0)) j ≤ 512
      rw [iU_n _ _ (by omega), hn, (stX_w ν n).2.1 j (by omega)]
      exact m10 j h1 h2
  · show (0 : Int) < μ 13 (μ 18 0)
    omega
  · show (0 : Int) = fsC μ 0 + 0
    omega
  · exact enX_n (μ := stM μ) (ν := stR ν) hIv (RA_vw h.1).2.2.1 (RA_vw h.1).2.2.2.1 (RA_vw h.1).2.2.2.2.1 h4 (fun i g1 g2 => (hcB i g1 (by rw [← hF]; exact g2)).1) (Int.le_refl 0) (by rw [hF]; exact hpos) (μ 19) (t := t) (s := s) ⟨h1, h2⟩ ⟨h3, h4'⟩
  · refine ⟨⟨fun i => ?_, (sI_z (by omega)).symm, (⟨by decide, by decide⟩ : (-1 : Int) ≤ -1 ∧ (-1 : Int) < 8), fun q => absurd rfl q, (by decide : (0 : Int) ≤ 12)⟩, hc.2⟩
    have := h.2.1.2.1 i
    show (0 : Int) ≤ 0 ∧ (0 : Int) ≤ μ 0 i
    omega
