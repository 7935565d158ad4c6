/-! REL: one tick -/
theorem psF_cg {μ m : Nat → Int → Int} (h0 : μ 0 = m 0) (h1 : μ 1 = m 1) (h6 : μ 6 = m 6) (h7 : μ 7 = m 7) (h21 : μ 21 = m 21) : psF μ = psF m := by
  funext c s x
  unfold psF tnI
  rw [h0, h1, h6, h7, h21]
theorem plF_cg {μ m : Nat → Int → Int} (h0 : μ 0 = m 0) (h1 : μ 1 = m 1) (h2 : μ 2 = m 2) (h3 : μ 3 = m 3) (h6 : μ 6 = m 6) (h7 : μ 7 = m 7) (h21 : μ 21 = m 21) : plF μ = plF m := by
  funext c st x k
  unfold plF
  rw [psF_cg h0 h1 h6 h7 h21, sA_cg h2 h3]
theorem plX_eq {μ ν : Nat → Int → Int} (h : Rel μ ν) (hp : μ 23 0 = 1) : plX μ = plR ν := by
  obtain ⟨e0, e1, e2, e3, e4, e5, e6, e7, -⟩ := RA_vw h.1
  have e21 : μ 21 = vx ν 21 := h.1.2.2.2.2.2.2
  obtain ⟨⟨a1, a2, a3, a4, a5⟩, b, ⟨c1, c2⟩, d⟩ := h.2.2.2.2.2 hp
  obtain ⟨m, ⟨m1, m2, m3⟩, m4⟩ := h.2.2.2.2.1
  unfold plX plR
  rw [c1, a4, m1, m2, m3, sTa_cg (m := vw ν) e4, plF_cg (m := vx ν) e0 e1 e2 e3 e6 e7 e21]
theorem uAt_eq {μ ν : Nat → Int → Int} (h : Rel μ ν) (hp : μ 23 0 = 1) : ∀ i, 0 ≤ i → i < 8 → nU ν i = uAt (μ 19) (μ 26 0) i := by
  intro i h1 h2
  obtain ⟨⟨a1, a2, a3, a4, a5⟩, b, ⟨c1, c2⟩, d⟩ := h.2.2.2.2.2 hp
  have hM := h.2.2.2.2.1
  show nU ν i = μ 19 (μ 26 0 * 8 + i)
  rw [c2 (μ 26 0) i (Int.le_refl _) hM.2.2.1.2 h1 h2]
  have e24 : ∀ (x : Int), (dT ν (μ 26 0)) 24 0 = ν 24 0 := fun _ => a4.symm
  have hL : nL ν = nL (dT ν (μ 26 0)) := by
    funext p
    rw [nL_d]
    unfold nL
    rw [a4]
  have hC : nC ν = nC (dT ν (μ 26 0)) := by
    funext s p
    refine propext ?_
    rw [nC_d, ← hL]
    exact Iff.rfl
  have hF : nF ν i = nF (dT ν (μ 26 0)) i := by
    unfold nF nW
    rw [hL, hC]
  unfold nU
  rw [hF]
/-- the loader's tick, of both -/
theorem ld_eq {μ ν : Nat → Int → Int} (h : Rel μ ν) (hp : μ 23 0 = 1) : ((ldR ν).1 = (ldX μ).1 ∧ (ldR ν).2.2.1 = (ldX μ).2.2.1 ∧ ((ldX μ).2.2.1 ≠ -1 → (ldR ν).2.2.2 = (ldX μ).2.2.2)) ∧ MI (μ 0) (ldX μ).1 (ldX μ).2.1 (ldX μ).2.2.1 (ldX μ).2.2.2 := by
  obtain ⟨a, b, c, d⟩ := h.2.2.2.2.2 hp
  obtain ⟨⟨m1, m2, m3, m4, m5, m6, m7⟩, -⟩ := h.2.2.2.2.1
  have e0 : μ 0 = ν 1 := h.1.1.1
  have e21 : μ 21 = ν 25 := h.1.2.2.2.2.2.2
  have k := ldF_w (u := uAt (μ 19) (μ 26 0)) (u2 := nU ν) (wk2 := ν 27 0) (fun i h1 h2 => (uAt_eq h hp i h1 h2).symm) d.1 m3
  have e : ldR ν = ldF (nU ν) (μ 0) (μ 21, μ 27 0, μ 28 0, ν 27 0) := by
    unfold ldR
    rw [← e0, ← e21, ← m1, ← m7]
  rw [e]
  exact ⟨⟨k.1, k.2.1, k.2.2.1⟩, k.2.2.2⟩
