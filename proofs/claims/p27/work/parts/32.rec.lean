/-! REL: the set begun -/
theorem nDu_b1 {μ : Nat → Int → Int} {c : Int} {u : (Int → Int) × (Int → Int)} (hu : ∀ i, -200 ≤ u.1 i ∧ u.1 i ≤ 768) (hg : ∀ i, 0 ≤ u.2 i ∧ u.2 i ≤ 768) {k : Int} (hk : 0 ≤ k) (hk2 : k ≤ 192) : (∀ i, -200 ≤ (nDu μ c u k).1 i ∧ (nDu μ c u k).1 i ≤ 768) ∧ ∀ i, 0 ≤ (nDu μ c u k).2 i ∧ (nDu μ c u k).2 i ≤ 768 := by
  refine itI_ind (fun n (h : (Int → Int) × (Int → Int)) => n ≤ 192 → (∀ i, -200 ≤ h.1 i ∧ h.1 i ≤ 768) ∧ ∀ i, 0 ≤ h.2 i ∧ h.2 i ≤ 768) (fun _ => ⟨hu, hg⟩) (fun j h hj ih hn => ?_) hk hk2
  obtain ⟨ih1, ih2⟩ := ih (by omega)
  refine ⟨?_, ?_⟩
  · show ∀ i, -200 ≤ cpF h.1 (fun s => kU (h.2 s) (191 - j)) ((191 - j) * 8) 8 i ∧ cpF h.1 (fun s => kU (h.2 s) (191 - j)) ((191 - j) * 8) 8 i ≤ 768
    refine cpF_all (P := fun x => -200 ≤ x ∧ x ≤ 768) ih1 (fun i => ?_) _ _
    have := ih2 i
    show -200 ≤ kU (h.2 i) (191 - j) ∧ kU (h.2 i) (191 - j) ≤ 768
    unfold kU
    split <;> omega
  · show ∀ i, 0 ≤ (if sTa μ c (191 - j) = -1 then h.2 else nSt μ c (sTa μ c (191 - j)) (191 - j) h.2 4) i ∧ (if sTa μ c (191 - j) = -1 then h.2 else nSt μ c (sTa μ c (191 - j)) (191 - j) h.2 4) i ≤ 768
    by_cases q : sTa μ c (191 - j) = -1
    · rw [if_pos q]; exact ih2
    · rw [if_neg q]; exact nSt_bd ih2 (by omega) (by omega)
theorem enX_b {m : Nat → Int → Int} (hP : IP m) {U : Int → Int} (hu : ∀ i, -200 ≤ U i ∧ U i ≤ 768) : ∀ i, -200 ≤ (enX m U).1 i ∧ (enX m U).1 i ≤ 768 := (nDu_b1 hu (ebN_bd hP (by omega)) (by omega) (by omega)).1
theorem stX_s (ν : Nat → Int → Int) {k : Int} (hk : 0 ≤ k) : stX ν (k + 1) = (cpF (stX ν k).1 (bP (vw ν) (ν 15 k)) (fsR ν k) (lBs (vw ν) (ν 15 k)), cpF (stX ν k).2.1 (fB (vw ν) (ν 15 k)) (fsR ν k) (lBs (vw ν) (ν 15 k)), iU (stX ν k).2.2.1 k (fsR ν k), dnE (vw ν) (ν 15 k) (lBs (vw ν) (ν 15 k)), (ly (vw ν) (ν 15 k) (lBs (vw ν) (ν 15 k))).2.2.2) := itI_s _ _ hk
theorem fsR_s (ν : Nat → Int → Int) {k : Int} (hk : 0 ≤ k) : fsR ν (k + 1) = fsR ν k + lBs (vw ν) (ν 15 k) := sI_s _ hk
theorem fsR_le (ν : Nat → Int → Int) {a b : Int} (ha : 0 ≤ a) (hab : a ≤ b) : fsR ν a ≤ fsR ν b := sI_mono _ (fun j => (lBs_bd _ _).1) ha hab
theorem stX_w (ν : Nat → Int → Int) (k : Nat) : (∀ j, 0 ≤ j → j < (k : Int) → (stX ν k).2.2.1 j = fsR ν j) ∧ (∀ j, (k : Int) ≤ j → (stX ν k).2.2.1 j = ν 18 j) ∧ ∀ j b, 0 ≤ j → j < (k : Int) → 0 ≤ b → b < lBs (vw ν) (ν 15 j) → (stX ν k).1 (fsR ν j + b) = bP (vw ν) (ν 15 j) b ∧ (stX ν k).2.1 (fsR ν j + b) = fB (vw ν) (ν 15 j) b := by
  induction k with
  | zero =>
    have e : stX ν ((0 : Nat) : Int) = (ν 16, ν 17, ν 18, ν 19, ν 20) := itI_0 _ _
    rw [e]
    exact ⟨fun j h1 h2 => by omega, fun j _ => rfl, fun j b h1 h2 => by omega⟩
  | succ k ih =>
    obtain ⟨i1, i2, i3⟩ := ih
    have e : stX ν ((k + 1 : Nat) : Int) = _ := stX_s ν (k := (k : Int)) (by omega)
    rw [e]
    refine ⟨fun j h1 h2 => ?_, fun j h1 => ?_, fun j b h1 h2 h3 h4 => ?_⟩
    · show iU (stX ν k).2.2.1 k (fsR ν k) j = fsR ν j
      by_cases q : j = (k : Int)
      · rw [q, iU_s]
      · rw [iU_n _ _ q]; exact i1 j h1 (by omega)
    · show iU (stX ν k).2.2.1 k (fsR ν k) j = ν 18 j
      rw [iU_n _ _ (by omega)]
      exact i2 j (by omega)
    · show cpF (stX ν k).1 (bP (vw ν) (ν 15 k)) (fsR ν k) (lBs (vw ν) (ν 15 k)) (fsR ν j + b) = bP (vw ν) (ν 15 j) b ∧ cpF (stX ν k).2.1 (fB (vw ν) (ν 15 k)) (fsR ν k) (lBs (vw ν) (ν 15 k)) (fsR ν j + b) = fB (vw ν) (ν 15 j) b
      unfold cpF
      by_cases q : j = (k : Int)
      · rw [q] at h4 ⊢
        rw [if_pos (by omega), if_pos (by omega), show fsR ν k + b - fsR ν k = b by omega]
        exact ⟨rfl, rfl⟩
      · have g1 := fsR_s ν h1
        have g2 := fsR_le ν (a := j + 1) (b := (k : Int)) (by omega) (by omega)
        rw [if_neg (by omega), if_neg (by omega)]
        exact i3 j b h1 (by omega) h3 h4
theorem fs_eq {μ ν : Nat → Int → Int} (h : Rel μ ν) {j : Int} (hj : 0 ≤ j ∧ j ≤ μ 22 0) : fsC μ j = fsR ν j := by
  refine sI_cg hj.1 (fun i h1 h2 => ?_)
  obtain ⟨a1, a2⟩ := h.2.2.2.1.2.2.1 i h1 (by omega)
  show μ 13 (μ 18 i) = lBs (vw ν) (ν 15 i)
  rw [(h.2.2.1 _ a2.1 a2.2).2.2.2.1, SgA_lB (Rel_Sg h a2) (h.2.2.1 _ a2.1 a2.2).1 |>.symm, a1]
