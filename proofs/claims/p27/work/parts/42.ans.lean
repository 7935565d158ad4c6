/-! THE ANSWERS: class and reference alike -/
theorem Rel_lB {μ ν : Nat → Int → Int} (h : Rel μ ν) {s : Int} (hs : 0 ≤ s ∧ s < 6) : μ 13 s = lBs (vw ν) s := by
  rw [SgA_lB (Rel_Sg h hs) (h.2.2.1 s hs.1 hs.2).1]
  exact (h.2.2.1 s hs.1 hs.2).2.2.2.1
theorem Rel_barAt {μ ν : Nat → Int → Int} (h : Rel μ ν) {s : Int} (hs : 0 ≤ s ∧ s < 6) {b : Int} (hb : 0 ≤ b ∧ b < μ 13 s) : cdF μ (μ 14 (s * 64 + b)) (μ 15 (s * 64 + b)) = cdF (vw ν) (bP (vw ν) s b) (bT (vw ν) s b) := by
  obtain ⟨hS, -, -, e13, e⟩ := h.2.2.1 s hs.1 hs.2
  obtain ⟨e1, e2⟩ := e b hb.1 hb.2
  obtain ⟨e3, e4⟩ := SgA_b (Rel_Sg h hs) hS (k := b) ⟨hb.1, by rw [← e13]; exact hb.2⟩
  rw [e1, e2, e3, e4, cdF_cg (RA_vw h.1).2.2.2.2.2.1]
theorem cBs_cg2 {μ m : Nat → Int → Int} (h2 : μ 2 = m 2) (h3 : μ 3 = m 3) : cBs μ = cBs m := by
  funext c
  unfold cBs cSt
  rw [sA_cg h2 h3]
theorem Rel_beats {μ ν : Nat → Int → Int} (h : Rel μ ν) {s : Int} (hs : 0 ≤ s ∧ s < 6) : sI (fun b => cBs μ (cdF μ (μ 14 (s * 64 + b)) (μ 15 (s * 64 + b)))) (μ 13 s) = sI (btR (vw ν) s) (lBs (vw ν) s * 64) := by
  rw [btR_cBs _ _ (lBs_bd _ _).1, ← Rel_lB h hs]
  refine sI_cg ?_ (fun b h1 h2 => ?_)
  · rw [Rel_lB h hs]
    exact (lBs_bd _ _).1
  · show cBs μ _ = cBs (vw ν) _
    rw [Rel_barAt h hs ⟨h1, h2⟩, cBs_cg2 (RA_vw h.1).2.2.1 (RA_vw h.1).2.2.2.1]
theorem Rel_beatsT {μ ν : Nat → Int → Int} (h : Rel μ ν) {s : Int} (hs : 0 ≤ s ∧ s < 6) : sI (fun b => cBt μ (cdF μ (μ 14 (s * 64 + b)) (μ 15 (s * 64 + b)))) (μ 13 s) = sI (btR (vw ν) s) (lBs (vw ν) s * 64) := by
  rw [← Rel_beats h hs]
  refine sI_cg ?_ (fun b h1 h2 => cBt_cBs h.2.1.1 _)
  rw [Rel_lB h hs]
  exact (lBs_bd _ _).1
theorem Rel_jlB {μ ν : Nat → Int → Int} (h : Rel μ ν) (h0 : μ 23 0 = 0) {s e g t : Int} (hs : 0 ≤ s ∧ s < 6) (he : 0 ≤ e ∧ e < μ 8 s) (hg : 0 ≤ g ∧ g < μ 8 s) (ht : 0 ≤ t ∧ t ≤ 3) : lBs (juM μ s e g t) s = lBs (vw (jmR ν s e g t)) s := by
  have R := Rel_lB (Rel_jump h h0 hs he hg ht) hs
  rw [← R]
  exact (iU_s _ _ _).symm
theorem Rel_nextUse {μ ν : Nat → Int → Int} (h : Rel μ ν) {s : Int} (hs : 0 ≤ s ∧ s < 8) : (if μ 23 0 = 1 ∧ μ 19 (μ 26 0 * 8 + s) ≠ 768 then μ 19 (μ 26 0 * 8 + s) else -1) = (if ν 21 0 = 1 then nF ν s else -1) := by
  have e := h.2.2.2.1.2.2.2.1
  by_cases hp : μ 23 0 = 1
  · have u : nU ν s = μ 19 (μ 26 0 * 8 + s) := uAt_eq h hp s hs.1 hs.2
    rw [if_pos (show ν 21 0 = 1 by omega)]
    rcases nU_c (Rel_NX h hp) s with ⟨c1, c2⟩ | ⟨c1, c2, c3, c4⟩
    · rw [if_neg (by omega)]
      exact c1.symm
    · rw [if_pos (by omega)]
      omega
  · rw [if_neg (by omega), if_neg (by omega)]
theorem Rel_place {μ ν : Nat → Int → Int} (h : Rel μ ν) : (if μ 23 0 = 1 then 100000 * μ 24 0 + 1000 * μ 25 0 + μ 26 0 else -1) = (if ν 21 0 = 1 then 100000 * ν 22 0 + 1000 * (ν 23 0 - ν 18 (ν 22 0)) + ν 24 0 else -1) := by
  have e := h.2.2.2.1.2.2.2.1
  by_cases hp : μ 23 0 = 1
  · obtain ⟨⟨p1, p2, p3, p4, p5⟩, ⟨p6, -⟩, -⟩ := h.2.2.2.2.2 hp
    have p7 := p6 (μ 24 0) p1.1 (Int.le_of_lt p1.2)
    rw [if_pos hp, if_pos (show ν 21 0 = 1 by omega), p3, p4, p5, p7]
    omega
  · rw [if_neg hp, if_neg (by omega)]
theorem lB_pos {n : Int} {P R G T : Int → Int} (hn : 0 < n) : 0 < lB n P R G T := by
  have h := lB_in n P R G T
  refine Int.not_le.mp fun q => ?_
  have z : lB n P R G T = 0 := by omega
  rw [z, lay_0] at h
  rcases h.2.2 with q2 | q2
  · omega
  · have q3 : n ≤ 0 := q2
    omega
theorem Rel_can {μ ν : Nat → Int → Int} (h : Rel μ ν) : (μ 23 0 = 0 ∧ 0 < μ 22 0 ∧ ∀ i, 0 ≤ i → i < μ 22 0 → μ 13 (μ 18 i) ≠ 0) ↔ canR ν (ν 14 0) := by
  obtain ⟨e1, b1, hj, e2, b2⟩ := h.2.2.2.1
  have e8 : μ 8 = ν 9 := h.1.2.2.2.1
  unfold canR
  have key : ∀ i, 0 ≤ i → i < μ 22 0 → (μ 13 (μ 18 i) ≠ 0 ↔ 0 < ν 9 (ν 15 i)) := fun i h1 h2 => by
    obtain ⟨j1, j2, j3⟩ := hj i h1 h2
    obtain ⟨hS, -, -, e13, -⟩ := h.2.2.1 (μ 18 i) j2 j3
    have e9 : μ 8 (μ 18 i) = ν 9 (ν 15 i) := by rw [e8, j1]
    rw [e13]
    constructor
    · intro q
      refine Int.not_le.mp fun q2 => q ?_
      have z : μ 8 (μ 18 i) = 0 := by have := hS.1; omega
      show lB (μ 8 (μ 18 i)) _ _ _ _ = 0
      rw [z]
      exact lB_no _ _ _ _
    · intro q
      have p : 0 < lBs μ (μ 18 i) := lB_pos (by omega)
      omega
  constructor
  · rintro ⟨h1, h2, h3⟩
    exact ⟨by omega, by omega, fun j h4 h5 => (key j h4 (by omega)).mp (h3 j h4 (by omega))⟩
  · rintro ⟨h1, h2, h3⟩
    exact ⟨by omega, by omega, fun j h4 h5 => (key j h4 (by omega)).mpr (h3 j h4 (by omega))⟩
theorem Rel_fs {μ ν : Nat → Int → Int} (h : Rel μ ν) : sI (fun j => μ 13 (μ 18 j)) (μ 22 0) = fsR ν (ν 14 0) := by
  rw [← h.2.2.2.1.1]
  exact fs_eq h ⟨h.2.2.2.1.2.1.1, Int.le_refl _⟩
theorem Rel_h9 {μ ν : Nat → Int → Int} (h : Rel μ ν) : (∀ i, 0 ≤ i → i < 6 → 0 ≤ μ 8 i ∧ μ 8 i ≤ 8) ∧ ∀ i, 0 ≤ i → i < 6 → 0 ≤ ν 9 i ∧ ν 9 i ≤ 8 := by
  have a : ∀ i, 0 ≤ i → i < 6 → 0 ≤ μ 8 i ∧ μ 8 i ≤ 8 := fun i h1 h2 => (h.2.2.1 i h1 h2).1.1
  refine ⟨a, ?_⟩
  rw [← h.1.2.2.2.1]
  exact a
theorem IP_r0 {ν : Nat → Int → Int} {m : Nat → Int → Int} (e : vw m = vw ν) (h : IP (vw ν)) : IP (vw m) := by rw [e]; exact h
