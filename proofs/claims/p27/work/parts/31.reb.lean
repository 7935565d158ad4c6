/-! REL: kept by the calls that lay a song anew -/
def RS1 (μ ν : Nat → Int → Int) (s : Int) : Prop := SDs μ s ∧ (∀ e, 0 ≤ e → e < μ 8 s → μ 9 (s * 8 + e) = ν 10 (s * 8 + e) ∧ (0 < μ 12 (s * 8 + e) → μ 11 (s * 8 + e) = ν 12 (s * 8 + e))) ∧ (∀ e, μ 8 s ≤ e → e < 8 → μ 12 (s * 8 + e) = 0) ∧ μ 13 s = lBs μ s ∧ ∀ b, 0 ≤ b → b < μ 13 s → μ 14 (s * 64 + b) = bP μ s b ∧ μ 15 (s * 64 + b) = bT μ s b
theorem RS1_la {m ν : Nat → Int → Int} {s : Int} (hS : SDs m s) (h1 : ∀ e, 0 ≤ e → e < m 8 s → m 9 (s * 8 + e) = ν 10 (s * 8 + e) ∧ (0 < m 12 (s * 8 + e) → m 11 (s * 8 + e) = ν 12 (s * 8 + e))) (h2 : ∀ e, m 8 s ≤ e → e < 8 → m 12 (s * 8 + e) = 0) : RS1 (laM m s) ν s := by
  refine ⟨hS, h1, h2, iU_s _ _ _, fun b h3 h4 => ?_⟩
  have h5 : b < iU (m 13) s (lBs m s) s := h4
  rw [iU_s] at h5
  refine ⟨(if_pos ⟨by omega, by omega⟩).trans ?_, (if_pos ⟨by omega, by omega⟩).trans ?_⟩
  · rw [show s * 64 + b - s * 64 = b by omega]; rfl
  · rw [show s * 64 + b - s * 64 = b by omega]; rfl
theorem RS1_la2 {m ν : Nat → Int → Int} {s s2 : Int} (hne : s2 ≠ s) (h : RS1 m ν s2) : RS1 (laM m s) ν s2 := by
  obtain ⟨h1, h2, h3, h4, h5⟩ := h
  have hb := lBs_bd m s
  have hb2 := lBs_bd m s2
  have e : (laM m s) 13 s2 = m 13 s2 := iU_n _ _ hne
  refine ⟨h1, h2, h3, e.trans h4, fun b h6 h7 => ?_⟩
  rw [e] at h7
  have h8 := h5 b h6 h7
  refine ⟨(if_neg (by omega)).trans h8.1, (if_neg (by omega)).trans h8.2⟩
theorem RS1_o {μ m ν ν2 : Nat → Int → Int} {s : Int} (hA : SgA μ m s) (h13 : m 13 s = μ 13 s) (h14 : m 14 = μ 14) (h15 : m 15 = μ 15) (hx : ∀ e, μ 8 s ≤ e → e < 8 → m 12 (s * 8 + e) = μ 12 (s * 8 + e)) (hn : ∀ e, 0 ≤ e → e < 8 → ν2 10 (s * 8 + e) = ν 10 (s * 8 + e) ∧ ν2 12 (s * 8 + e) = ν 12 (s * 8 + e)) (h : RS1 μ ν s) : RS1 m ν2 s := by
  obtain ⟨h1, h2, h3, h4, h5⟩ := h
  have h8 := h1.1
  refine ⟨SgA_SD hA h1, fun e g1 g2 => ?_, fun e g1 g2 => ?_, ?_, fun b g1 g2 => ?_⟩
  · rw [← hA.1] at g2
    obtain ⟨a1, a2, a3, a4⟩ := hA.2 e g1 g2
    obtain ⟨b1, b2⟩ := h2 e g1 g2
    obtain ⟨c1, c2⟩ := hn e g1 (by omega)
    refine ⟨by rw [← a1, b1, c1], fun z => ?_⟩
    rw [← a3] at z
    rw [← a4 z, b2 z, c2]
  · rw [← hA.1] at g1
    rw [hx e g1 g2]
    exact h3 e g1 g2
  · rw [h13, h4, SgA_lB hA h1]
  · rw [h13] at g2
    have h6 := h5 b g1 g2
    have h7 := SgA_b hA h1 (k := b) ⟨g1, by rw [← h4]; exact g2⟩
    rw [h14, h15, h7.1, h7.2]
    exact h6
def apR (ν : Nat → Int → Int) (s p r : Int) : Nat → Int → Int := mset (mset (mset (mset (mset ν 0 (fun _ => 0)) 9 (iU (ν 9) s (ν 9 s + 1))) 10 (iU (ν 10) (s * 8 + ν 9 s) p)) 11 (iU (ν 11) (s * 8 + ν 9 s) r)) 13 (iU (ν 13) (s * 8 + ν 9 s) 0)
theorem SDs_ap {μ : Nat → Int → Int} {s p r : Int} (hS : SDs μ s) (h8 : μ 8 s < 8) (hp : 0 ≤ p ∧ p < 12) (hr : 1 ≤ r ∧ r ≤ 4) (h12 : μ 12 (s * 8 + μ 8 s) = 0) : SDs (apM μ s p r) s := by
  have h0 := hS.1
  have e8 : (apM μ s p r) 8 s = μ 8 s + 1 := iU_s _ _ _
  refine ⟨by rw [e8]; omega, fun e h1 h2 => ?_⟩
  rw [e8] at h2 ⊢
  by_cases q : e = μ 8 s
  · have g9 : sP (apM μ s p r) s e = p := by rw [q]; exact iU_s _ _ _
    have g10 : sR (apM μ s p r) s e = r := by rw [q]; exact iU_s _ _ _
    have g12 : sT (apM μ s p r) s e = 0 := by rw [q]; exact h12
    rw [g9, g10, g12]
    exact ⟨hp, hr, by omega, fun z => by omega⟩
  · obtain ⟨b1, b2, b3, b4⟩ := hS.2 e h1 (by omega)
    have g9 : sP (apM μ s p r) s e = sP μ s e := iU_n _ _ (by omega)
    have g10 : sR (apM μ s p r) s e = sR μ s e := iU_n _ _ (by omega)
    have g12 : sT (apM μ s p r) s e = sT μ s e := rfl
    have g11 : sG (apM μ s p r) s e = sG μ s e := rfl
    rw [g9, g10, g11, g12]
    exact ⟨b1, b2, b3, fun z => by have := b4 z; omega⟩
theorem Rel_addEntry {μ ν : Nat → Int → Int} (h : Rel μ ν) (h0 : μ 23 0 = 0) {s p r : Int} (hs : 0 ≤ s ∧ s < 6) (h8 : μ 8 s < 8) (hp : 0 ≤ p ∧ p < 12) (hr : 1 ≤ r ∧ r ≤ 4) : Rel (laM (apM μ s p r) s) (apR ν s p r) := by
  obtain ⟨⟨e1, e6, e7, e8, e10, e12, e21⟩, hB, hSg, hH, hM, hP⟩ := h
  have r1 : ∀ s, 0 ≤ s → s < 6 → RS1 μ ν s := hSg
  have hS := hSg s hs.1 hs.2
  have hn0 := hS.1.1
  have t0 := hS.2.2.1 (μ 8 s) (Int.le_refl _) h8
  have en : ν 9 s = μ 8 s := by rw [e8]
  refine ⟨⟨e1, e6, e7, ?_, ?_, ?_, e21⟩, hB, fun s2 g1 g2 => ?_, hH, hM, fun hp => ?_⟩
  · show iU (μ 8) s (μ 8 s + 1) = iU (ν 9) s (ν 9 s + 1)
    rw [e8]
  · show iU (μ 10) (s * 8 + μ 8 s) r = iU (ν 11) (s * 8 + ν 9 s) r
    rw [en, e10]
  · show μ 12 = iU (ν 13) (s * 8 + ν 9 s) 0
    rw [en, ← e12]
    funext j
    by_cases q : j = s * 8 + μ 8 s
    · rw [q, iU_s]; exact t0
    · rw [iU_n _ _ q]
  · by_cases q : s2 = s
    · subst q
      refine RS1_la (SDs_ap hS.1 h8 hp hr t0) (fun e h1 h2 => ?_) (fun e h1 h2 => ?_)
      · have h2 : e < iU (μ 8) s2 (μ 8 s2 + 1) s2 := h2
        rw [iU_s] at h2
        show iU (μ 9) (s2 * 8 + μ 8 s2) p (s2 * 8 + e) = iU (ν 10) (s2 * 8 + ν 9 s2) p (s2 * 8 + e) ∧ (0 < μ 12 (s2 * 8 + e) → μ 11 (s2 * 8 + e) = ν 12 (s2 * 8 + e))
        rw [en]
        by_cases q : e = μ 8 s2
        · rw [q, iU_s, iU_s]
          exact ⟨rfl, fun z => by omega⟩
        · rw [iU_n _ _ (by omega), iU_n _ _ (by omega)]
          exact hS.2.1 e h1 (by omega)
      · have h1 : iU (μ 8) s2 (μ 8 s2 + 1) s2 ≤ e := h1
        rw [iU_s] at h1
        exact hS.2.2.1 e (by omega) h2
    · have h6 := (hSg s2 g1 g2).1.1
      refine RS1_la2 q (RS1_o (μ := μ) (ν := ν) ⟨(iU_n _ _ q).symm, fun e h1 h2 => ⟨(iU_n _ _ (by omega)).symm, (iU_n _ _ (by omega)).symm, rfl, fun _ => rfl⟩⟩ rfl rfl rfl (fun e _ _ => rfl) (fun e h1 h2 => ⟨iU_n _ _ (by omega), rfl⟩) (r1 s2 g1 g2))
  · have : μ 23 0 = 1 := hp
    omega
theorem SDs_ju {μ : Nat → Int → Int} {s e g t : Int} (hS : SDs μ s) (hg : 0 ≤ g ∧ g < μ 8 s) (ht : 0 ≤ t ∧ t ≤ 3) : SDs (juM μ s e g t) s := by
  refine ⟨hS.1, fun e2 h1 h2 => ?_⟩
  have h2 : e2 < μ 8 s := h2
  obtain ⟨b1, b2, b3, b4⟩ := hS.2 e2 h1 h2
  refine ⟨b1, b2, ?_⟩
  by_cases q : e2 = e
  · have g12 : sT (juM μ s e g t) s e2 = t := by rw [q]; exact iU_s _ _ _
    have g11 : sG (juM μ s e g t) s e2 = g := by rw [q]; exact iU_s _ _ _
    rw [g11, g12]
    exact ⟨ht, fun _ => hg⟩
  · have g12 : sT (juM μ s e g t) s e2 = sT μ s e2 := iU_n _ _ (by omega)
    have g11 : sG (juM μ s e g t) s e2 = sG μ s e2 := iU_n _ _ (by omega)
    rw [g11, g12]
    exact ⟨b3, b4⟩
theorem Rel_jump {μ ν : Nat → Int → Int} (h : Rel μ ν) (h0 : μ 23 0 = 0) {s e g t : Int} (hs : 0 ≤ s ∧ s < 6) (he : 0 ≤ e ∧ e < μ 8 s) (hg : 0 ≤ g ∧ g < μ 8 s) (ht : 0 ≤ t ∧ t ≤ 3) : Rel (laM (juM μ s e g t) s) (jmR ν s e g t) := by
  obtain ⟨⟨e1, e6, e7, e8, e10, e12, e21⟩, hB, hSg, hH, hM, hP⟩ := h
  have r1 : ∀ s, 0 ≤ s → s < 6 → RS1 μ ν s := hSg
  have hS := hSg s hs.1 hs.2
  have hn0 := hS.1.1
  refine ⟨⟨e1, e6, e7, e8, e10, ?_, e21⟩, hB, fun s2 g1 g2 => ?_, hH, hM, fun hp => ?_⟩
  · show iU (μ 12) (s * 8 + e) t = iU (ν 13) (s * 8 + e) t
    rw [e12]
  · by_cases q : s2 = s
    · subst q
      refine RS1_la (SDs_ju hS.1 hg ht) (fun e2 h1 h2 => ?_) (fun e2 h1 h2 => ?_)
      · have h2 : e2 < μ 8 s2 := h2
        obtain ⟨b1, b2⟩ := hS.2.1 e2 h1 h2
        refine ⟨b1, ?_⟩
        show 0 < iU (μ 12) (s2 * 8 + e) t (s2 * 8 + e2) → iU (μ 11) (s2 * 8 + e) g (s2 * 8 + e2) = iU (ν 12) (s2 * 8 + e) g (s2 * 8 + e2)
        by_cases q : e2 = e
        · rw [q, iU_s, iU_s, iU_s]; exact fun _ => rfl
        · rw [iU_n _ _ (by omega), iU_n _ _ (by omega), iU_n _ _ (by omega)]
          exact b2
      · have h1 : μ 8 s2 ≤ e2 := h1
        show iU (μ 12) (s2 * 8 + e) t (s2 * 8 + e2) = 0
        rw [iU_n _ _ (by omega)]
        exact hS.2.2.1 e2 h1 h2
    · have h6 := (hSg s2 g1 g2).1.1
      refine RS1_la2 q (RS1_o (μ := μ) (ν := ν) ⟨rfl, fun e2 h1 h2 => ⟨rfl, rfl, (iU_n _ _ (by omega)).symm, fun _ => (iU_n _ _ (by omega)).symm⟩⟩ rfl rfl rfl (fun e2 h1 h2 => iU_n _ _ (by omega)) (fun e2 h1 h2 => ⟨rfl, iU_n _ _ (by omega)⟩) (r1 s2 g1 g2))
  · have : μ 23 0 = 1 := hp
    omega
