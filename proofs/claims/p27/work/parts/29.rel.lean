/-! REL: what holds between the class and the reference -/
def RA (μ ν : Nat → Int → Int) : Prop := (μ 0 = ν 1 ∧ μ 1 = ν 2 ∧ μ 2 = ν 3 ∧ μ 3 = ν 4 ∧ μ 4 = ν 5 ∧ μ 5 = ν 6) ∧ (μ 6 = ν 7 ∧ μ 7 = ν 8 ∧ μ 8 = ν 9 ∧ μ 10 = ν 11 ∧ μ 12 = ν 13 ∧ μ 21 = ν 25)
def RB (μ : Nat → Int → Int) : Prop := IP μ ∧ (∀ i, 1 ≤ μ 0 i ∧ μ 0 i ≤ 6) ∧ (∀ i, 0 ≤ μ 21 i ∧ μ 21 i ≤ 6) ∧ (∀ i, -200 ≤ μ 19 i ∧ μ 19 i ≤ 768)
def RS (μ ν : Nat → Int → Int) : Prop := ∀ s, 0 ≤ s → s < 6 → SDs μ s ∧ (∀ e, 0 ≤ e → e < μ 8 s → μ 9 (s * 8 + e) = ν 10 (s * 8 + e) ∧ (0 < μ 12 (s * 8 + e) → μ 11 (s * 8 + e) = ν 12 (s * 8 + e))) ∧ (∀ e, μ 8 s ≤ e → e < 8 → μ 12 (s * 8 + e) = 0) ∧ μ 13 s = lBs μ s ∧ ∀ b, 0 ≤ b → b < μ 13 s → μ 14 (s * 64 + b) = bP μ s b ∧ μ 15 (s * 64 + b) = bT μ s b
def RH (μ ν : Nat → Int → Int) : Prop := μ 22 0 = ν 14 0 ∧ (0 ≤ μ 22 0 ∧ μ 22 0 ≤ 8) ∧ (∀ j, 0 ≤ j → j < μ 22 0 → μ 18 j = ν 15 j ∧ 0 ≤ μ 18 j ∧ μ 18 j < 6) ∧ μ 23 0 = ν 21 0 ∧ (μ 23 0 = 0 ∨ μ 23 0 = 1)
def RM (μ ν : Nat → Int → Int) : Prop := (μ 28 0 = ν 26 0 ∧ (-1 ≤ μ 28 0 ∧ μ 28 0 < 8) ∧ (μ 28 0 ≠ -1 → μ 29 0 = ν 27 0) ∧ (ν 26 0 = -1 → ν 27 0 = 0) ∧ (0 ≤ ν 27 0 ∧ ν 27 0 ≤ 7) ∧ (0 ≤ μ 29 0 ∧ μ 29 0 ≤ 8) ∧ μ 27 0 = sI (μ 21) 8) ∧ (μ 31 0 = ν 28 0 ∧ μ 32 0 = ν 29 0 ∧ μ 33 0 = ν 30 0) ∧ (0 ≤ μ 26 0 ∧ μ 26 0 < 192) ∧ ∀ j, 0 ≤ j → j ≤ 8 → 0 ≤ ν 18 j ∧ ν 18 j ≤ 512
/-- while the set is played -/
def RPl (μ ν : Nat → Int → Int) : Prop := ((0 ≤ μ 24 0 ∧ μ 24 0 < μ 22 0) ∧ (0 ≤ μ 25 0 ∧ μ 25 0 < μ 13 (μ 18 (μ 24 0))) ∧ ν 22 0 = μ 24 0 ∧ ν 24 0 = μ 26 0 ∧ ν 23 0 = fsC μ (μ 24 0) + μ 25 0) ∧ ((∀ j, 0 ≤ j → j ≤ μ 22 0 → ν 18 j = fsC μ j) ∧ hCd μ ν ∧ ∀ i, 0 ≤ i → i < fsC μ (μ 22 0) → (0 ≤ ν 16 i ∧ ν 16 i < 12) ∧ 0 ≤ ν 17 i ∧ ν 17 i ≤ 1) ∧ (μ 30 0 = cB ν (ν 23 0) ∧ ∀ t s, μ 26 0 ≤ t → t < 192 → 0 ≤ s → s < 8 → μ 19 (t * 8 + s) = nU (dT ν t) s) ∧ MI (μ 0) (μ 21) (μ 27 0) (μ 28 0) (μ 29 0) ∧ ∀ j, 0 ≤ j → j < μ 22 0 → μ 13 (μ 18 j) ≠ 0
def Rel (μ ν : Nat → Int → Int) : Prop := RA μ ν ∧ RB μ ∧ RS μ ν ∧ RH μ ν ∧ RM μ ν ∧ (μ 23 0 = 1 → RPl μ ν)
theorem RA_vw {μ ν : Nat → Int → Int} (h : RA μ ν) : μ 0 = vw ν 0 ∧ μ 1 = vw ν 1 ∧ μ 2 = vw ν 2 ∧ μ 3 = vw ν 3 ∧ μ 4 = vw ν 4 ∧ μ 5 = vw ν 5 ∧ μ 6 = vw ν 6 ∧ μ 7 = vw ν 7 ∧ μ 8 = vw ν 8 ∧ μ 10 = vw ν 10 ∧ μ 12 = vw ν 12 := ⟨h.1.1, h.1.2.1, h.1.2.2.1, h.1.2.2.2.1, h.1.2.2.2.2.1, h.1.2.2.2.2.2, h.2.1, h.2.2.1, h.2.2.2.1, h.2.2.2.2.1, h.2.2.2.2.2.1⟩
theorem IP_cg {μ m : Nat → Int → Int} (h1 : μ 1 = m 1) (h2 : μ 2 = m 2) (h3 : μ 3 = m 3) (h4 : μ 4 = m 4) (h5 : μ 5 = m 5) (h6 : μ 6 = m 6) (h7 : μ 7 = m 7) (h : IP μ) : IP m := by
  unfold IP at h ⊢
  rw [h1, h2, h3, h4, h5, h6, h7] at h
  exact h
theorem Rel_IP {μ ν : Nat → Int → Int} (h : Rel μ ν) : IP (vw ν) := by
  obtain ⟨e0, e1, e2, e3, e4, e5, e6, e7, -⟩ := RA_vw h.1
  exact IP_cg e1 e2 e3 e4 e5 e6 e7 h.2.1.1
theorem Rel_Sg {μ ν : Nat → Int → Int} (h : Rel μ ν) {s : Int} (hs : 0 ≤ s ∧ s < 6) : SgA μ (vw ν) s := by
  obtain ⟨e0, e1, e2, e3, e4, e5, e6, e7, e8, e10, e12⟩ := RA_vw h.1
  obtain ⟨h1, h2, -⟩ := h.2.2.1 s hs.1 hs.2
  refine ⟨by rw [e8], fun e g1 g2 => ?_⟩
  obtain ⟨a1, a2⟩ := h2 e g1 g2
  exact ⟨a1, by rw [e10], by rw [e12], a2⟩
theorem Rel_SD {μ ν : Nat → Int → Int} (h : Rel μ ν) {s : Int} (hs : 0 ≤ s ∧ s < 6) : SDs (vw ν) s := SgA_SD (Rel_Sg h hs) (h.2.2.1 s hs.1 hs.2).1
theorem Rel_IH {μ ν : Nat → Int → Int} (h : Rel μ ν) : IH μ := by
  refine ⟨h.2.2.2.1.2.1, fun j h1 h2 => (h.2.2.2.1.2.2.1 j h1 h2).2, fun s h1 h2 => ?_⟩
  rw [(h.2.2.1 s h1 h2).2.2.2.1]
  exact lBs_bd μ s
theorem Rel_IB {μ ν : Nat → Int → Int} (h : Rel μ ν) : IB μ := by
  intro s b h1 h2 h3 h4
  obtain ⟨g1, -, -, g2, g3⟩ := h.2.2.1 s h1 h2
  obtain ⟨a1, a2⟩ := g3 b h3 h4
  rw [a1, a2]
  exact bP_bd g1 ⟨h3, by rw [← g2]; exact h4⟩
/-- next uses, where only the set's bars agree -/
theorem nU_cg2 {ν ν2 : Nat → Int → Int} (h2 : vw ν2 2 = vw ν 2) (h3 : vw ν2 3 = vw ν 3) (h4 : vw ν2 4 = vw ν 4) (h14 : ν2 14 = ν 14) (h18 : ν2 18 = ν 18) (h23 : ν2 23 = ν 23) (h24 : ν2 24 = ν 24) (hn : 0 ≤ ν 23 0) (hb : ∀ i, 0 ≤ i → i < ν 18 (ν 14 0) → ν2 16 i = ν 16 i ∧ ν2 17 i = ν 17 i) (s : Int) : nU ν2 s = nU ν s := by
  have hc : ∀ p, 0 ≤ p → ν 23 0 + p / 16 < ν 18 (ν 14 0) → cB ν2 (ν 23 0 + p / 16) = cB ν (ν 23 0 + p / 16) := fun p h1 h5 => by
    have := hb (ν 23 0 + p / 16) (by omega) h5
    unfold cB
    rw [this.1, this.2]
  have hl : ∀ p, 0 ≤ p → ν 23 0 + p / 16 < ν 18 (ν 14 0) → nL ν2 p = nL ν p := fun p h1 h5 => by
    unfold nL
    rw [h23, h24, hc p h1 h5, tOf_cg h4]
  have e : nF ν2 s = nF ν s := by
    refine itI_cg (by omega) (fun i a h1 h5 => ?_)
    have hz : nC ν2 s (63 - i) ↔ nC ν s (63 - i) := by
      unfold nC
      rw [h14, h18, h23, sA_cg h2 h3]
      refine ⟨fun ⟨a, b, c⟩ => ⟨a, ?_, ?_⟩, fun ⟨a, b, c⟩ => ⟨a, ?_, ?_⟩⟩
      · rw [← hl _ (by omega) a]; exact b
      · rw [← hc _ (by omega) a]; exact c
      · rw [hl _ (by omega) a]; exact b
      · rw [hc _ (by omega) a]; exact c
    by_cases q : nC ν s (63 - i)
    · rw [if_pos q, if_pos (hz.mpr q)]
      exact hl _ (by omega) q.1
    · rw [if_neg q, if_neg (fun z => q (hz.mp z))]
  unfold nU
  rw [e]
/-- the reference where nothing changed that matters -/
def Same (ν ν2 : Nat → Int → Int) : Prop := (ν2 1 = ν 1 ∧ ν2 2 = ν 2 ∧ ν2 3 = ν 3 ∧ ν2 4 = ν 4 ∧ ν2 5 = ν 5 ∧ ν2 6 = ν 6) ∧ (ν2 7 = ν 7 ∧ ν2 8 = ν 8 ∧ ν2 9 = ν 9 ∧ ν2 10 = ν 10 ∧ ν2 11 = ν 11 ∧ ν2 12 = ν 12 ∧ ν2 13 = ν 13) ∧ (ν2 14 = ν 14 ∧ ν2 15 = ν 15 ∧ ν2 18 = ν 18 ∧ ν2 21 = ν 21 ∧ ν2 22 = ν 22 ∧ ν2 23 = ν 23 ∧ ν2 24 = ν 24) ∧ (ν2 25 = ν 25 ∧ ν2 26 = ν 26 ∧ ν2 27 = ν 27 ∧ ν2 28 = ν 28 ∧ ν2 29 = ν 29 ∧ ν2 30 = ν 30) ∧ ∀ i, 0 ≤ i → i < 512 → ν2 16 i = ν 16 i ∧ ν2 17 i = ν 17 i
theorem Same_0 (ν : Nat → Int → Int) (f : Int → Int) : Same ν (mset ν 0 f) := ⟨⟨rfl, rfl, rfl, rfl, rfl, rfl⟩, ⟨rfl, rfl, rfl, rfl, rfl, rfl, rfl⟩, ⟨rfl, rfl, rfl, rfl, rfl, rfl, rfl⟩, ⟨rfl, rfl, rfl, rfl, rfl, rfl⟩, fun _ _ _ => ⟨rfl, rfl⟩⟩
theorem Same_ly (ν : Nat → Int → Int) (s : Int) : Same ν (lyW ν s 512) := ⟨⟨rfl, rfl, rfl, rfl, rfl, rfl⟩, ⟨rfl, rfl, rfl, rfl, rfl, rfl, rfl⟩, ⟨rfl, rfl, rfl, rfl, rfl, rfl, rfl⟩, ⟨rfl, rfl, rfl, rfl, rfl, rfl⟩, fun i h1 h2 => ⟨if_neg (by omega), if_neg (by omega)⟩⟩
theorem fsC_512 {μ : Nat → Int → Int} (hI : IH μ) : 0 ≤ fsC μ (μ 22 0) ∧ fsC μ (μ 22 0) ≤ 512 := by
  have h1 := sI_bd (fun j => if 0 ≤ j ∧ j < μ 22 0 then μ 13 (μ 18 j) else 0) (c := 64) (fun j => by
    by_cases q : 0 ≤ j ∧ j < μ 22 0
    · rw [if_pos q]
      have i2 := hI.2.1 j q.1 q.2
      have i3 := hI.2.2 (μ 18 j) i2.1 i2.2
      omega
    · rw [if_neg q]; omega) (i := μ 22 0) hI.1.1
  have e : fsC μ (μ 22 0) = sI (fun j => if 0 ≤ j ∧ j < μ 22 0 then μ 13 (μ 18 j) else 0) (μ 22 0) := sI_cg hI.1.1 (fun i h3 h4 => (if_pos ⟨h3, h4⟩).symm)
  have := hI.1
  rw [e]
  omega
theorem Rel_now {μ ν : Nat → Int → Int} (h : Rel μ ν) (hp : μ 23 0 = 1) : (0 ≤ ν 23 0 ∧ ν 23 0 < ν 18 (ν 14 0)) ∧ ν 18 (ν 14 0) = fsC μ (μ 22 0) ∧ fsC μ (μ 22 0) ≤ 512 := by
  have hI := Rel_IH h
  obtain ⟨⟨a1, a2, a3, a4, a5⟩, ⟨b1, b2, b3⟩, -⟩ := h.2.2.2.2.2 hp
  have e1 := b1 (μ 22 0) (by omega) (Int.le_refl _)
  have e2 := fsC_s μ a1.1
  have e3 := fsC_le hI (a := μ 24 0 + 1) (b := μ 22 0) (by omega) (by omega) (by omega)
  have e4 := fsC_le hI (a := 0) (b := μ 24 0) (by omega) a1.1 (by omega)
  have e5 : fsC μ 0 = 0 := sI_0 _
  have e6 := fsC_512 hI
  rw [← h.2.2.2.1.1, e1]
  omega
theorem Rel_same {μ ν ν2 : Nat → Int → Int} (h : Rel μ ν) (hS : Same ν ν2) : Rel μ ν2 := by
  have hnow := Rel_now h
  obtain ⟨hA, hB, hSg, hH, hM, hP⟩ := h
  obtain ⟨⟨s1, s2, s3, s4, s5, s6⟩, ⟨s7, s8, s9, s10, s11, s12, s13⟩, ⟨s14, s15, s18, s21, s22, s23, s24⟩, ⟨s25, s26, s27, s28, s29, s30⟩, sb⟩ := hS
  refine ⟨?_, hB, ?_, ?_, ?_, fun hp => ?_⟩
  · unfold RA
    rw [s1, s2, s3, s4, s5, s6, s7, s8, s9, s11, s13, s25]
    exact hA
  · unfold RS
    rw [s10, s12]
    exact hSg
  · unfold RH
    rw [s14, s15, s21]
    exact hH
  · unfold RM
    rw [s26, s27, s28, s29, s30, s18]
    exact hM
  · have hn := hnow hp
    obtain ⟨⟨a1, a2, a3, a4, a5⟩, ⟨b1, b2, b3⟩, ⟨c1, c2⟩, d⟩ := hP hp
    have hcB : ∀ i, 0 ≤ i → i < 512 → cB ν2 i = cB ν i := fun i h1 h2 => by
      unfold cB
      rw [(sb i h1 h2).1, (sb i h1 h2).2]
    refine ⟨⟨a1, a2, by rw [s22]; exact a3, by rw [s24]; exact a4, by rw [s23]; exact a5⟩, ⟨by rw [s18]; exact b1, fun j b h1 h2 h3 h4 => ?_, fun i h1 h2 => ?_⟩, ⟨?_, fun t s h1 h2 h3 h4 => ?_⟩, d⟩
    · have e1 := b2 j b h1 h2 h3 h4
      have hI : IH μ := Rel_IH ⟨hA, hB, hSg, hH, hM, hP⟩
      have e2 := fsC_s μ h1
      have e3 := fsC_le hI (a := j + 1) (b := μ 22 0) (by omega) (by omega) (by omega)
      have e4 := fsC_le hI (a := 0) (b := j) (by omega) h1 (by omega)
      have e5 : fsC μ 0 = 0 := sI_0 _
      rw [hcB _ (by omega) (by omega)]
      exact e1
    · have := sb i h1 (by omega)
      rw [this.1, this.2]
      exact b3 i h1 h2
    · rw [s23, hcB _ (by omega) (by omega)]
      exact c1
    · rw [c2 t s h1 h2 h3 h4]
      refine (nU_cg2 (ν := dT ν t) (ν2 := dT ν2 t) s3 s4 s5 s14 s18 s23 rfl hn.1.1 (fun i h5 h6 => ?_) s).symm
      have h7 : i < ν 18 (ν 14 0) := h6
      exact sb i h5 (by omega)
