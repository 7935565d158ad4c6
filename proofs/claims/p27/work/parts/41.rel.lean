/-! REL: a song skipped; the start -/
def skR (ν : Nat → Int → Int) : Nat → Int → Int := mset (mset (mset (mset (mset ν 0 (fun _ => 0)) 21 (fun _ => (if ν 22 0 + 1 < ν 14 0 then 1 else 0))) 22 (fun _ => ν 22 0 + 1)) 23 (fun _ => ν 18 (ν 22 0 + 1))) 24 (fun _ => 0)
theorem sk_hA4 {μ ν : Nat → Int → Int} (h : Rel μ ν) (hp : μ 23 0 = 1) (hq : μ 24 0 + 1 < μ 22 0) : hA4 (skM μ) (skR ν) ∧ (skR ν) 18 ((skR ν) 14 0) = fsC μ (μ 22 0) ∧ (skR ν) 23 0 = fsC μ (μ 24 0 + 1) ∧ 0 ≤ fsC μ (μ 24 0 + 1) ∧ fsC μ (μ 24 0 + 1) < fsC μ (μ 22 0) := by
  have hI := Rel_IH h
  obtain ⟨n1, n2, n3⟩ := Rel_now h hp
  obtain ⟨⟨a1, a2, a3, a4, a5⟩, ⟨b1, b2, b3⟩, c, d⟩ := h.2.2.2.2.2 hp
  have hL := h.2.2.2.1.1
  have hL8 := h.2.2.2.1.2.1
  have e1 := b1 (μ 24 0 + 1) (by omega) (by omega)
  have nz := d.2 (μ 24 0 + 1) (by omega) hq
  have i2 := hI.2.1 (μ 24 0 + 1) (by omega) hq
  have i3 := hI.2.2 _ i2.1 i2.2
  have e2 := fsC_s μ (j := μ 24 0 + 1) (by omega)
  have e3 := fsC_le hI (a := μ 24 0 + 1 + 1) (b := μ 22 0) (by omega) (by omega) (by omega)
  have e4 := fsC_le hI (a := 0) (b := μ 24 0 + 1) (by omega) (by omega) (by omega)
  have e5 : fsC μ 0 = 0 := sI_0 _
  have e6 : (skR ν) 23 0 = fsC μ (μ 24 0 + 1) := by
    show ν 18 (ν 22 0 + 1) = _
    rw [a3, e1]
  refine ⟨cAh_h (μ := skM μ) (ν := skR ν) hI ⟨⟨?_, ?_⟩, (⟨Int.le_refl 0, by decide⟩ : (0 : Int) ≤ 0 ∧ (0 : Int) < 64)⟩ hL.symm (b1 (μ 22 0) hL8.1 (Int.le_refl _)) (by rw [e6]; show fsC μ (μ 24 0 + 1) = fsC μ (μ 24 0 + 1) + 0; omega) b2, n2, e6, by omega, by omega⟩
  · show 0 ≤ μ 24 0 + 1
    omega
  · show μ 24 0 + 1 ≤ μ 22 0
    omega
theorem sk_bd {μ ν : Nat → Int → Int} (h : Rel μ ν) (hp : μ 23 0 = 1) (hq : μ 24 0 + 1 < μ 22 0) : 0 ≤ cAh (skM μ) 0 ∧ cAh (skM μ) 0 < 120 := by
  obtain ⟨x1, x2, x3, x4, x5⟩ := sk_hA4 h hp hq
  have e := x1 0 (by omega) (by omega)
  have hb := Rel_cB h hp (i := fsC μ (μ 24 0 + 1)) ⟨x4, x5⟩
  rw [e, x2, x3, Int.add_zero, if_pos x5]
  exact hb
theorem Rel_skip {μ ν : Nat → Int → Int} (h : Rel μ ν) (hp : μ 23 0 = 1) : Rel (skE μ) (skR ν) := by
  have hIv := Rel_IP h
  have hvw := RA_vw h.1
  have hI := Rel_IH h
  have hsk := sk_hA4 h hp
  have hcBb := fun i (hi : 0 ≤ i ∧ i < fsC μ (μ 22 0)) => Rel_cB h hp hi
  obtain ⟨hA, hB, hSg, hH, hM, hP⟩ := h
  obtain ⟨⟨a1, a2, a3, a4, a5⟩, b, ⟨c1, c2⟩, d⟩ := hP hp
  have e21 : (if ν 22 0 + 1 < ν 14 0 then (1 : Int) else 0) = if μ 24 0 + 1 < μ 22 0 then 1 else 0 := by rw [a3, hH.1]
  have z9 : (0 : Int) ≤ 0 ∧ (0 : Int) < 192 := ⟨Int.le_refl 0, by decide⟩
  by_cases q : μ 24 0 + 1 < μ 22 0
  · have es : skE μ = enM (skM μ) := if_pos q
    obtain ⟨x1, x2, x3, x4, x5⟩ := hsk q
    rw [es]
    refine ⟨hA, ⟨hB.1, hB.2.1, hB.2.2.1, enX_b (m := skM μ) hB.1 hB.2.2.2⟩, hSg, ⟨hH.1, hH.2.1, hH.2.2.1, e21.symm, ?_⟩, ⟨hM.1, hM.2.1, z9, hM.2.2.2⟩, fun _ => ⟨⟨⟨?_, q⟩, ⟨Int.le_refl 0, ?_⟩, ?_, rfl, ?_⟩, b, ⟨?_, fun t s h2 h3 h4 h5 => ?_⟩, d⟩⟩
    · show (if μ 24 0 + 1 < μ 22 0 then (1 : Int) else 0) = 0 ∨ (if μ 24 0 + 1 < μ 22 0 then (1 : Int) else 0) = 1
      rw [if_pos q]; exact Or.inr rfl
    · show 0 ≤ μ 24 0 + 1
      omega
    · show 0 < μ 13 (μ 18 (μ 24 0 + 1))
      have nz := d.2 (μ 24 0 + 1) (by omega) q
      have i2 := hI.2.1 (μ 24 0 + 1) (by omega) q
      have i3 := hI.2.2 _ i2.1 i2.2
      omega
    · show ν 22 0 + 1 = μ 24 0 + 1
      omega
    · rw [x3]
      show fsC μ (μ 24 0 + 1) = fsC μ (μ 24 0 + 1) + 0
      omega
    · show cAh (skM μ) 0 = cB (skR ν) ((skR ν) 23 0)
      have e := x1 0 (by omega) (by omega)
      rw [e, x2, x3, Int.add_zero, if_pos x5]
    · have h2 : 0 ≤ t := h2
      exact enX_n (μ := skM μ) (ν := skR ν) hIv hvw.2.2.1 hvw.2.2.2.1 hvw.2.2.2.2.1 x1 (fun i y1 y2 => (hcBb i ⟨y1, by rw [← x2]; exact y2⟩).1) (by rw [x3]; exact x4) (by rw [x2, x3]; exact x5) (μ 19) (t := t) (s := s) ⟨h2, h3⟩ ⟨h4, h5⟩
  · have es : skE μ = skM μ := if_neg q
    rw [es]
    refine ⟨hA, hB, hSg, ⟨hH.1, hH.2.1, hH.2.2.1, e21.symm, ?_⟩, ⟨hM.1, hM.2.1, z9, hM.2.2.2⟩, fun z => ?_⟩
    · show (if μ 24 0 + 1 < μ 22 0 then (1 : Int) else 0) = 0 ∨ (if μ 24 0 + 1 < μ 22 0 then (1 : Int) else 0) = 1
      rw [if_neg q]; exact Or.inl rfl
    · have z : (if μ 24 0 + 1 < μ 22 0 then (1 : Int) else 0) = 1 := z
      rw [if_neg q] at z
      omega
theorem lB_no (P R G T : Int → Int) : lB 0 P R G T = 0 := lB_of ⟨Int.le_refl 0, by decide⟩ (fun j h1 h2 => by omega) (Or.inr (by rw [lay_0]; exact Int.le_refl 0))
/-- how it all begins -/
theorem Rel_init : Rel mu0 nu0 := by
  refine ⟨⟨⟨rfl, rfl, rfl, rfl, rfl, rfl⟩, rfl, rfl, rfl, rfl, rfl, rfl⟩, ⟨⟨fun _ => ?_, fun _ => ?_, fun _ => ?_, fun _ => ?_, fun _ => ?_, fun _ => ?_, fun _ => ?_⟩, fun _ => ?_, fun _ => ?_, fun _ => ?_⟩, fun s h1 h2 => ⟨⟨?_, fun e h3 h4 => ?_⟩, fun e h3 h4 => ?_, fun _ _ _ => rfl, ?_, fun b h3 h4 => ?_⟩, ⟨rfl, ?_, fun j h3 h4 => ?_, rfl, Or.inl rfl⟩, ⟨⟨rfl, ?_, fun z => absurd rfl z, fun _ => rfl, ?_, ?_, (sI_z (by omega)).symm⟩, ⟨rfl, rfl, rfl⟩, ?_, fun j _ _ => ?_⟩, fun z => ?_⟩
  all_goals first
    | exact (⟨by decide, by decide⟩ : (-1 : Int) ≤ -1 ∧ (-1 : Int) ≤ 7)
    | exact (⟨by decide, by decide⟩ : (0 : Int) ≤ 0 ∧ (0 : Int) ≤ 6)
    | exact (⟨by decide, by decide⟩ : (0 : Int) ≤ 0 ∧ (0 : Int) ≤ 8)
    | exact (⟨by decide, by decide⟩ : (0 : Int) ≤ 0 ∧ (0 : Int) ≤ 1)
    | exact (⟨by decide, by decide⟩ : (-12 : Int) ≤ 0 ∧ (0 : Int) ≤ 12)
    | exact (⟨by decide, by decide⟩ : (1 : Int) ≤ 1 ∧ (1 : Int) ≤ 6)
    | exact (⟨by decide, by decide⟩ : (-200 : Int) ≤ 768 ∧ (768 : Int) ≤ 768)
    | exact (⟨by decide, by decide⟩ : (-1 : Int) ≤ -1 ∧ (-1 : Int) < 8)
    | exact (⟨by decide, by decide⟩ : (0 : Int) ≤ 0 ∧ (0 : Int) ≤ 7)
    | exact (⟨by decide, by decide⟩ : (0 : Int) ≤ 0 ∧ (0 : Int) < 192)
    | exact (⟨by decide, by decide⟩ : (0 : Int) ≤ 0 ∧ (0 : Int) ≤ 512)
    | exact (lB_no _ _ _ _).symm
    | exact absurd (show e < 0 from h4) (by omega)
    | exact absurd (show b < 0 from h4) (by omega)
    | exact absurd (show j < 0 from h4) (by omega)
    | exact absurd (show (0 : Int) = 1 from z) (by decide)
