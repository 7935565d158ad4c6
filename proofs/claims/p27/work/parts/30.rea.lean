/-! REL: kept by the plain calls -/
theorem iU_all {f : Int → Int} {P : Int → Prop} (h : ∀ i, P (f i)) {i v : Int} (hv : P v) : ∀ j, P (iU f i v j) := fun j => by
  unfold iU
  by_cases q : j = i
  · rw [if_pos q]; exact hv
  · rw [if_neg q]; exact h j
theorem Rel_setSize {μ ν : Nat → Int → Int} (h : Rel μ ν) (h0 : μ 23 0 = 0) {s v : Int} (hv : 1 ≤ v ∧ v ≤ 6) : Rel (mset μ 0 (iU (μ 0) s v)) (mset (mset ν 0 (fun _ => 0)) 1 (iU (ν 1) s v)) := by
  obtain ⟨⟨⟨e0, e1⟩, e2⟩, hB, hSg, hH, hM, hP⟩ := h
  refine ⟨⟨⟨?_, e1⟩, e2⟩, ⟨hB.1, iU_all (P := fun x => 1 ≤ x ∧ x ≤ 6) hB.2.1 hv, hB.2.2⟩, hSg, hH, hM, fun hp => ?_⟩
  · show iU (μ 0) s v = iU (ν 1) s v
    rw [e0]
  · have : μ 23 0 = 1 := hp
    omega
theorem Rel_setStep {μ ν : Nat → Int → Int} (h : Rel μ ν) (h0 : μ 23 0 = 0) {k v : Int} (hv : -1 ≤ v ∧ v ≤ 7) : Rel (mset μ 2 (iU (μ 2) k v)) (mset (mset ν 0 (fun _ => 0)) 3 (iU (ν 3) k v)) := by
  obtain ⟨⟨⟨e0, e1, e2, e3⟩, e4⟩, hB, hSg, hH, hM, hP⟩ := h
  refine ⟨⟨⟨e0, e1, ?_, e3⟩, e4⟩, ⟨⟨iU_all (P := fun x => -1 ≤ x ∧ x ≤ 7) hB.1.1 hv, hB.1.2⟩, hB.2⟩, hSg, hH, hM, fun hp => ?_⟩
  · show iU (μ 2) k v = iU (ν 3) k v
    rw [e2]
  · have : μ 23 0 = 1 := hp
    omega
theorem Rel_setFill {μ ν : Nat → Int → Int} (h : Rel μ ν) (h0 : μ 23 0 = 0) {k v : Int} (hv : -1 ≤ v ∧ v ≤ 7) : Rel (mset μ 3 (iU (μ 3) k v)) (mset (mset ν 0 (fun _ => 0)) 4 (iU (ν 4) k v)) := by
  obtain ⟨⟨⟨e0, e1, e2, e3, e4⟩, e5⟩, hB, hSg, hH, hM, hP⟩ := h
  refine ⟨⟨⟨e0, e1, e2, ?_, e4⟩, e5⟩, ⟨⟨hB.1.1, iU_all (P := fun x => -1 ≤ x ∧ x ≤ 7) hB.1.2.1 hv, hB.1.2.2⟩, hB.2⟩, hSg, hH, hM, fun hp => ?_⟩
  · show iU (μ 3) k v = iU (ν 4) k v
    rw [e3]
  · have : μ 23 0 = 1 := hp
    omega
theorem Rel_setFeel {μ ν : Nat → Int → Int} (h : Rel μ ν) (h0 : μ 23 0 = 0) {p v u : Int} (hv : 0 ≤ v ∧ v ≤ 6) (hu : 0 ≤ u ∧ u ≤ 8) : Rel (mset (mset μ 4 (iU (μ 4) p v)) 5 (iU (μ 5) p u)) (mset (mset (mset ν 0 (fun _ => 0)) 5 (iU (ν 5) p v)) 6 (iU (ν 6) p u)) := by
  obtain ⟨⟨⟨e0, e1, e2, e3, e4, e5⟩, e6⟩, hB, hSg, hH, hM, hP⟩ := h
  refine ⟨⟨⟨e0, e1, e2, e3, ?_, ?_⟩, e6⟩, ⟨⟨hB.1.1, hB.1.2.1, iU_all (P := fun x => 0 ≤ x ∧ x ≤ 6) hB.1.2.2.1 hv, iU_all (P := fun x => 0 ≤ x ∧ x ≤ 8) hB.1.2.2.2.1 hu, hB.1.2.2.2.2⟩, hB.2⟩, hSg, hH, hM, fun hp => ?_⟩
  · show iU (μ 4) p v = iU (ν 5) p v
    rw [e4]
  · show iU (μ 5) p u = iU (ν 6) p u
    rw [e5]
  · have : μ 23 0 = 1 := hp
    omega
theorem Rel_tune {μ ν : Nat → Int → Int} (h : Rel μ ν) {s v : Int} (hv : -12 ≤ v ∧ v ≤ 12) : Rel (mset μ 1 (iU (μ 1) s v)) (mset (mset ν 0 (fun _ => 0)) 2 (iU (ν 2) s v)) := by
  obtain ⟨⟨⟨e0, e1, e2⟩, e3⟩, hB, hSg, hH, hM, hP⟩ := h
  refine ⟨⟨⟨e0, ?_, e2⟩, e3⟩, ⟨⟨hB.1.1, hB.1.2.1, hB.1.2.2.1, hB.1.2.2.2.1, hB.1.2.2.2.2.1, hB.1.2.2.2.2.2.1, iU_all (P := fun x => -12 ≤ x ∧ x ≤ 12) hB.1.2.2.2.2.2.2 hv⟩, hB.2⟩, hSg, hH, hM, fun hp => ?_⟩
  · show iU (μ 1) s v = iU (ν 2) s v
    rw [e1]
  · obtain ⟨a, b, ⟨c1, c2⟩, d⟩ := hP hp
    refine ⟨a, b, ⟨c1, fun t s2 h1 h2 h3 h4 => ?_⟩, d⟩
    have e := nU_congr (ν := dT ν t) (ν2 := dT (mset (mset ν 0 (fun _ => 0)) 2 (iU (ν 2) s v)) t) rfl rfl rfl rfl rfl rfl rfl rfl rfl
    rw [e]
    exact c2 t s2 h1 h2 h3 h4
theorem cpF_all {h f : Int → Int} {P : Int → Prop} (h1 : ∀ i, P (h i)) (h2 : ∀ i, P (f i)) (q i : Int) : ∀ j, P (cpF h f q i j) := fun j => by
  unfold cpF
  by_cases z : q ≤ j ∧ j < q + i
  · rw [if_pos z]; exact h2 _
  · rw [if_neg z]; exact h1 _
theorem Rel_freeze {μ ν : Nat → Int → Int} (h : Rel μ ν) {p x : Int} (hx : 0 ≤ x ∧ x ≤ 1) : Rel (mset (mset μ 6 (iU (μ 6) p x)) 7 (frz μ p x)) (mset (mset (mset ν 0 (fun _ => 0)) 7 (iU (ν 7) p x)) 8 (frz (vw ν) p x)) := by
  obtain ⟨⟨⟨e0, e1, e2⟩, e6, e7, e8⟩, hB, hSg, hH, hM, hP⟩ := h
  have ef : frz μ p x = frz (vw ν) p x := by
    unfold frz
    rw [show μ 6 = vw ν 6 from e6, show μ 7 = vw ν 7 from e7, show μ 1 = vw ν 1 from e1]
  have hf : ∀ i, -12 ≤ frz μ p x i ∧ frz μ p x i ≤ 12 := by
    unfold frz
    by_cases q : x = 1 ∧ μ 6 p = 0
    · rw [if_pos q]; exact cpF_all (P := fun x => -12 ≤ x ∧ x ≤ 12) hB.1.2.2.2.2.2.1 hB.1.2.2.2.2.2.2 _ _
    · rw [if_neg q]; exact hB.1.2.2.2.2.2.1
  refine ⟨⟨⟨e0, e1, e2⟩, ?_, ef, e8⟩, ⟨⟨hB.1.1, hB.1.2.1, hB.1.2.2.1, hB.1.2.2.2.1, iU_all (P := fun x => 0 ≤ x ∧ x ≤ 1) hB.1.2.2.2.2.1 hx, hf, hB.1.2.2.2.2.2.2⟩, hB.2⟩, hSg, hH, hM, fun hp => ?_⟩
  · show iU (μ 6) p x = iU (ν 7) p x
    rw [e6]
  · obtain ⟨a, b, ⟨c1, c2⟩, d⟩ := hP hp
    refine ⟨a, b, ⟨c1, fun t s2 h1 h2 h3 h4 => ?_⟩, d⟩
    have e := nU_congr (ν := dT ν t) (ν2 := dT (mset (mset (mset ν 0 (fun _ => 0)) 7 (iU (ν 7) p x)) 8 (frz (vw ν) p x)) t) rfl rfl rfl rfl rfl rfl rfl rfl rfl
    rw [e]
    exact c2 t s2 h1 h2 h3 h4
theorem Rel_addToSet {μ ν : Nat → Int → Int} (h : Rel μ ν) (h0 : μ 23 0 = 0) {s : Int} (hs : 0 ≤ s ∧ s < 6) (hl : μ 22 0 < 8) : Rel (mset (mset μ 18 (iU (μ 18) (μ 22 0) s)) 22 (fun _ => μ 22 0 + 1)) (mset (mset (mset ν 0 (fun _ => 0)) 14 (fun _ => ν 14 0 + 1)) 15 (iU (ν 15) (ν 14 0) s)) := by
  obtain ⟨hA, hB, hSg, ⟨l1, l2, l3, l4⟩, hM, hP⟩ := h
  refine ⟨hA, hB, hSg, ⟨?_, ?_, fun j h1 h2 => ?_, l4⟩, hM, fun hp => ?_⟩
  · show μ 22 0 + 1 = ν 14 0 + 1
    rw [l1]
  · show 0 ≤ μ 22 0 + 1 ∧ μ 22 0 + 1 ≤ 8
    omega
  · have h2 : j < μ 22 0 + 1 := h2
    show iU (μ 18) (μ 22 0) s j = iU (ν 15) (ν 14 0) s j ∧ 0 ≤ iU (μ 18) (μ 22 0) s j ∧ iU (μ 18) (μ 22 0) s j < 6
    rw [← l1]
    by_cases q : j = μ 22 0
    · rw [q, iU_s, iU_s]; exact ⟨rfl, hs⟩
    · rw [iU_n _ _ q, iU_n _ _ q]; exact l3 j h1 (by omega)
  · have : μ 23 0 = 1 := hp
    omega
theorem Rel_clearSet {μ ν : Nat → Int → Int} (h : Rel μ ν) (h0 : μ 23 0 = 0) : Rel (mset μ 22 (fun _ => 0)) (mset (mset ν 0 (fun _ => 0)) 14 (fun _ => 0)) := by
  obtain ⟨hA, hB, hSg, ⟨l1, l2, l3, l4⟩, hM, hP⟩ := h
  refine ⟨hA, hB, hSg, ⟨rfl, (⟨Int.le_refl 0, by decide⟩ : (0 : Int) ≤ 0 ∧ (0 : Int) ≤ 8), fun j h1 h2 => ?_, l4⟩, hM, fun hp => ?_⟩
  · have h2 : j < 0 := h2
    omega
  · have : μ 23 0 = 1 := hp
    omega
