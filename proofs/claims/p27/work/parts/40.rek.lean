/-! REL: ticks; what both ask -/
def IC (μ : Nat → Int → Int) : Prop := ∃ ν, Rel μ ν
def IM (ν : Nat → Int → Int) : Prop := ∃ μ, Rel μ ν
theorem IC_s (m : Nat → Int → Int) (h : IC m) : (m 23 0 = 0 ∨ m 23 0 = 1) ∧ (m 23 0 = 1 → PT m ∧ IC (psT m)) := by
  obtain ⟨ν, h⟩ := h
  exact ⟨h.2.2.2.1.2.2.2.2, fun hp => ⟨Rel_PT h hp, psR ν, Rel_pass h hp⟩⟩
theorem IM_s (m : Nat → Int → Int) (h : IM m) : (m 21 0 = 0 ∨ m 21 0 = 1) ∧ (m 21 0 = 1 → PM m ∧ IM (psR m)) := by
  obtain ⟨μ, h⟩ := h
  have e := h.2.2.2.1.2.2.2.1
  have e2 := h.2.2.2.1.2.2.2.2
  exact ⟨by omega, fun hp => ⟨Rel_PM h (by omega), psT μ, Rel_pass h (by omega)⟩⟩
theorem Rel_tick {μ ν : Nat → Int → Int} (h : Rel μ ν) {n : Int} (hn : 0 ≤ n) : Rel (tkN μ n) (tkM ν n) := by
  obtain ⟨k, rfl⟩ := Int.eq_ofNat_of_zero_le hn
  induction k with
  | zero =>
    have e1 : tkN μ ((0 : Nat) : Int) = μ := itI_0 _ _
    have e2 : tkM ν ((0 : Nat) : Int) = r0 ν := itI_0 _ _
    rw [e1, e2]
    exact Rel_same h (Same_0 ν _)
  | succ k ih =>
    have ih := ih (by omega)
    have e1 : tkN μ ((k + 1 : Nat) : Int) = if tkN μ k 23 0 = 1 then psT (tkN μ k) else tkN μ k := itI_s (fun (_ : Int) (m : Nat → Int → Int) => if m 23 0 = 1 then psT m else m) μ (i := (k : Int)) (by omega)
    have e2 : tkM ν ((k + 1 : Nat) : Int) = if tkM ν k 21 0 = 1 then psR (tkM ν k) else tkM ν k := itI_s (fun (_ : Int) (m : Nat → Int → Int) => if m 21 0 = 1 then psR m else m) (r0 ν) (i := (k : Int)) (by omega)
    have e := ih.2.2.2.1.2.2.2.1
    rw [e1, e2, ← e]
    by_cases q : tkN μ k 23 0 = 1
    · rw [if_pos q, if_pos q]; exact Rel_pass ih q
    · rw [if_neg q, if_neg q]; exact ih
