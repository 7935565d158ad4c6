/-! REL: one tick, kept -/
/-- next uses, where only the set's bars agree -/
theorem nU_cg3 {ν ν2 : Nat → Int → Int} (h2 : vw ν2 2 = vw ν 2) (h3 : vw ν2 3 = vw ν 3) (h4 : vw ν2 4 = vw ν 4) (h18 : ν2 18 = ν 18) (h14 : ν2 14 0 = ν 14 0) (h23 : ν2 23 0 = ν 23 0) (h24 : ν2 24 0 = ν 24 0) (hn : 0 ≤ ν 23 0) (hb : ∀ i, 0 ≤ i → i < ν 18 (ν 14 0) → ν2 16 i = ν 16 i ∧ ν2 17 i = ν 17 i) (s : Int) : nU ν2 s = nU ν s := by
  have hc : ∀ p, 0 ≤ p → ν 23 0 + p / 16 < ν 18 (ν 14 0) → cB ν2 (ν 23 0 + p / 16) = cB ν (ν 23 0 + p / 16) := fun p h1 h5 => by
    have := hb (ν 23 0 + p / 16) (by omega) h5
    unfold cB
    rw [this.1, this.2]
  have hl : ∀ p, 0 ≤ p → ν 23 0 + p / 16 < ν 18 (ν 14 0) → nL ν2 p = nL ν p := fun p h1 h5 => by
    unfold nL
    rw [h23, h24, hc p h1 h5, tOf_cg h4]
  have e : nF ν2 s = nF ν s := by
    refine itI_cg (by omega) (fun i a h1 h5 => ?_)
    have hz : nC ν2 s (63 - i) ↔ nC ν s (63 - i) := by
      unfold nC
      rw [h14, h18, h23, sA_cg h2 h3]
      refine ⟨fun ⟨a, b, c⟩ => ⟨a, ?_, ?_⟩, fun ⟨a, b, c⟩ => ⟨a, ?_, ?_⟩⟩
      · rw [← hl _ (by omega) a]; exact b
      · rw [← hc _ (by omega) a]; exact c
      · rw [hl _ (by omega) a]; exact b
      · rw [hc _ (by omega) a]; exact c
    by_cases q : nC ν s (63 - i)
    · rw [if_pos q, if_pos (hz.mpr q)]
      exact hl _ (by omega) q.1
    · rw [if_neg q, if_neg (fun z => q (hz.mp z))]
  unfold nU
  rw [e]
theorem ld_wk (u z : Int → Int) {g : Int → Int} {pc hd wk : Int} (hw : 0 ≤ wk ∧ wk ≤ 8) (h7 : hd ≠ -1 → wk ≤ 7) : 0 ≤ (ldF u z (g, pc, hd, wk)).2.2.2 ∧ (ldF u z (g, pc, hd, wk)).2.2.2 ≤ 8 := by
  have work : ∀ (g : Int → Int) (pc hd wk : Int), (0 ≤ wk ∧ wk ≤ 7) → 0 ≤ (wkF (g, pc, hd, wk)).2.2.2 ∧ (wkF (g, pc, hd, wk)).2.2.2 ≤ 8 := by
    intro g pc hd wk h
    by_cases q : wk + 1 < 8
    · have e : wkF (g, pc, hd, wk) = (g, pc, hd, wk + 1) := if_pos q
      rw [e]; dsimp only; omega
    · have e : wkF (g, pc, hd, wk) = (iU g hd (g hd + 1), pc + 1, -1, wk + 1) := if_neg q
      rw [e]; dsimp only; omega
  by_cases q : hd = -1
  · subst q
    have e1 : ldF u z (g, pc, -1, wk) = if (tkF u z (g, pc, -1, wk)).2.2.1 = -1 then tkF u z (g, pc, -1, wk) else wkF (tkF u z (g, pc, -1, wk)) := if_pos rfl
    rw [e1]
    rcases tkF_w u z g pc with a | ⟨i, b, a⟩ | ⟨i, o, b, a⟩
    · rw [a (-1) wk, if_pos (show ((g, pc, (-1 : Int), wk) : (Int → Int) × Int × Int × Int).2.2.1 = -1 from rfl)]
      exact hw
    · rw [a (-1) wk, if_neg (by dsimp only; omega)]
      exact work _ _ _ _ (by omega)
    · rw [a (-1) wk, if_neg (by dsimp only; omega)]
      exact work _ _ _ _ (by omega)
  · have e : ldF u z (g, pc, hd, wk) = wkF (g, pc, hd, wk) := if_neg q
    rw [e]
    have := h7 q
    exact work _ _ _ _ (by omega)
