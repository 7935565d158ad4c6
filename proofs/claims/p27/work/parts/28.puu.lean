/-! PURE: the memory -/
theorem itI_cg {σ : Type} {F G : Int → σ → σ} {g : σ} {n : Int} (hn : 0 ≤ n) (h : ∀ i x, 0 ≤ i → i < n → F i x = G i x) : itI F g n = itI G g n := by
  obtain ⟨m, rfl⟩ := Int.eq_ofNat_of_zero_le hn
  induction m with
  | zero => rw [show ((0 : Nat) : Int) = 0 from rfl, itI_0, itI_0]
  | succ m ih =>
    rw [show ((m + 1 : Nat) : Int) = (m : Int) + 1 from rfl, itI_s _ _ (by omega), itI_s _ _ (by omega), ih (by omega) (fun i x h1 h2 => h i x h1 (by omega)), h m _ (by omega) (by omega)]
theorem fNr_cg {u u2 z g : Int → Int} (h : ∀ i, 0 ≤ i → i < 8 → u i = u2 i) : fNr u z g 8 = fNr u2 z g 8 := itI_cg (by omega) (fun i x h1 h2 => by rw [h i h1 h2])
theorem fFr_cg {u u2 g : Int → Int} {x : Int} (h : ∀ i, 0 ≤ i → i < 8 → u i = u2 i) : fFr u g x 8 = fFr u2 g x 8 := itI_cg (by omega) (fun i y h1 h2 => by rw [h i h1 h2])
theorem fNr_z (u z g : Int → Int) : (fNr u z g 8).1 = -1 ∨ ((0 ≤ (fNr u z g 8).1 ∧ (fNr u z g 8).1 < 8) ∧ g (fNr u z g 8).1 < z (fNr u z g 8).1) := by
  refine (itI_ind (fun n (st : Int × Int) => n ≤ 8 → st.1 = -1 ∨ ((0 ≤ st.1 ∧ st.1 < 8) ∧ g st.1 < z st.1)) (fun _ => Or.inl rfl) (fun i st hi ih hn => ?_) (i := 8) (by omega)) (Int.le_refl _)
  by_cases q : u i < st.2 ∧ g i < z i
  · rw [if_pos q]; exact Or.inr ⟨⟨hi, by dsimp only; omega⟩, q.2⟩
  · rw [if_neg q]; exact ih (by omega)
theorem fFr_z (u g : Int → Int) (x : Int) : (fFr u g x 8).1 = -1 ∨ ((0 ≤ (fFr u g x 8).1 ∧ (fFr u g x 8).1 < 8) ∧ (fFr u g x 8).1 ≠ x ∧ 0 < g (fFr u g x 8).1) := by
  refine (itI_ind (fun n (st : Int × Int) => n ≤ 8 → st.1 = -1 ∨ ((0 ≤ st.1 ∧ st.1 < 8) ∧ st.1 ≠ x ∧ 0 < g st.1)) (fun _ => Or.inl rfl) (fun i st hi ih hn => ?_) (i := 8) (by omega)) (Int.le_refl _)
  by_cases q : i ≠ x ∧ 0 < g i ∧ st.2 ≤ u i
  · rw [if_pos q]; exact Or.inr ⟨⟨hi, by dsimp only; omega⟩, q.1, q.2.1⟩
  · rw [if_neg q]; exact ih (by omega)
/-- what the loader may do: nothing, take a page in hand, or give one up for it -/
theorem tkF_w (u z g : Int → Int) (pc : Int) : (∀ hd wk : Int, tkF u z (g, pc, hd, wk) = (g, pc, hd, wk)) ∨ (∃ i, ((0 ≤ i ∧ i < 8) ∧ g i < z i ∧ pc < 12) ∧ ∀ hd wk : Int, tkF u z (g, pc, hd, wk) = (g, pc, i, 0)) ∨ ∃ i o, ((0 ≤ i ∧ i < 8) ∧ g i < z i ∧ (0 ≤ o ∧ o < 8) ∧ o ≠ i ∧ 0 < g o ∧ ¬ pc < 12) ∧ ∀ hd wk : Int, tkF u z (g, pc, hd, wk) = (iU g o (g o + -1), pc + -1, i, 0) := by
  by_cases q : (fNr u z g 8).1 = -1
  · exact Or.inl fun hd wk => if_pos q
  · have h1 := fNr_z u z g
    by_cases q2 : pc < 12
    · exact Or.inr (Or.inl ⟨(fNr u z g 8).1, ⟨by omega, by omega, q2⟩, fun hd wk => (if_neg q).trans (if_pos q2)⟩)
    · have h2 := fFr_z u g (fNr u z g 8).1
      by_cases q3 : (fFr u g (fNr u z g 8).1 8).1 = -1 ∨ u (fFr u g (fNr u z g 8).1 8).1 ≤ u (fNr u z g 8).1
      · exact Or.inl fun hd wk => (if_neg q).trans ((if_neg q2).trans (if_pos q3))
      · exact Or.inr (Or.inr ⟨(fNr u z g 8).1, (fFr u g (fNr u z g 8).1 8).1, ⟨by omega, by omega, by omega, by omega, by omega, q2⟩, fun hd wk => (if_neg q).trans ((if_neg q2).trans (if_neg q3))⟩)
theorem tkF_cg {u u2 z g : Int → Int} (h : ∀ i, 0 ≤ i → i < 8 → u i = u2 i) (pc hd wk : Int) : tkF u z (g, pc, hd, wk) = tkF u2 z (g, pc, hd, wk) := by
  have e1 := fNr_cg (z := z) (g := g) h
  have h1 := fNr_z u2 z g
  unfold tkF
  dsimp only
  rw [e1]
  by_cases q : (fNr u2 z g 8).1 = -1
  · rw [if_pos q, if_pos q]
  · rw [if_neg q, if_neg q]
    by_cases q2 : pc < 12
    · rw [if_pos q2, if_pos q2]
    · have e2 := fFr_cg (g := g) (x := (fNr u2 z g 8).1) h
      have h2 := fFr_z u2 g (fNr u2 z g 8).1
      rw [if_neg q2, if_neg q2, e2, h (fNr u2 z g 8).1 (by omega) (by omega)]
      by_cases q4 : (fFr u2 g (fNr u2 z g 8).1 8).1 = -1
      · rw [if_pos (Or.inl q4), if_pos (Or.inl q4)]
      · rw [h (fFr u2 g (fNr u2 z g 8).1 8).1 (by omega) (by omega)]
/-- what the memory may hold while the set is played -/
def MI (z g : Int → Int) (pc hd wk : Int) : Prop := (∀ i, 0 ≤ g i ∧ g i ≤ z i) ∧ pc = sI g 8 ∧ (-1 ≤ hd ∧ hd < 8) ∧ (hd ≠ -1 → g hd < z hd ∧ pc ≤ 11 ∧ 0 ≤ wk ∧ wk ≤ 7) ∧ pc ≤ 12
/-- a tick of the loader: class and reference alike; and what it keeps -/
theorem ldF_w {u u2 z g : Int → Int} (h : ∀ i, 0 ≤ i → i < 8 → u i = u2 i) {pc hd wk wk2 : Int} (hM : MI z g pc hd wk) (hw : hd ≠ -1 → wk = wk2) :
    (ldF u2 z (g, pc, hd, wk2)).1 = (ldF u z (g, pc, hd, wk)).1 ∧ (ldF u2 z (g, pc, hd, wk2)).2.2.1 = (ldF u z (g, pc, hd, wk)).2.2.1 ∧ ((ldF u z (g, pc, hd, wk)).2.2.1 ≠ -1 → (ldF u2 z (g, pc, hd, wk2)).2.2.2 = (ldF u z (g, pc, hd, wk)).2.2.2) ∧ MI z (ldF u z (g, pc, hd, wk)).1 (ldF u z (g, pc, hd, wk)).2.1 (ldF u z (g, pc, hd, wk)).2.2.1 (ldF u z (g, pc, hd, wk)).2.2.2 := by
  obtain ⟨hg, hpc, hh, ht, h12⟩ := hM
  -- a tick of work on a page in hand
  have work : ∀ (g : Int → Int) (pc hd wk : Int), (∀ i, 0 ≤ g i ∧ g i ≤ z i) → pc = sI g 8 → (0 ≤ hd ∧ hd < 8) → g hd < z hd → pc ≤ 11 → (0 ≤ wk ∧ wk ≤ 7) → MI z (wkF (g, pc, hd, wk)).1 (wkF (g, pc, hd, wk)).2.1 (wkF (g, pc, hd, wk)).2.2.1 (wkF (g, pc, hd, wk)).2.2.2 := by
    intro g pc hd wk hg hpc hh hz h11 hwk
    by_cases q : wk + 1 < 8
    · have e : wkF (g, pc, hd, wk) = (g, pc, hd, wk + 1) := if_pos q
      rw [e]
      exact ⟨hg, hpc, by dsimp only; omega, fun _ => ⟨hz, h11, by dsimp only; omega⟩, by dsimp only; omega⟩
    · have e : wkF (g, pc, hd, wk) = (iU g hd (g hd + 1), pc + 1, -1, wk + 1) := if_neg q
      rw [e]
      refine ⟨fun i => ?_, ?_, by dsimp only; omega, fun hne => absurd rfl hne, by dsimp only; omega⟩
      · have := hg i
        have := hg hd
        show 0 ≤ iU g hd (g hd + 1) i ∧ iU g hd (g hd + 1) i ≤ z i
        by_cases q2 : i = hd
        · rw [q2, iU_s]; omega
        · rw [iU_n g _ q2]; omega
      · show pc + 1 = sI (iU g hd (g hd + 1)) 8
        rw [sI_iU g hh]; omega
  by_cases q : hd = -1
  · subst q
    have e1 : ∀ (u : Int → Int) (wk : Int), ldF u z (g, pc, -1, wk) = if (tkF u z (g, pc, -1, wk)).2.2.1 = -1 then tkF u z (g, pc, -1, wk) else wkF (tkF u z (g, pc, -1, wk)) := fun u wk => if_pos rfl
    have e2 := tkF_cg (z := z) (g := g) h pc (-1) wk2
    rw [e1 u2 wk2, ← e2, e1 u wk]
    rcases tkF_w u z g pc with a | ⟨i, b, a⟩ | ⟨i, o, b, a⟩
    · rw [a (-1) wk, a (-1) wk2]
      rw [if_pos (show ((g, pc, (-1 : Int), wk2) : (Int → Int) × Int × Int × Int).2.2.1 = -1 from rfl), if_pos (show ((g, pc, (-1 : Int), wk) : (Int → Int) × Int × Int × Int).2.2.1 = -1 from rfl)]
      exact ⟨rfl, rfl, fun hne => absurd rfl hne, hg, hpc, by dsimp only; omega, fun hne => absurd rfl hne, h12⟩
    · rw [a (-1) wk, a (-1) wk2, if_neg (by dsimp only; omega)]
      exact ⟨rfl, rfl, fun _ => rfl, work g pc i 0 hg hpc b.1 b.2.1 (by omega) (by omega)⟩
    · rw [a (-1) wk, a (-1) wk2, if_neg (by dsimp only; omega)]
      refine ⟨rfl, rfl, fun _ => rfl, work _ _ i 0 (fun j => ?_) ?_ b.1 ?_ (by omega) (by omega)⟩
      · have := hg j
        have := hg o
        by_cases q2 : j = o
        · rw [q2, iU_s]; omega
        · rw [iU_n g _ q2]; omega
      · rw [sI_iU g b.2.2.1]; omega
      · rw [iU_n g _ (fun z => b.2.2.2.1 z.symm)]; exact b.2.1
  · have e : ∀ (u : Int → Int) (wk : Int), ldF u z (g, pc, hd, wk) = wkF (g, pc, hd, wk) := fun u wk => if_neg q
    have hq := ht q
    rw [e, e, hw q]
    refine ⟨rfl, rfl, fun _ => rfl, ?_⟩
    rw [← hw q]
    exact work g pc hd wk hg hpc (by omega) hq.1 hq.2.1 hq.2.2
