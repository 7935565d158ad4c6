/-! PURE: next uses, of the class and of the reference -/
theorem sA_cg {μ m : Nat → Int → Int} (h2 : μ 2 = m 2) (h3 : μ 3 = m 3) : sA μ = sA m := by
  funext c t s
  unfold sA
  rw [h2, h3]
theorem tOf_cg {μ m : Nat → Int → Int} (h4 : μ 4 = m 4) : tOf μ = tOf m := by
  funext c s
  unfold tOf
  rw [h4]
theorem sTa_cg {μ m : Nat → Int → Int} (h4 : μ 4 = m 4) : sTa μ = sTa m := by
  funext c s
  unfold sTa
  rw [tOf_cg h4]
theorem nSt_cg {μ m : Nat → Int → Int} (h2 : μ 2 = m 2) (h3 : μ 3 = m 3) : nSt μ = nSt m := by
  funext c s t g k
  unfold nSt
  rw [sA_cg h2 h3]
theorem nBr_cg {μ m : Nat → Int → Int} (h2 : μ 2 = m 2) (h3 : μ 3 = m 3) (h4 : μ 4 = m 4) : nBr μ = nBr m := by
  funext c f g k
  unfold nBr
  rw [nSt_cg h2 h3, tOf_cg h4]
theorem nDu_cg {μ m : Nat → Int → Int} (h2 : μ 2 = m 2) (h3 : μ 3 = m 3) (h4 : μ 4 = m 4) : nDu μ = nDu m := by
  funext c u k
  unfold nDu
  rw [nSt_cg h2 h3, sTa_cg h4]
theorem nSt_v (m : Nat → Int → Int) (c st t : Int) (g : Int → Int) {s : Int} (hs : 0 ≤ s) {k : Int} (hk : 0 ≤ k) : ((∃ j, 0 ≤ j ∧ j < k ∧ sA m c j st = s) → nSt m c st t g k s = t) ∧ ((¬ ∃ j, 0 ≤ j ∧ j < k ∧ sA m c j st = s) → nSt m c st t g k s = g s) := by
  refine itI_ind (fun k (h : Int → Int) => ((∃ j, 0 ≤ j ∧ j < k ∧ sA m c j st = s) → h s = t) ∧ ((¬ ∃ j, 0 ≤ j ∧ j < k ∧ sA m c j st = s) → h s = g s)) ⟨fun ⟨j, h1, h2, _⟩ => by omega, fun _ => rfl⟩ (fun i h hi ih => ?_) hk
  by_cases q : sA m c i st = s
  · have hn : ¬ sA m c i st = -1 := by omega
    rw [if_neg hn]
    refine ⟨fun _ => ?_, fun hz => absurd ⟨i, hi, by omega, q⟩ hz⟩
    rw [q, iU_s]
  · have e : (if sA m c i st = -1 then h else iU h (sA m c i st) t) s = h s := by
      by_cases q2 : sA m c i st = -1
      · rw [if_pos q2]
      · rw [if_neg q2, iU_n h t (fun z => q z.symm)]
    rw [e]
    refine ⟨fun hz => ih.1 ?_, fun hz => ih.2 fun hz2 => hz ?_⟩
    · obtain ⟨j, h1, h2, h3⟩ := hz
      refine ⟨j, h1, ?_, h3⟩
      by_cases e2 : j = i
      · rw [e2] at h3; exact absurd h3 q
      · omega
    · obtain ⟨j, h1, h2, h3⟩ := hz2
      exact ⟨j, h1, by omega, h3⟩
/-- the reference, its due tick at t -/
def dT (ν : Nat → Int → Int) (t : Int) : Nat → Int → Int := mset ν 24 (fun _ => t)
def n68 (r t : Int) : Int := if r = -1 then 768 else r + t
/-- the first use behind tick t, as a tick from the due bar's first on; 768: none -/
noncomputable def aB (ν : Nat → Int → Int) (s t : Int) : Int := n68 (nF (dT ν t) s) t
theorem nL_d (ν : Nat → Int → Int) (t p : Int) : nL (dT ν t) p = 192 * (p / 16) + tOf (vw ν) (cB ν (ν 23 0 + p / 16)) (p % 16) - t := rfl
theorem nC_d (ν : Nat → Int → Int) (s t p : Int) : nC (dT ν t) s p ↔ (ν 23 0 + p / 16 < ν 18 (ν 14 0) ∧ 0 < nL (dT ν t) p ∧ ∃ j, 0 ≤ j ∧ j < 4 ∧ sA (vw ν) (cB ν (ν 23 0 + p / 16)) j (p % 16) = s) := Iff.rfl
theorem nW_cs (ν : Nat → Int → Int) (s : Int) {k : Int} (hk : 0 ≤ k) : nW ν s k = -1 ∨ 0 < nW ν s k := by
  refine itI_ind (fun k (a : Int) => a = -1 ∨ 0 < a) (Or.inl rfl) (fun i a hi ih => ?_) hk
  by_cases c : nC ν s (63 - i)
  · rw [if_pos c]; exact Or.inr c.2.1
  · rw [if_neg c]; exact ih
/-- two due ticks: where no use lies between them the first use is the same -/
theorem nW_sh {ν : Nat → Int → Int} {s t t2 : Int} (ht : t2 ≤ t) {k : Int} (hk : 0 ≤ k) (hk2 : k ≤ 64) (hc : ∀ p, 0 ≤ p → 63 - p < k → p ≤ 63 → (nC (dT ν t2) s p ↔ nC (dT ν t) s p)) : n68 (nW (dT ν t2) s k) t2 = n68 (nW (dT ν t) s k) t := by
  obtain ⟨n, rfl⟩ := Int.eq_ofNat_of_zero_le hk
  induction n with
  | zero =>
    rw [show ((0 : Nat) : Int) = 0 from rfl, nW_0, nW_0]
    rfl
  | succ n ih =>
    have ih2 := ih (by omega) (by omega) (fun p h1 h2 h3 => hc p h1 (by omega) h3)
    have e := nW_s (dT ν t2) s (p := 63 - n) (by omega)
    have e2 := nW_s (dT ν t) s (p := 63 - n) (by omega)
    rw [show (64 : Int) - (63 - n) = ((n + 1 : Nat) : Int) by omega, show (63 : Int) - (63 - n) = (n : Int) by omega] at e e2
    have h3 := hc (63 - n) (by omega) (by omega) (by omega)
    by_cases q : nC (dT ν t) s (63 - n)
    · rw [e.1 (h3.mpr q), e2.1 q]
      have g1 := q.2.1
      have g2 := (h3.mpr q).2.1
      have g3 : nL (dT ν t2) (63 - n) + t2 = nL (dT ν t) (63 - n) + t := by rw [nL_d, nL_d]; omega
      unfold n68
      rw [if_neg (by omega), if_neg (by omega)]
      exact g3
    · rw [e.2 (fun z => q (h3.mp z)), e2.2 q]
      exact ih2
/-- the first place that is used is the answer -/
theorem nW_first {ν : Nat → Int → Int} {s q : Int} (hq : 0 ≤ q ∧ q < 64) (h : nC ν s q) (hb : ∀ p, 0 ≤ p → p < q → ¬ nC ν s p) : nF ν s = nL ν q := by
  have key : ∀ n : Nat, (n : Int) ≤ q → nW ν s (64 - n) = nF ν s := by
    intro n
    induction n with
    | zero => intro _; rfl
    | succ n ih =>
      intro hn
      have e := (nW_s ν s (p := (n : Int)) (by omega)).2 (hb n (by omega) (by omega))
      rw [show (63 : Int) - n = 64 - ((n + 1 : Nat) : Int) by omega] at e
      rw [← e]
      exact ih (by omega)
  obtain ⟨n, rfl⟩ := Int.eq_ofNat_of_zero_le hq.1
  rw [← key n (by omega)]
  exact (nW_s ν s (p := (n : Int)) (by omega)).1 h
/-- one tick back: what is used at tick t comes first -/
theorem aB_s {ν : Nat → Int → Int} (hI : IP (vw ν)) {s t : Int} (hs : 0 ≤ s) (ht : 0 ≤ t ∧ t < 192) (hn : ν 23 0 < ν 18 (ν 14 0)) : aB ν s (t - 1) = (if sTa (vw ν) (cB ν (ν 23 0)) t = -1 then aB ν s t else @ite Int (∃ j, 0 ≤ j ∧ j < 4 ∧ sA (vw ν) (cB ν (ν 23 0)) j (sTa (vw ν) (cB ν (ν 23 0)) t) = s) (Classical.propDecidable _) t (aB ν s t)) := by
  have hcs := sTa_cs (vw ν) (cB ν (ν 23 0)) t
  -- places 0..15 are the due bar's, the others lie behind it
  have same : (∀ p, 0 ≤ p → p ≤ 63 → nL (dT ν t) p = 0 → ¬ ∃ j, 0 ≤ j ∧ j < 4 ∧ sA (vw ν) (cB ν (ν 23 0 + p / 16)) j (p % 16) = s) → aB ν s (t - 1) = aB ν s t := by
    intro hz
    refine nW_sh (by omega) (by omega) (by omega) (fun p h1 h2 h3 => ?_)
    rw [nC_d, nC_d]
    have g3 : nL (dT ν (t - 1)) p = nL (dT ν t) p + 1 := by rw [nL_d, nL_d]; omega
    rw [g3]
    refine ⟨fun ⟨a, b, c⟩ => ⟨a, ?_, c⟩, fun ⟨a, b, c⟩ => ⟨a, by omega, c⟩⟩
    by_cases e : nL (dT ν t) p = 0
    · exact absurd c (hz p h1 h3 e)
    · omega
  have zero : ∀ p, 0 ≤ p → p ≤ 63 → nL (dT ν t) p = 0 → p / 16 = 0 ∧ tOf (vw ν) (cB ν (ν 23 0)) p = t := by
    intro p h1 h2 h3
    rw [nL_d] at h3
    have hb := tOf_bd hI (cB ν (ν 23 0 + p / 16)) (p % 16)
    have e : p / 16 = 0 := by omega
    have e2 : p % 16 = p := by omega
    rw [e, e2, Int.add_zero] at h3
    exact ⟨e, by omega⟩
  by_cases q : sTa (vw ν) (cB ν (ν 23 0)) t = -1
  · rw [if_pos q]
    refine same (fun p h1 h2 h3 _ => ?_)
    have h4 := (sTa_t hI).1 (zero p h1 h2 h3).2
    omega
  · rw [if_neg q]
    have hst : sTa (vw ν) (cB ν (ν 23 0)) t = t / 12 := by omega
    have htof : tOf (vw ν) (cB ν (ν 23 0)) (t / 12) = t := by
      unfold sTa at q
      by_cases e : tOf (vw ν) (cB ν (ν 23 0)) (t / 12) = t
      · exact e
      · rw [if_neg e] at q; exact absurd rfl q
    by_cases hx : ∃ j, 0 ≤ j ∧ j < 4 ∧ sA (vw ν) (cB ν (ν 23 0)) j (sTa (vw ν) (cB ν (ν 23 0)) t) = s
    · rw [if_pos hx]
      rw [hst] at hx
      have e16 : t / 12 / 16 = 0 := by omega
      have m16 : t / 12 % 16 = t / 12 := by omega
      have hl : nL (dT ν (t - 1)) (t / 12) = 1 := by rw [nL_d, e16, m16, Int.add_zero, htof]; omega
      have hc : nC (dT ν (t - 1)) s (t / 12) := by
        rw [nC_d, e16, m16, Int.add_zero, hl]
        exact ⟨hn, by omega, hx⟩
      have hf := nW_first (ν := dT ν (t - 1)) (s := s) (q := t / 12) (by omega) hc (fun p h1 h2 h3 => by
        have h4 := h3.2.1
        rw [nL_d, show p / 16 = 0 by omega, show p % 16 = p by omega, Int.add_zero] at h4
        have hb := tOf_bd hI (cB ν (ν 23 0)) p
        omega)
      unfold aB n68
      rw [hf, hl, if_neg (by omega)]
      omega
    · rw [if_neg hx]
      refine same (fun p h1 h2 h3 h4 => hx ?_)
      have h5 := zero p h1 h2 h3
      have h6 := (sTa_t hI).1 h5.2
      rw [h5.1, Int.add_zero, show p % 16 = p by omega] at h4
      rw [h6]
      exact h4
