/-! PURE: what a bar that is entered leaves are the next uses -/
/-- the codes of the bars ahead, as the reference holds them -/
def hA4 (μ ν : Nat → Int → Int) : Prop := ∀ h, 0 ≤ h → h ≤ 3 → cAh μ h = (if ν 23 0 + h < ν 18 (ν 14 0) then cB ν (ν 23 0 + h) else -1)
theorem nBr_n {ν : Nat → Int → Int} (hI : IP (vw ν)) {s h : Int} (hs : 0 ≤ s) (hh : 1 ≤ h ∧ h ≤ 3) (hF : ν 23 0 + h < ν 18 (ν 14 0)) {g : Int → Int} (hg : g s = n68 (nW (dT ν 191) s (16 * (3 - h))) 191) {k : Int} (hk : 0 ≤ k) (hk2 : k ≤ 16) : nBr (vw ν) (cB ν (ν 23 0 + h)) (h * 192) g k s = n68 (nW (dT ν 191) s (16 * (3 - h) + k)) 191 := by
  refine itI_ind (fun k (f : Int → Int) => k ≤ 16 → f s = n68 (nW (dT ν 191) s (16 * (3 - h) + k)) 191) (fun _ => by rw [Int.add_zero]; exact hg) (fun i f hi ih hz => ?_) hk hk2
  have ih2 := ih (by omega)
  have hv := nSt_v (vw ν) (cB ν (ν 23 0 + h)) (15 - i) (h * 192 + tOf (vw ν) (cB ν (ν 23 0 + h)) (15 - i)) f hs (show (0 : Int) ≤ 4 by omega)
  have e := nW_s (dT ν 191) s (p := 16 * h + (15 - i)) (by omega)
  rw [show (64 : Int) - (16 * h + (15 - i)) = 16 * (3 - h) + (i + 1) by omega, show (63 : Int) - (16 * h + (15 - i)) = 16 * (3 - h) + i by omega] at e
  have hb := tOf_bd hI (cB ν (ν 23 0 + h)) (15 - i)
  have d1 : (16 * h + (15 - i)) / 16 = h := by omega
  have d2 : (16 * h + (15 - i)) % 16 = 15 - i := by omega
  have hl : nL (dT ν 191) (16 * h + (15 - i)) = 192 * h + tOf (vw ν) (cB ν (ν 23 0 + h)) (15 - i) - 191 := by rw [nL_d, d1, d2]
  by_cases q : ∃ j, 0 ≤ j ∧ j < 4 ∧ sA (vw ν) (cB ν (ν 23 0 + h)) j (15 - i) = s
  · rw [hv.1 q]
    have hc : nC (dT ν 191) s (16 * h + (15 - i)) := by
      rw [nC_d, d1, d2, hl]
      exact ⟨hF, by omega, q⟩
    rw [e.1 hc, hl]
    unfold n68
    rw [if_neg (by omega)]
    omega
  · rw [hv.2 q]
    have hc : ¬ nC (dT ν 191) s (16 * h + (15 - i)) := by
      rw [nC_d, d1, d2]
      exact fun z => q z.2.2
    rw [e.2 hc]
    exact ih2
theorem nW_no {ν : Nat → Int → Int} {s h : Int} (hh : 0 ≤ h ∧ h ≤ 3) (hF : ¬ ν 23 0 + h < ν 18 (ν 14 0)) {k : Int} (hk : 0 ≤ k) (hk2 : k ≤ 16) : nW (dT ν 191) s (16 * (3 - h) + k) = nW (dT ν 191) s (16 * (3 - h)) := by
  obtain ⟨n, rfl⟩ := Int.eq_ofNat_of_zero_le hk
  induction n with
  | zero => rw [show ((0 : Nat) : Int) = 0 from rfl, Int.add_zero]
  | succ n ih =>
    rw [← ih (by omega) (by omega)]
    have e := nW_s (dT ν 191) s (p := 16 * h + (15 - n)) (by omega)
    rw [show (64 : Int) - (16 * h + (15 - n)) = 16 * (3 - h) + ((n + 1 : Nat) : Int) by omega, show (63 : Int) - (16 * h + (15 - n)) = 16 * (3 - h) + (n : Int) by omega] at e
    refine e.2 ?_
    rw [nC_d, show (16 * h + (15 - (n : Int))) / 16 = h by omega]
    exact fun z => hF z.1
theorem ebN_n {μ ν : Nat → Int → Int} (hI : IP (vw ν)) (h2 : μ 2 = vw ν 2) (h3 : μ 3 = vw ν 3) (h4 : μ 4 = vw ν 4) (hc : hA4 μ ν) (hp : ∀ i, 0 ≤ i → i < ν 18 (ν 14 0) → 0 ≤ cB ν i) (hnow : 0 ≤ ν 23 0) {s : Int} (hs : 0 ≤ s) {k : Int} (hk : 0 ≤ k) (hk2 : k ≤ 3) : ebN μ k s = n68 (nW (dT ν 191) s (16 * k)) 191 := by
  refine itI_ind (fun k (f : Int → Int) => k ≤ 3 → f s = n68 (nW (dT ν 191) s (16 * k)) 191) (fun _ => by rw [Int.mul_zero, nW_0]; rfl) (fun i f hi ih hz => ?_) hk hk2
  have ih2 := ih (by omega)
  have e := hc (3 - i) (by omega) (by omega)
  have h16 : 16 * (3 - (3 - i)) = 16 * i := by omega
  by_cases q : ν 23 0 + (3 - i) < ν 18 (ν 14 0)
  · rw [if_pos q] at e
    have h0 := hp _ (by omega) q
    have e2 := nBr_n hI (g := f) hs (h := 3 - i) (by omega) q (by rw [h16]; exact ih2) (k := 16) (by omega) (by omega)
    rw [if_neg (by omega), e, nBr_cg h2 h3 h4, e2, h16, show 16 * i + 16 = 16 * (i + 1) by omega]
  · rw [if_neg q] at e
    have e2 := nW_no (s := s) (h := 3 - i) (by omega) q (k := 16) (by omega) (by omega)
    rw [h16] at e2
    rw [if_pos e, show 16 * (i + 1) = 16 * i + 16 by omega, e2]
    exact ih2
theorem aB_191 {ν : Nat → Int → Int} (hI : IP (vw ν)) (s : Int) : aB ν s 191 = n68 (nW (dT ν 191) s 48) 191 := by
  have key : ∀ n : Nat, (n : Int) ≤ 16 → nW (dT ν 191) s (48 + n) = nW (dT ν 191) s 48 := by
    intro n
    induction n with
    | zero => intro _; rfl
    | succ n ih =>
      intro hn
      rw [← ih (by omega)]
      have e := nW_s (dT ν 191) s (p := 15 - n) (by omega)
      rw [show (64 : Int) - (15 - n) = 48 + ((n + 1 : Nat) : Int) by omega, show (63 : Int) - (15 - n) = 48 + (n : Int) by omega] at e
      refine e.2 fun z => ?_
      have h4 := z.2.1
      rw [nL_d] at h4
      have hb := tOf_bd hI (cB ν (ν 23 0 + (15 - (n : Int)) / 16)) ((15 - (n : Int)) % 16)
      omega
  unfold aB
  rw [← key 16 (by omega)]
  rfl
theorem nF_abs {ν : Nat → Int → Int} (hI : IP (vw ν)) (s t : Int) : nF (dT ν t) s = -1 ∨ 0 < nF (dT ν t) s ∧ nF (dT ν t) s + t ≤ 762 := by
  refine (itI_ind (fun i (a : Int) => i ≤ 64 → a = -1 ∨ 0 < a ∧ a + t ≤ 762) (fun _ => Or.inl rfl) (fun i a hi ih hq => ?_) (i := 64) (by omega)) (Int.le_refl _)
  by_cases c : nC (dT ν t) s (63 - i)
  · rw [if_pos c]
    have h1 := c.2.1
    have h2 := tOf_bd hI (cB ν (ν 23 0 + (63 - i) / 16)) ((63 - i) % 16)
    rw [nL_d] at h1 ⊢
    omega
  · rw [if_neg c]
    exact ih (by omega)
theorem kU_aB {ν : Nat → Int → Int} (hI : IP (vw ν)) (s t : Int) : kU (aB ν s t) t = nU (dT ν t) s := by
  have h := nF_abs hI s t
  unfold kU aB n68 nU
  rcases h with h | h
  · rw [if_pos h, if_pos rfl, if_pos h]
  · rw [if_neg (show ¬ nF (dT ν t) s = -1 by omega), if_neg (show ¬ nF (dT ν t) s + t = 768 by omega), if_neg (show ¬ nF (dT ν t) s = -1 by omega)]
    omega
theorem nDu_n {ν : Nat → Int → Int} (hI : IP (vw ν)) (hn : ν 23 0 < ν 18 (ν 14 0)) {U g : Int → Int} (hg : ∀ s, 0 ≤ s → s < 8 → g s = aB ν s 191) {k : Int} (hk : 0 ≤ k) (hk2 : k ≤ 192) : (∀ s, 0 ≤ s → s < 8 → (nDu (vw ν) (cB ν (ν 23 0)) (U, g) k).2 s = aB ν s (191 - k)) ∧ ∀ t s, 192 - k ≤ t → t < 192 → 0 ≤ s → s < 8 → (nDu (vw ν) (cB ν (ν 23 0)) (U, g) k).1 (t * 8 + s) = kU (aB ν s t) t := by
  refine itI_ind (fun k (h : (Int → Int) × (Int → Int)) => k ≤ 192 → (∀ s, 0 ≤ s → s < 8 → h.2 s = aB ν s (191 - k)) ∧ ∀ t s, 192 - k ≤ t → t < 192 → 0 ≤ s → s < 8 → h.1 (t * 8 + s) = kU (aB ν s t) t) (fun _ => ⟨fun s h1 h2 => by rw [show (191 : Int) - 0 = 191 from rfl]; exact hg s h1 h2, fun t s h1 h2 h3 h4 => by omega⟩) (fun i h hi ih hz => ?_) hk hk2
  obtain ⟨ih1, ih2⟩ := ih (by omega)
  refine ⟨fun s h1 h2 => ?_, fun t s h1 h2 h3 h4 => ?_⟩
  · show (if sTa (vw ν) (cB ν (ν 23 0)) (191 - i) = -1 then h.2 else nSt (vw ν) (cB ν (ν 23 0)) (sTa (vw ν) (cB ν (ν 23 0)) (191 - i)) (191 - i) h.2 4) s = aB ν s (191 - (i + 1))
    rw [show (191 : Int) - (i + 1) = (191 - i) - 1 by omega, aB_s hI h1 (t := 191 - i) (by omega) hn]
    by_cases q : sTa (vw ν) (cB ν (ν 23 0)) (191 - i) = -1
    · rw [if_pos q, if_pos q]
      exact ih1 s h1 h2
    · rw [if_neg q, if_neg q]
      have hv := nSt_v (vw ν) (cB ν (ν 23 0)) (sTa (vw ν) (cB ν (ν 23 0)) (191 - i)) (191 - i) h.2 h1 (show (0 : Int) ≤ 4 by omega)
      by_cases q2 : ∃ j, 0 ≤ j ∧ j < 4 ∧ sA (vw ν) (cB ν (ν 23 0)) j (sTa (vw ν) (cB ν (ν 23 0)) (191 - i)) = s
      · rw [if_pos q2, hv.1 q2]
      · rw [if_neg q2, hv.2 q2]
        exact ih1 s h1 h2
  · show cpF h.1 (fun s => kU (h.2 s) (191 - i)) ((191 - i) * 8) 8 (t * 8 + s) = kU (aB ν s t) t
    unfold cpF
    by_cases q : t = 191 - i
    · rw [q, if_pos (by omega), show (191 - i) * 8 + s - (191 - i) * 8 = s by omega]
      show kU (h.2 s) (191 - i) = _
      rw [ih1 s h3 h4]
    · rw [if_neg (by omega)]
      exact ih2 t s (by omega) h2 h3 h4
/-- a bar entered: the next uses at each of its ticks -/
theorem enX_n {μ ν : Nat → Int → Int} (hI : IP (vw ν)) (h2 : μ 2 = vw ν 2) (h3 : μ 3 = vw ν 3) (h4 : μ 4 = vw ν 4) (hc : hA4 μ ν) (hp : ∀ i, 0 ≤ i → i < ν 18 (ν 14 0) → 0 ≤ cB ν i) (hnow : 0 ≤ ν 23 0) (hn : ν 23 0 < ν 18 (ν 14 0)) (U : Int → Int) {t s : Int} (ht : 0 ≤ t ∧ t < 192) (hs : 0 ≤ s ∧ s < 8) : (enX μ U).1 (t * 8 + s) = nU (dT ν t) s := by
  have e0 := hc 0 (by omega) (by omega)
  rw [Int.add_zero, if_pos hn] at e0
  have e := (nDu_n hI hn (U := U) (g := ebN μ 3) (fun s h1 _ => by rw [aB_191 hI]; exact ebN_n hI h2 h3 h4 hc hp hnow h1 (by omega) (by omega)) (k := 192) (by omega) (by omega)).2 t s (by omega) ht.2 hs.1 hs.2
  unfold enX
  rw [e0, nDu_cg h2 h3 h4, e, kU_aB hI]
