/-! THE LAW'S NUMBERS κ beside an imagined reference state ν -/
def LA (ν κ : Nat → Int → Int) : Prop := (∀ k, 0 ≤ k → k < 64 → κ 0 k = ν 3 k + 1 ∧ κ 1 k = ν 3 (64 + k) + 1 ∧ κ 2 k = ν 3 (128 + k) + 1) ∧ (∀ k, 0 ≤ k → k < 48 → κ 3 k = ν 4 k + 1) ∧ ∀ k, 0 ≤ k → k < 3 → κ 4 k = ν 5 k ∧ κ 4 (3 + k) = ν 6 k
def LT (ν κ : Nat → Int → Int) : Prop := (∀ k, 0 ≤ k → k < 8 → κ 5 k = ν 1 k ∧ κ 5 (8 + k) = ν 2 k) ∧ (∀ j, 0 ≤ j → j < 24 → κ 5 (16 + j) = ν 8 j) ∧ κ 8 9 = ν 7 0 + 2 * ν 7 1 + 4 * ν 7 2
def LN (ν κ : Nat → Int → Int) : Prop := ∀ s, 0 ≤ s → s < 3 → (κ 7 s = ν 9 s ∧ 0 ≤ ν 9 s ∧ ν 9 s ≤ 4) ∧ ∀ e, 0 ≤ e → e < ν 9 s → (κ 6 (16 * s + 4 * e) = ν 10 (s * 8 + e) ∧ 0 ≤ ν 10 (s * 8 + e) ∧ ν 10 (s * 8 + e) < 3) ∧ κ 6 (16 * s + 4 * e + 1) = ν 11 (s * 8 + e) ∧ κ 6 (16 * s + 4 * e + 3) = ν 13 (s * 8 + e) ∧ (0 < ν 13 (s * 8 + e) → κ 6 (16 * s + 4 * e + 2) = ν 12 (s * 8 + e))
def LI (ν κ : Nat → Int → Int) : Prop := (κ 8 0 = ν 14 0 ∧ 0 ≤ ν 14 0 ∧ ν 14 0 ≤ 3) ∧ ∀ j, 0 ≤ j → j < ν 14 0 → κ 7 (3 + j) = ν 15 j ∧ 0 ≤ ν 15 j ∧ ν 15 j < 3
def LM (ν κ : Nat → Int → Int) : Prop := (∀ k, 0 ≤ k → k < 8 → κ 9 k = ν 25 k) ∧ (κ 8 4 = ν 26 0 + 1 ∧ κ 8 5 = ν 27 0) ∧ κ 8 6 = ν 28 0 ∧ κ 8 7 = ν 29 0 ∧ κ 8 8 = ν 30 0
def LC (ν κ : Nat → Int → Int) : Prop := ∀ i, 0 ≤ i → i < ν 18 (ν 14 0) → (0 ≤ ν 16 i ∧ ν 16 i < 3) ∧ (0 ≤ ν 17 i ∧ ν 17 i ≤ 1) ∧ ∃ j, (0 ≤ j ∧ j < ν 14 0) ∧ (ν 18 j ≤ i ∧ i < ν 18 (j + 1)) ∧ κ 10 i = 8 * j + 2 * ν 16 i + ν 17 i
def LG (ν κ : Nat → Int → Int) : Prop := (ν 18 (ν 14 0) ≤ 64 ∧ κ 8 1 = ν 18 (ν 14 0)) ∧ (κ 8 2 = ν 23 0 ∧ κ 8 3 = ν 24 0) ∧ LC ν κ
def LR (ν κ : Nat → Int → Int) : Prop := LA ν κ ∧ LT ν κ ∧ LN ν κ ∧ LI ν κ ∧ LM ν κ ∧ (ν 21 0 = 0 → κ 8 1 = 0) ∧ (ν 21 0 = 1 → LG ν κ)
/-- what 'uses' asks -/
def UH (ν κ : Nat → Int → Int) : Prop := IP (vw ν) ∧ (0 ≤ ν 23 0 ∧ ν 23 0 < ν 18 (ν 14 0)) ∧ (0 ≤ ν 24 0 ∧ ν 24 0 < 192) ∧ ν 14 0 ≤ 3 ∧ LA ν κ ∧ LG ν κ
/-- a step's sample, and 1; when a step begins -/
def hF (κ : Nat → Int → Int) (b t s : Int) : Int := if b % 2 = 1 ∧ 11 < s then κ 3 (16 * (b % 8 / 2) + 4 * t + s - 12) else if b % 8 / 2 = 0 then κ 0 (16 * t + s) else if b % 8 / 2 = 1 then κ 1 (16 * t + s) else κ 2 (16 * t + s)
def hB (κ : Nat → Int → Int) (b s : Int) : Int := 12 * s + s % 2 * κ 4 (b % 8 / 2)
theorem hF_sA {ν κ : Nat → Int → Int} (hA : LA ν κ) {b p f t s : Int} (hb : b % 8 = 2 * p + f) (hp : 0 ≤ p ∧ p < 3) (hf : 0 ≤ f ∧ f ≤ 1) (ht : 0 ≤ t ∧ t < 4) (hs : 0 ≤ s ∧ s < 16) : hF κ b t s = sA (vw ν) (10 * p + f) t s + 1 := by
  obtain ⟨h1, h2, -⟩ := hA
  have e1 : b % 8 / 2 = p := by omega
  have e2 : b % 2 = f := by omega
  have e3 : (10 * p + f) / 10 = p := by omega
  have e4 : (10 * p + f) % 10 = f := by omega
  unfold hF sA
  rw [e1, e2, e3, e4]
  by_cases q : f = 1 ∧ 11 < s
  · rw [if_pos q, if_pos (by omega)]
    show κ 3 (16 * p + 4 * t + s - 12) = ν 4 ((p * 4 + t) * 4 + s - 12) + 1
    rw [show (p * 4 + t) * 4 + s - 12 = 16 * p + 4 * t + s - 12 by omega]
    exact h2 _ (by omega) (by omega)
  · rw [if_neg q, if_neg (show ¬ (f = 1 ∧ 12 ≤ s) by omega)]
    show _ = ν 3 ((p * 4 + t) * 16 + s) + 1
    obtain ⟨a1, a2, a3⟩ := h1 (16 * t + s) (by omega) (by omega)
    by_cases q0 : p = 0
    · rw [if_pos q0, a1, show (p * 4 + t) * 16 + s = 16 * t + s by omega]
    · rw [if_neg q0]
      by_cases q1 : p = 1
      · rw [if_pos q1, a2, show (p * 4 + t) * 16 + s = 64 + (16 * t + s) by omega]
      · rw [if_neg q1, a3, show (p * 4 + t) * 16 + s = 128 + (16 * t + s) by omega]
theorem hB_tOf {ν κ : Nat → Int → Int} (hA : LA ν κ) {b p f s : Int} (hb : b % 8 = 2 * p + f) (hp : 0 ≤ p ∧ p < 3) (hf : 0 ≤ f ∧ f ≤ 1) : hB κ b s = tOf (vw ν) (10 * p + f) s := by
  have e1 : b % 8 / 2 = p := by omega
  have e3 : (10 * p + f) / 10 = p := by omega
  unfold hB tOf
  rw [e1, e3, swz, (hA.2.2 p hp.1 hp.2).1]
  show 12 * s + (if s % 2 = 1 then ν 5 p else 0) = s * 12 + (if s % 2 = 1 then ν 5 p else 0)
  omega
/-- a bar of the row -/
theorem LC_c {ν κ : Nat → Int → Int} (h : LC ν κ) (h14 : ν 14 0 ≤ 3) {i : Int} (hi : 0 ≤ i ∧ i < ν 18 (ν 14 0)) : ((0 ≤ ν 16 i ∧ ν 16 i < 3) ∧ 0 ≤ ν 17 i ∧ ν 17 i ≤ 1) ∧ (0 ≤ κ 10 i ∧ κ 10 i < 24) ∧ κ 10 i % 8 = 2 * ν 16 i + ν 17 i := by
  obtain ⟨h1, h2, j, h3, -, h4⟩ := h i hi.1 hi.2
  exact ⟨⟨h1, h2⟩, ⟨by omega, by omega⟩, by omega⟩
/-! USES, as the law lays them -/
def f6 (v : Int) : Int := if v = -1 then 1000000 else v
def uI (ν κ : Nat → Int → Int) (g : Int → Int) (k : Int) : Prop := (∀ j, 0 ≤ j → j < 8 → g j = κ 9 j) ∧ ∀ s, 0 ≤ s → s < 8 → g (8 + s) = f6 (nW ν s k)
def uJ (ν κ : Nat → Int → Int) (g : Int → Int) (k later t c st : Int) : Prop := (∀ j, 0 ≤ j → j < 8 → g j = κ 9 j) ∧ ∀ s, 0 ≤ s → s < 8 → ((∃ j, 0 ≤ j ∧ j < t ∧ sA (vw ν) c j st = s) → g (8 + s) = later) ∧ ((¬ ∃ j, 0 ≤ j ∧ j < t ∧ sA (vw ν) c j st = s) → g (8 + s) = f6 (nW ν s k))
theorem uI_0 {ν κ : Nat → Int → Int} {g : Int → Int} (h1 : ∀ j, 0 ≤ j → j < 8 → g j = κ 9 j) (h2 : ∀ j, 8 ≤ j → j < 16 → g j = 1000000) : uI ν κ g 0 := ⟨h1, fun s a b => by
  rw [h2 (8 + s) (by omega) (by omega), nW_0]
  rfl⟩
theorem uJ_0 {ν κ : Nat → Int → Int} {g : Int → Int} {k : Int} (h : uI ν κ g k) (later c st : Int) : uJ ν κ g k later 0 c st := ⟨h.1, fun s a b => ⟨fun ⟨j, x, y, _⟩ => absurd x (by omega), fun _ => h.2 s a b⟩⟩
theorem iU_self (g : Int → Int) (i : Int) : iU g i (g i) = g := by
  funext j
  unfold iU
  by_cases q : j = i
  · rw [if_pos q, q]
  · rw [if_neg q]
theorem uJ_n {ν κ : Nat → Int → Int} {g : Int → Int} {k later t c st : Int} (h : uJ ν κ g k later t c st) (hz : sA (vw ν) c t st = -1) : uJ ν κ g k later (t + 1) c st := by
  refine ⟨h.1, fun s a b => ?_⟩
  obtain ⟨h1, h2⟩ := h.2 s a b
  refine ⟨fun ⟨j, x, y, z⟩ => h1 ⟨j, x, ?_, z⟩, fun q => h2 fun ⟨j, x, y, z⟩ => q ⟨j, x, by omega, z⟩⟩
  by_cases e : j = t
  · rw [e, hz] at z; omega
  · omega
theorem uJ_s {ν κ : Nat → Int → Int} {g : Int → Int} {k later t c st v : Int} (ht : 0 ≤ t) (h : uJ ν κ g k later t c st) (hv : sA (vw ν) c t st + 1 = v) (hv2 : 0 < v ∧ v ≤ 8) : uJ ν κ (iU g (7 + v) later) k later (t + 1) c st := by
  refine ⟨fun j a b => by rw [iU_n g later (by omega)]; exact h.1 j a b, fun s a b => ?_⟩
  obtain ⟨h1, h2⟩ := h.2 s a b
  by_cases e : s = v - 1
  · refine ⟨fun _ => by rw [show 8 + s = 7 + v by omega]; exact iU_s g _ later, fun q => absurd ⟨t, ht, by omega, by omega⟩ q⟩
  · rw [iU_n g later (show 8 + s ≠ 7 + v by omega)]
    refine ⟨fun ⟨j, x, y, z⟩ => h1 ⟨j, x, ?_, z⟩, fun q => h2 fun ⟨j, x, y, z⟩ => q ⟨j, x, by omega, z⟩⟩
    by_cases e2 : j = t
    · rw [e2] at z; omega
    · omega
theorem uJ_e {ν κ : Nat → Int → Int} {g : Int → Int} {p later t c : Int} (hp : 0 ≤ p ∧ p < 64) (hb : ν 23 0 + p / 16 < ν 18 (ν 14 0)) (hl : nL ν p = later) (hc : cB ν (ν 23 0 + p / 16) = c) (h : uJ ν κ g (63 - p) later t c (p % 16)) (ht : t = 4 ∧ 0 < later ∨ t = 0 ∧ later ≤ 0) : uI ν κ g (64 - p) := by
  refine ⟨h.1, fun s a b => ?_⟩
  obtain ⟨h1, h2⟩ := h.2 s a b
  have e := nW_s ν s hp
  by_cases q : nC ν s p
  · obtain ⟨q1, q2, q3⟩ := id q
    rw [hl] at q2
    rw [hc] at q3
    rcases ht with ⟨t4, -⟩ | ⟨-, h0⟩
    · rw [h1 (by rw [t4]; exact q3), e.1 q, hl]
      exact (if_neg (by omega)).symm
    · omega
  · rw [e.2 q]
    refine h2 fun q3 => q ⟨hb, ?_, ?_⟩
    · rcases ht with ⟨-, h0⟩ | ⟨t0, -⟩
      · omega
      · obtain ⟨j, x, y, _⟩ := q3
        omega
    · rcases ht with ⟨t4, -⟩ | ⟨t0, -⟩
      · rw [hc, ← t4]; exact q3
      · obtain ⟨j, x, y, _⟩ := q3
        omega
theorem uI_s {ν κ : Nat → Int → Int} {g : Int → Int} {p : Int} (hp : 0 ≤ p ∧ p < 64) (hb : ¬ ν 23 0 + p / 16 < ν 18 (ν 14 0)) (h : uI ν κ g (63 - p)) : uI ν κ g (64 - p) := ⟨h.1, fun s a b => by
  rw [(nW_s ν s hp).2 fun q => hb q.1]
  exact h.2 s a b⟩
/-- a bar behind the last: all its places at once -/
theorem uI_bar {ν κ : Nat → Int → Int} {g : Int → Int} {h : Int} (hh : 0 ≤ h ∧ h ≤ 3) (hb : ¬ ν 23 0 + h < ν 18 (ν 14 0)) : ∀ n : Nat, (n : Int) ≤ 16 → uI ν κ g (16 * (3 - h) + 16 - n) → uI ν κ g (16 * (3 - h) + 16) := by
  intro n
  induction n with
  | zero =>
    intro _ k
    rw [show 16 * (3 - h) + 16 - ((0 : Nat) : Int) = 16 * (3 - h) + 16 by omega] at k
    exact k
  | succ n ih =>
    intro hn k
    refine ih (by omega) ?_
    have k2 := uI_s (ν := ν) (κ := κ) (g := g) (p := 16 * h + n) (by omega) (by rw [show (16 * h + (n : Int)) / 16 = h by omega]; exact hb) (by rw [show 63 - (16 * h + (n : Int)) = 16 * (3 - h) + 16 - ((n + 1 : Nat) : Int) by omega]; exact k)
    rw [show 64 - (16 * h + (n : Int)) = 16 * (3 - h) + 16 - (n : Int) by omega] at k2
    exact k2
