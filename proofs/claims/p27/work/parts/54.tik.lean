/-! A TICK, as the law has it -/
noncomputable def uW (ν : Nat → Int → Int) (k : Int) : Int × Int × Int := uV ν (k / 4) (k % 4)
theorem uW_0 {ν : Nat → Int → Int} (hI : IP (vw ν)) (hd : 0 ≤ ν 24 0) : uW ν 0 = (ν 28 0, ν 29 0, ν 30 0) := by
  unfold uW
  rw [show (0 : Int) / 4 = 0 by omega, show (0 : Int) % 4 = 0 by omega, u_a hI (by omega), u_d ν hd]
theorem uW_64 {ν : Nat → Int → Int} (hI : IP (vw ν)) (hd : 0 ≤ ν 24 0 ∧ ν 24 0 < 192) : uW ν 64 = plR ν := by
  unfold uW
  rw [show (64 : Int) / 4 = 16 by omega, show (64 : Int) % 4 = 0 by omega, u_a hI (by omega), u_e ν hd]
theorem uV_z {ν : Nat → Int → Int} {y t : Int} (ht : 0 ≤ t) (h : tOf (vw ν) (cB ν (ν 23 0)) y = ν 24 0) : uV ν y (t + 1) = if sA (vw ν) (cB ν (ν 23 0)) t y = -1 then uV ν y t else psF (vx ν) (cB ν (ν 23 0)) (sA (vw ν) (cB ν (ν 23 0)) t y) (uV ν y t) := by
  unfold uV
  rw [if_pos h, if_pos h]
  exact itI_s _ _ ht
theorem uW_s {ν : Nat → Int → Int} {k : Int} (hI : IP (vw ν)) (hk : 0 ≤ k) : uW ν (k + 1) = uV ν (k / 4) (k % 4 + 1) := by
  unfold uW
  by_cases q : k % 4 = 3
  · rw [show (k + 1) / 4 = k / 4 + 1 by omega, show (k + 1) % 4 = 0 by omega, q, show (3 : Int) + 1 = 4 by omega, u_a hI (by omega)]
    by_cases h : tOf (vw ν) (cB ν (ν 23 0)) (k / 4) = ν 24 0
    · rw [u_b hI (by omega) h]
    · rw [u_c hI (by omega) h]
  · rw [show (k + 1) / 4 = k / 4 by omega, show (k + 1) % 4 = k % 4 + 1 by omega]
/-- the sounds so far -/
def tkL (ν κ : Nat → Int → Int) (f : Int → Int) (k : Int) : Prop := (f 6 = (uW ν k).1 ∧ f 7 = (uW ν k).2.1 ∧ f 8 = (uW ν k).2.2) ∧ ∀ j, j ≠ 6 → j ≠ 7 → j ≠ 8 → f j = κ 8 j
theorem tkL_n {ν κ : Nat → Int → Int} {f : Int → Int} {k : Int} (hI : IP (vw ν)) (hk : 0 ≤ k) (h : tkL ν κ f k) (hn : tOf (vw ν) (cB ν (ν 23 0)) (k / 4) ≠ ν 24 0 ∨ sA (vw ν) (cB ν (ν 23 0)) (k % 4) (k / 4) < 0) : tkL ν κ f (k + 1) := by
  have e : uW ν (k + 1) = uW ν k := by
    rw [uW_s hI hk]
    unfold uW
    by_cases q : tOf (vw ν) (cB ν (ν 23 0)) (k / 4) = ν 24 0
    · have hb := sA_bd hI (cB ν (ν 23 0)) (k % 4) (k / 4)
      rw [uV_z (by omega) q, if_pos (by omega)]
    · rw [u_c hI (by omega) q, u_c hI (by omega) q]
  unfold tkL
  rw [e]
  exact h
theorem tkL_m {ν κ : Nat → Int → Int} {f : Int → Int} {k : Int} (hI : IP (vw ν)) (hk : 0 ≤ k) (h : tkL ν κ f k) (ht : tOf (vw ν) (cB ν (ν 23 0)) (k / 4) = ν 24 0) (h0 : 0 ≤ sA (vw ν) (cB ν (ν 23 0)) (k % 4) (k / 4)) (hm : ν 25 (sA (vw ν) (cB ν (ν 23 0)) (k % 4) (k / 4)) < ν 1 (sA (vw ν) (cB ν (ν 23 0)) (k % 4) (k / 4))) : tkL ν κ (iU f 7 (f 7 + 1)) (k + 1) := by
  have e : uW ν (k + 1) = ((uW ν k).1, (uW ν k).2.1 + 1, (uW ν k).2.2) := by
    rw [uW_s hI hk, uV_z (by omega) ht, if_neg (by omega)]
    have hm2 : ¬ vx ν 0 (sA (vw ν) (cB ν (ν 23 0)) (k % 4) (k / 4)) ≤ vx ν 21 (sA (vw ν) (cB ν (ν 23 0)) (k % 4) (k / 4)) := by
      show ¬ ν 1 _ ≤ ν 25 _
      omega
    unfold psF
    rw [if_neg hm2]
    rfl
  obtain ⟨⟨h1, h2, h3⟩, h4⟩ := h
  refine ⟨?_, fun j a b c => by rw [iU_n f _ b]; exact h4 j a b c⟩
  rw [e]
  exact ⟨(iU_n f _ (by omega)).trans h1, by rw [iU_s, h2], (iU_n f _ (by omega)).trans h3⟩
theorem tkL_h {ν κ : Nat → Int → Int} {f : Int → Int} {k v : Int} (hI : IP (vw ν)) (hk : 0 ≤ k) (h : tkL ν κ f k) (ht : tOf (vw ν) (cB ν (ν 23 0)) (k / 4) = ν 24 0) (h0 : 0 ≤ sA (vw ν) (cB ν (ν 23 0)) (k % 4) (k / 4)) (hm : ν 25 (sA (vw ν) (cB ν (ν 23 0)) (k % 4) (k / 4)) = ν 1 (sA (vw ν) (cB ν (ν 23 0)) (k % 4) (k / 4))) (hv : v = tnI (vx ν) (cB ν (ν 23 0)) (sA (vw ν) (cB ν (ν 23 0)) (k % 4) (k / 4))) :
    tkL ν κ (iU (iU f 6 (f 6 + 1)) 8 (f 8 * 31 + 100 * sA (vw ν) (cB ν (ν 23 0)) (k % 4) (k / 4) + v + 12)) (k + 1) := by
  have e : uW ν (k + 1) = ((uW ν k).1 + 1, (uW ν k).2.1, 31 * (uW ν k).2.2 + 100 * sA (vw ν) (cB ν (ν 23 0)) (k % 4) (k / 4) + v + 12) := by
    rw [uW_s hI hk, uV_z (by omega) ht, if_neg (by omega)]
    have hm2 : vx ν 0 (sA (vw ν) (cB ν (ν 23 0)) (k % 4) (k / 4)) ≤ vx ν 21 (sA (vw ν) (cB ν (ν 23 0)) (k % 4) (k / 4)) := by
      show ν 1 _ ≤ ν 25 _
      omega
    unfold psF
    rw [if_pos hm2, hv]
    rfl
  obtain ⟨⟨h1, h2, h3⟩, h4⟩ := h
  refine ⟨?_, fun j a b c => by rw [iU_n _ _ c, iU_n f _ a]; exact h4 j a b c⟩
  rw [e]
  refine ⟨(iU_n _ _ (by omega)).trans ((iU_s _ _ _).trans (by rw [h1])), (iU_n _ _ (by omega)).trans ((iU_n _ _ (by omega)).trans h2), ?_⟩
  rw [iU_s, h3]
  dsimp only
  omega
/-- a frozen bit -/
theorem q9_b {ν κ : Nat → Int → Int} (hI : IP (vw ν)) (h : κ 8 9 = ν 7 0 + 2 * ν 7 1 + 4 * ν 7 2) {p : Int} (hp : 0 ≤ p ∧ p < 3) : anI (shR (κ 8 9) p) 1 = ν 7 p := by
  have b0 : 0 ≤ ν 7 0 ∧ ν 7 0 ≤ 1 := hI.2.2.2.2.1 0
  have b1 : 0 ≤ ν 7 1 ∧ ν 7 1 ≤ 1 := hI.2.2.2.2.1 1
  have b2 : 0 ≤ ν 7 2 ∧ ν 7 2 ≤ 1 := hI.2.2.2.2.1 2
  rw [anI_1, h]
  by_cases q0 : p = 0
  · rw [q0]
    have e := shR_v (a := ν 7 0 + 2 * ν 7 1 + 4 * ν 7 2) (by omega) ⟨0, by omega⟩
    have e2 : shR (ν 7 0 + 2 * ν 7 1 + 4 * ν 7 2) 0 = (ν 7 0 + 2 * ν 7 1 + 4 * ν 7 2) / 1 := e
    rw [e2]
    omega
  · by_cases q1 : p = 1
    · rw [q1]
      have e := shR_v (a := ν 7 0 + 2 * ν 7 1 + 4 * ν 7 2) (by omega) ⟨1, by omega⟩
      have e2 : shR (ν 7 0 + 2 * ν 7 1 + 4 * ν 7 2) 1 = (ν 7 0 + 2 * ν 7 1 + 4 * ν 7 2) / 2 := e
      rw [e2]
      omega
    · rw [show p = 2 by omega]
      have e := shR_v (a := ν 7 0 + 2 * ν 7 1 + 4 * ν 7 2) (by omega) ⟨2, by omega⟩
      have e2 : shR (ν 7 0 + 2 * ν 7 1 + 4 * ν 7 2) 2 = (ν 7 0 + 2 * ν 7 1 + 4 * ν 7 2) / 4 := e
      rw [e2]
      omega
theorem tn_y {ν : Nat → Int → Int} {c p s : Int} (hc : c / 10 = p) (h : ν 7 p = 1) : ν 8 (8 * p + s) = tnI (vx ν) c s := by
  unfold tnI
  rw [hc]
  have h2 : vx ν 6 p = 1 := h
  rw [if_pos h2, show 8 * p + s = p * 8 + s by omega]
  rfl
theorem tn_n {ν : Nat → Int → Int} {c p s : Int} (hc : c / 10 = p) (h : ν 7 p ≠ 1) : ν 2 s = tnI (vx ν) c s := by
  unfold tnI
  rw [hc]
  have h2 : ¬ vx ν 6 p = 1 := h
  rw [if_neg h2]
  rfl
/-- the memory behind the loader's choice, and behind its work -/
noncomputable def tT (ν : Nat → Int → Int) : (Int → Int) × Int × Int × Int := if ν 26 0 = -1 then tkR ν else (ν 25, sI (ν 25) 8, ν 26 0, ν 27 0)
theorem ldR_T (ν : Nat → Int → Int) : ldR ν = if (tT ν).2.2.1 = -1 then tT ν else wkF (tT ν) := by
  unfold ldR ldF tT
  dsimp only
  by_cases q : ν 26 0 = -1
  · rw [if_pos q, if_pos q]
    rfl
  · rw [if_neg q, if_neg q, if_neg q]
theorem tT_bd {ν : Nat → Int → Int} (hPM : PM ν) : (-1 ≤ (tT ν).2.2.1 ∧ (tT ν).2.2.1 < 8) ∧ (0 ≤ (tT ν).2.2.2 ∧ (tT ν).2.2.2 ≤ 7) ∧ ((tT ν).2.2.1 = -1 → (tT ν).2.2.2 = 0) := by
  obtain ⟨-, -, -, h26, h27, h27b, -⟩ := hPM
  unfold tT
  by_cases q : ν 26 0 = -1
  · rw [if_pos q]
    rcases tk_cs ν with e | ⟨e1, e2, e3⟩
    · rw [e]
      exact ⟨h26, h27b, h27⟩
    · rw [e3]
      exact ⟨by omega, by omega, fun _ => rfl⟩
  · rw [if_neg q]
    exact ⟨h26, h27b, fun z => absurd z q⟩
def tI (ν : Nat → Int → Int) (f f2 g2 : Int → Int) : Prop := (∀ k, 0 ≤ k → k < 8 → g2 k = (tT ν).1 k) ∧ f2 4 = (tT ν).2.2.1 + 1 ∧ f2 5 = (tT ν).2.2.2 ∧ ∀ j, j ≠ 4 → j ≠ 5 → f2 j = f j
theorem tI_a {ν : Nat → Int → Int} {f g : Int → Int} (hM : ∀ k, 0 ≤ k → k < 8 → g k = ν 25 k) (h4 : f 4 = ν 26 0 + 1) (h5 : f 5 = ν 27 0) (q : ν 26 0 ≠ -1) : tI ν f f g := by
  unfold tI tT
  rw [if_neg q]
  exact ⟨hM, h4, h5, fun _ _ _ => rfl⟩
theorem tI_b {ν κ : Nat → Int → Int} {f q m : Int → Int} (h : lT ν κ q m) (hf : κ 8 = f) (h0 : ν 26 0 = -1) : tI ν f q m := by
  unfold tI tT
  rw [if_pos h0, ← hf]
  exact h
def lJ (ν : Nat → Int → Int) (f f3 g3 : Int → Int) : Prop := (∀ k, 0 ≤ k → k < 8 → g3 k = (ldR ν).1 k) ∧ f3 4 = (ldR ν).2.2.1 + 1 ∧ f3 5 = wkR ν ∧ ∀ j, j ≠ 4 → j ≠ 5 → f3 j = f j
theorem lJ_a {ν : Nat → Int → Int} {f f2 g2 : Int → Int} (h : tI ν f f2 g2) (h0 : (tT ν).2.2.1 = -1) (hw : (tT ν).2.2.2 = 0) : lJ ν f (iU f2 5 ((tT ν).2.2.2 + 0)) g2 := by
  obtain ⟨h1, h2, h3, h4⟩ := h
  have e : ldR ν = tT ν := by rw [ldR_T, if_pos h0]
  unfold lJ wkR
  rw [e, if_pos h0]
  exact ⟨h1, (iU_n _ _ (by omega)).trans h2, by rw [iU_s]; omega, fun j a b => (iU_n _ _ b).trans (h4 j a b)⟩
theorem lJ_b {ν : Nat → Int → Int} {f f2 g2 : Int → Int} (h : tI ν f f2 g2) (h0 : (tT ν).2.2.1 ≠ -1) (hw : (tT ν).2.2.2 + 1 < 8) : lJ ν f (iU f2 5 ((tT ν).2.2.2 + 1)) g2 := by
  obtain ⟨h1, h2, h3, h4⟩ := h
  have e : ldR ν = ((tT ν).1, (tT ν).2.1, (tT ν).2.2.1, (tT ν).2.2.2 + 1) := by
    rw [ldR_T, if_neg h0]
    unfold wkF
    rw [if_pos hw]
  unfold lJ wkR
  rw [e]
  dsimp only
  rw [if_neg h0]
  exact ⟨h1, (iU_n _ _ (by omega)).trans h2, iU_s _ _ _, fun j a b => (iU_n _ _ b).trans (h4 j a b)⟩
theorem lJ_c {ν : Nat → Int → Int} {f f2 g2 : Int → Int} {i : Int} (h : tI ν f f2 g2) (hi : (tT ν).2.2.1 = i) (h0 : 0 ≤ i ∧ i < 8) (hw : (tT ν).2.2.2 + 1 = 8) : lJ ν f (iU (iU (iU f2 5 ((tT ν).2.2.2 + 1)) 4 0) 5 0) (iU g2 i (g2 i + 1)) := by
  obtain ⟨h1, h2, h3, h4⟩ := h
  have e : ldR ν = (iU (tT ν).1 i ((tT ν).1 i + 1), (tT ν).2.1 + 1, -1, (tT ν).2.2.2 + 1) := by
    rw [ldR_T, if_neg (by omega)]
    unfold wkF
    rw [if_neg (by omega), hi]
  unfold lJ wkR
  rw [e]
  dsimp only
  rw [if_pos rfl]
  refine ⟨fun k a b => ?_, (iU_n _ _ (by omega)).trans (iU_s _ _ _), iU_s _ _ _, fun j a b => (iU_n _ _ b).trans ((iU_n _ _ a).trans ((iU_n _ _ b).trans (h4 j a b)))⟩
  unfold iU
  by_cases q : k = i
  · rw [if_pos q, if_pos q, h1 i h0.1 h0.2]
  · rw [if_neg q, if_neg q]
    exact h1 k a b
/-- what a tick leaves -/
theorem LR_ps {ν κ : Nat → Int → Int} {f f3 g3 q : Int → Int} (h : LR ν κ) (hp : ν 21 0 = 1) (hk : tkL ν κ f 64) (hI : IP (vw ν)) (hd : 0 ≤ ν 24 0 ∧ ν 24 0 < 192) (hJ : lJ ν f f3 g3) (hq : ∀ j, j ≠ 1 → j ≠ 2 → j ≠ 3 → q j = f3 j) (hz : rd21 ν = 0 ∧ q 1 = 0 ∨ rd21 ν = 1 ∧ q 1 = κ 8 1 ∧ q 2 = rd23 ν ∧ q 3 = rd24 ν) : LR (psR ν) (mset (mset κ 8 q) 9 g3) := by
  obtain ⟨hA, ⟨t1, t2, t3⟩, hN, ⟨⟨i1, i2⟩, i3⟩, ⟨m1, ⟨m2, m3⟩, m4⟩, h0, h1⟩ := h
  obtain ⟨⟨a1, a2⟩, ⟨a3, a4⟩, a5⟩ := h1 hp
  obtain ⟨j1, j2, j3, j4⟩ := hJ
  obtain ⟨⟨k1, k2, k3⟩, k4⟩ := hk
  rw [uW_64 hI hd] at k1 k2 k3
  have e0 : q 0 = κ 8 0 := (hq 0 (by omega) (by omega) (by omega)).trans ((j4 0 (by omega) (by omega)).trans (k4 0 (by omega) (by omega) (by omega)))
  have e9 : q 9 = κ 8 9 := (hq 9 (by omega) (by omega) (by omega)).trans ((j4 9 (by omega) (by omega)).trans (k4 9 (by omega) (by omega) (by omega)))
  have e4 : q 4 = (ldR ν).2.2.1 + 1 := (hq 4 (by omega) (by omega) (by omega)).trans j2
  have e5 : q 5 = wkR ν := (hq 5 (by omega) (by omega) (by omega)).trans j3
  have e6 : q 6 = (plR ν).1 := (hq 6 (by omega) (by omega) (by omega)).trans ((j4 6 (by omega) (by omega)).trans k1)
  have e7 : q 7 = (plR ν).2.1 := (hq 7 (by omega) (by omega) (by omega)).trans ((j4 7 (by omega) (by omega)).trans k2)
  have e8 : q 8 = (plR ν).2.2 := (hq 8 (by omega) (by omega) (by omega)).trans ((j4 8 (by omega) (by omega)).trans k3)
  refine ⟨hA, ⟨t1, t2, e9.trans t3⟩, hN, ⟨⟨e0.trans i1, i2⟩, i3⟩, ⟨j1, ⟨e4, e5⟩, e6, e7, e8⟩, fun z => ?_, fun z => ?_⟩
  · have z : rd21 ν = 0 := z
    rcases hz with hz | hz
    · exact hz.2
    · omega
  · have z : rd21 ν = 1 := z
    rcases hz with hz | ⟨_, z1, z2, z3⟩
    · omega
    · exact ⟨⟨a1, z1.trans a2⟩, ⟨z2, z3⟩, a5⟩
/-- the tick's own hypotheses -/
theorem UH_q {ν κ : Nat → Int → Int} {f : Int → Int} (hPM : PM ν) (h : LR ν κ) (hp : ν 21 0 = 1) (hn : ν 23 0 < ν 18 (ν 14 0)) (hf : ∀ j, j ≠ 6 → j ≠ 7 → j ≠ 8 → f j = κ 8 j) : UH ν (mset κ 8 f) := by
  obtain ⟨hA, -, -, ⟨i1, -⟩, -, -, h1⟩ := h
  obtain ⟨⟨a1, a2⟩, ⟨a3, a4⟩, a5⟩ := h1 hp
  obtain ⟨⟨⟨n1, n2, n3, n4, n5, n6⟩, -⟩, -⟩ := hPM
  exact ⟨n1, ⟨n5.1, hn⟩, n6, i1.2.2, hA, ⟨a1, (hf 1 (by omega) (by omega) (by omega)).trans a2⟩, ⟨(hf 2 (by omega) (by omega) (by omega)).trans a3, (hf 3 (by omega) (by omega) (by omega)).trans a4⟩, a5⟩
theorem LH_q {ν κ : Nat → Int → Int} {f x : Int → Int} (hPM : PM ν) (h : LR ν κ) (hf : ∀ j, j ≠ 6 → j ≠ 7 → j ≠ 8 → f j = κ 8 j) (hx : uI ν (mset κ 8 f) x 64) : LH ν (mset (mset κ 8 f) 9 x) := by
  obtain ⟨-, ⟨t1, -⟩, -, -, ⟨m1, ⟨m2, m3⟩, -⟩, -⟩ := h
  obtain ⟨⟨hN, b25, b1, bs⟩, -⟩ := hPM
  refine ⟨⟨fun k a b => (hx.1 k a b).trans (m1 k a b), fun k a b => (t1 k a b).1, fun k a b => ?_⟩, ⟨b25, b1, bs, fun s => (nU_bd hN s).1⟩, (hf 4 (by omega) (by omega) (by omega)).trans m2, (hf 5 (by omega) (by omega) (by omega)).trans m3⟩
  have e : x (8 + k) = f6 (nF ν k) := hx.2 k a b
  show (x (8 + k) = 1000000 ∧ nU ν k = 768) ∨ (x (8 + k) = nU ν k ∧ nU ν k ≤ 762)
  rw [e]
  unfold f6
  rcases nU_c hN k with ⟨c1, c2⟩ | ⟨c1, c2, c3⟩
  · rw [if_pos c1]; exact Or.inl ⟨rfl, c2⟩
  · rw [if_neg c1]; exact Or.inr ⟨c2.symm, by omega⟩

set_option maxHeartbeats 4000000 in
set_option maxRecDepth 100000 in
theorem k_ltick (l : Launch) (D : va_G) (cI cZ cJ : ClassId) (o : Nat → Nat) (κ : Nat → Int → Int) (ν : Nat → Int → Int) (hPM : PM ν) (hLR : LR ν κ) (hp : ν 21 0 = 1) (hnow : ν 23 0 < ν 18 (ν 14 0)) (hEnd : ν 24 0 + 1 = 192 → (ν 23 0 + 1 = ν 18 (ν 14 0) ∧ rd21 ν = 0) ∨ (ν 23 0 + 1 < ν 18 (ν 14 0) ∧ rd21 ν = 1)) : Ke l D (tY cI cZ cJ) yL_tick wsL_tick rmL_tick [.ref (o 0), .ref (o 1), .ref (o 2), .ref (o 3), .ref (o 4), .ref (o 5), .ref (o 8), .ref (o 9), .ref (o 10)] (WLtic cI o κ) (fun (z : Int) (x : (Int → Int) × (Int → Int)) => LR (psR ν) (mset (mset κ 8 x.1) 9 x.2) ∧ z = (plR ν).1 - ν 28 0) (fun x => WLtic cI o (mset (mset κ 8 x.1) 9 x.2)) := by
  obtain ⟨hLA, ⟨t1, t2, t3⟩, hN, ⟨⟨i1, i2⟩, i3⟩, ⟨m1, ⟨m2, m3⟩, m4⟩, h0, h1⟩ := id hLR
  obtain ⟨⟨a1, a2⟩, ⟨a3, a4⟩, a5⟩ := h1 hp
  obtain ⟨⟨⟨hIP, n2, n3, n4, n5, n6⟩, hb25, hb1, hsum⟩, -, hm25, h26, h27, h27b, -⟩ := id hPM
  obtain ⟨⟨h16, h17⟩, hr, hr8⟩ := LC_c a5 i2.2 (i := ν 23 0) (by omega)
  have hcb : cB ν (ν 23 0) / 10 = ν 16 (ν 23 0) := cB_d h17
  refine ke_of (by decide +kernel) rfl (Nat.le_of_ble_eq_true rfl) ?_
  intro zp ze zs zm zargs zbelow zmeth zc A Q ls M hA w hl kret
  have hl : lv_has ls 16 [(0, .ref (o 0)), (1, .ref (o 1)), (2, .ref (o 2)), (3, .ref (o 3)), (4, .ref (o 4)), (5, .ref (o 5)), (6, .ref (o 8)), (7, .ref (o 9)), (8, .ref (o 10))] := hl
  refine q_al M dL_tick_0 (lv_at hl 6 rfl) ?_
  refine q_bp M dL_tick_2 (by decide +kernel) ?_
  refine q_iald (f := κ 8) M w 6 0 rfl rfl (by omega) dL_tick_4 ?_
  refine q_top (y := ν 28 0) (by exact m4.1) ?_
  refine q_is (lv' := [(9, .int (iI (ν 28 0))), (0, .ref (o 0)), (1, .ref (o 1)), (2, .ref (o 2)), (3, .ref (o 3)), (4, .ref (o 4)), (5, .ref (o 5)), (6, .ref (o 8)), (7, .ref (o 9)), (8, .ref (o 10))]) M dL_tick_5 hl (by decide) rfl (fun ls hl => ?_)
  refine q_al M dL_tick_7 (lv_at hl 9 rfl) ?_
  refine q_al M dL_tick_9 (lv_at hl 7 rfl) ?_
  refine q_ic M dL_tick_11 ?_
  refine q_iald (f := κ 8) M w 6 0 rfl rfl (by omega) dL_tick_12 ?_
  refine q_top (y := ν 23 0) (by exact a3) ?_
  refine q_iald (f := κ 10) M w 8 0 rfl rfl (by omega) dL_tick_13 ?_
  refine q_is (lv' := [(10, .int (iI ((κ 10) (ν 23 0)))), (9, .int (iI (ν 28 0))), (0, .ref (o 0)), (1, .ref (o 1)), (2, .ref (o 2)), (3, .ref (o 3)), (4, .ref (o 4)), (5, .ref (o 5)), (6, .ref (o 8)), (7, .ref (o 9)), (8, .ref (o 10))]) M dL_tick_14 hl (by decide) rfl (fun ls hl => ?_)
  refine q_il M dL_tick_16 (lv_at hl 0 rfl) ?_
  refine q_bp M dL_tick_18 (by decide +kernel) ?_
  refine q_rem M dL_tick_20 (by omega) ?_
  refine q_ic M dL_tick_21 ?_
  refine q_div M dL_tick_22 (by omega) ?_
  refine q_top (y := ν 16 (ν 23 0)) (by omega) ?_
  refine q_is (lv' := [(11, .int (iI (ν 16 (ν 23 0)))), (10, .int (iI ((κ 10) (ν 23 0)))), (9, .int (iI (ν 28 0))), (0, .ref (o 0)), (1, .ref (o 1)), (2, .ref (o 2)), (3, .ref (o 3)), (4, .ref (o 4)), (5, .ref (o 5)), (6, .ref (o 8)), (7, .ref (o 9)), (8, .ref (o 10))]) M dL_tick_23 hl (by decide) rfl (fun ls hl => ?_)
  refine q_ic M dL_tick_25 ?_
  refine q_is (lv' := [(12, .int (iI 0)), (11, .int (iI (ν 16 (ν 23 0)))), (10, .int (iI ((κ 10) (ν 23 0)))), (9, .int (iI (ν 28 0))), (0, .ref (o 0)), (1, .ref (o 1)), (2, .ref (o 2)), (3, .ref (o 3)), (4, .ref (o 4)), (5, .ref (o 5)), (6, .ref (o 8)), (7, .ref (o 9)), (8, .ref (o 10))]) M dL_tick_26 hl (by decide) rfl (fun ls hl => ?_)
  have lp28 : ∀ (n28 : Nat) (k : Int) (f : Int → Int), (0 ≤ k ∧ k ≤ 64) → (tkL ν κ f k) → (64 - k : Int) < (n28 : Int) → ∀ (H : Heap) (locs : List Loc) (ls : Array Slot), wW D A zs.heap (WLtic cI o (mset κ 8 f)) H locs → lv_has ls 16 [(0, .ref (o 0)), (1, .ref (o 1)), (2, .ref (o 2)), (3, .ref (o 3)), (4, .ref (o 4)), (5, .ref (o 5)), (6, .ref (o 8)), (7, .ref (o 9)), (8, .ref (o 10)), (9, .int (iI (ν 28 0))), (10, .int (iI (κ 10 (ν 23 0)))), (11, .int (iI (ν 16 (ν 23 0)))), (12, .int (iI k))] → W zp l ze rmL_tick zs zm zargs zbelow zmeth zc H locs 0 0 Q (F0 zm 28 ls []) := by
    intro n28
    induction n28 with
    | zero => intro k f hk hL hm H locs ls w hl; exfalso; omega
    | succ n28 ih28 =>
      intro k f hk hL hm28 H locs ls w hl
      have hfo := hL.2
      have hsb := sA_bd hIP (cB ν (ν 23 0)) (k % 4) (k / 4)
      refine q_il M dL_tick_28 (lv_at hl 12 rfl) ?_
      refine q_bp M dL_tick_30 (by decide +kernel) ?_
      refine q_icmp_ge (tgt := 196) M dL_tick_32 (by decide) (by omega) (fun c32 => ?_) (fun c32 => ?_)
      · have ek : k = 64 := by omega
        rw [ek] at hL
        refine q_al M dL_tick_196 (lv_at hl 6 rfl) ?_
        refine q_ic M dL_tick_198 ?_
        refine q_iald (f := f) M w 6 0 rfl rfl (by omega) dL_tick_199 ?_
        refine q_top (y := ν 26 0 + 1) (by exact (hfo 4 (by omega) (by omega) (by omega)).trans m2) ?_
        have jn200 : ∀ (f2 : Int → Int) (g2 : Int → Int) (H : Heap) (locs : List Loc) (ls : Array Slot), (tI ν f f2 g2) → wW D A zs.heap (WLtic cI o (mset (mset κ 8 f2) 9 g2)) H locs → lv_has ls 16 [(0, .ref (o 0)), (1, .ref (o 1)), (2, .ref (o 2)), (3, .ref (o 3)), (4, .ref (o 4)), (5, .ref (o 5)), (6, .ref (o 8)), (7, .ref (o 9)), (8, .ref (o 10)), (9, .int (iI (ν 28 0)))] → W zp l ze rmL_tick zs zm zargs zbelow zmeth zc H locs 0 0 Q (F0 zm 227 ls []) := by
          intro f2 g2 H locs ls hI2 w hl
          obtain ⟨hi1, hi2, hi3, hi4⟩ := id hI2
          have htb := tT_bd hPM
          refine q_al M dL_tick_227 (lv_at hl 6 rfl) ?_
          refine q_ic M dL_tick_229 ?_
          refine q_dup2 M dL_tick_230 rfl rfl ?_
          refine q_iald (f := f2) M w 6 0 rfl rfl (by omega) dL_tick_231 ?_
          refine q_top (y := (tT ν).2.2.2) (by exact hi3) ?_
          refine q_al M dL_tick_232 (lv_at hl 6 rfl) ?_
          refine q_ic M dL_tick_234 ?_
          refine q_iald (f := f2) M w 6 0 rfl rfl (by omega) dL_tick_235 ?_
          refine q_top (y := (tT ν).2.2.1 + 1) (by exact hi2) ?_
          have jn236 : ∀ (f3 : Int → Int) (g3 : Int → Int) (H : Heap) (locs : List Loc) (ls : Array Slot), (lJ ν f f3 g3) → wW D A zs.heap (WLtic cI o (mset (mset κ 8 f3) 9 g3)) H locs → lv_has ls 16 [(0, .ref (o 0)), (1, .ref (o 1)), (2, .ref (o 2)), (3, .ref (o 3)), (4, .ref (o 4)), (5, .ref (o 5)), (6, .ref (o 8)), (7, .ref (o 9)), (8, .ref (o 10)), (9, .int (iI (ν 28 0)))] → W zp l ze rmL_tick zs zm zargs zbelow zmeth zc H locs 0 0 Q (F0 zm 278 ls []) := by
            intro f3 g3 H locs ls hJ w hl
            obtain ⟨hj1, hj2, hj3, hj4⟩ := id hJ
            refine q_al M dL_tick_278 (lv_at hl 6 rfl) ?_
            refine q_ic M dL_tick_280 ?_
            refine q_dup2 M dL_tick_281 rfl rfl ?_
            refine q_iald (f := f3) M w 6 0 rfl rfl (by omega) dL_tick_282 ?_
            refine q_top (y := ν 24 0) (by exact (hj4 3 (by omega) (by omega)).trans ((hfo 3 (by omega) (by omega) (by omega)).trans a4)) ?_
            refine q_ic M dL_tick_283 ?_
            refine q_add M dL_tick_284 ?_
            refine q_iast (f := f3) (ws2 := WLtic cI o (mset (mset κ 8 (iU f3 3 ((ν 24 0) + 1))) 9 g3)) M w 6 0 rfl rfl (by omega) rfl dL_tick_285 (fun H locs w => ?_)
            refine q_al M dL_tick_286 (lv_at hl 6 rfl) ?_
            refine q_ic M dL_tick_288 ?_
            refine q_iald (f := iU f3 3 ((ν 24 0) + 1)) M w 6 0 rfl rfl (by omega) dL_tick_289 ?_
            refine q_top (y := ν 24 0 + 1) (by exact iU_s _ _ _) ?_
            refine q_sp M dL_tick_290 (by decide +kernel) ?_
            refine q_icmp_ne (tgt := 332) M dL_tick_293 (by decide) (by omega) (fun c293 => ?_) (fun c293 => ?_)
            · have hp6 : f3 6 = (plR ν).1 := (hj4 6 (by omega) (by omega)).trans (by rw [hL.1.1, uW_64 hIP (by omega)])
              refine q_al M dL_tick_332 (lv_at hl 6 rfl) ?_
              refine q_bp M dL_tick_334 (by decide +kernel) ?_
              refine q_iald (f := iU f3 3 ((ν 24 0) + 1)) M w 6 0 rfl rfl (by omega) dL_tick_336 ?_
              refine q_top (y := (plR ν).1) (by first | exact hp6 | exact (iU_n _ _ (by omega)).trans hp6 | exact (iU_n _ _ (by omega)).trans ((iU_n _ _ (by omega)).trans hp6) | exact (iU_n _ _ (by omega)).trans ((iU_n _ _ (by omega)).trans ((iU_n _ _ (by omega)).trans ((iU_n _ _ (by omega)).trans hp6)))) ?_
              refine q_il M dL_tick_337 (lv_at hl 9 rfl) ?_
              refine q_sub M dL_tick_339 ?_
              have z0 : rd21 ν = 1 := by unfold rd21; rw [if_neg (by omega)]; exact hp
              have z1 : (iU f3 3 ((ν 24 0) + 1)) 1 = κ 8 1 := (iU_n _ _ (by omega)).trans ((hj4 1 (by omega) (by omega)).trans (hfo 1 (by omega) (by omega) (by omega)))
              have z2 : (iU f3 3 ((ν 24 0) + 1)) 2 = rd23 ν := by unfold rd23; rw [if_neg (by omega)]; exact (iU_n _ _ (by omega)).trans ((hj4 2 (by omega) (by omega)).trans ((hfo 2 (by omega) (by omega) (by omega)).trans a3))
              have z3 : (iU f3 3 ((ν 24 0) + 1)) 3 = rd24 ν := by unfold rd24; rw [if_neg (by omega)]; exact iU_s _ _ _
              have hz := Or.inr (a := rd21 ν = 0 ∧ (iU f3 3 ((ν 24 0) + 1)) 1 = 0) (And.intro z0 (And.intro z1 (And.intro z2 z3)))
              have hq9 : ∀ j, j ≠ 1 → j ≠ 2 → j ≠ 3 → (iU f3 3 ((ν 24 0) + 1)) j = f3 j := fun j b1 b2 b3 => iU_n _ _ b3
              exact kret _ _ _ _ _ (iU f3 3 ((ν 24 0) + 1), g3) dL_tick_340 w (⟨LR_ps hLR hp hL hIP (by omega) hJ hq9 hz, rfl⟩)
            · have hp6 : f3 6 = (plR ν).1 := (hj4 6 (by omega) (by omega)).trans (by rw [hL.1.1, uW_64 hIP (by omega)])
              refine q_al M dL_tick_296 (lv_at hl 6 rfl) ?_
              refine q_ic M dL_tick_298 ?_
              refine q_ic M dL_tick_299 ?_
              refine q_iast (f := iU f3 3 ((ν 24 0) + 1)) (ws2 := WLtic cI o (mset (mset κ 8 (iU (iU f3 3 ((ν 24 0) + 1)) 3 0)) 9 g3)) M w 6 0 rfl rfl (by omega) rfl dL_tick_300 (fun H locs w => ?_)
              refine q_al M dL_tick_301 (lv_at hl 6 rfl) ?_
              refine q_ic M dL_tick_303 ?_
              refine q_dup2 M dL_tick_304 rfl rfl ?_
              refine q_iald (f := iU (iU f3 3 ((ν 24 0) + 1)) 3 0) M w 6 0 rfl rfl (by omega) dL_tick_305 ?_
              refine q_top (y := ν 23 0) (by rw [iU_n _ _ (by omega), iU_n _ _ (by omega)]; exact (hj4 2 (by omega) (by omega)).trans ((hfo 2 (by omega) (by omega) (by omega)).trans a3)) ?_
              refine q_ic M dL_tick_306 ?_
              refine q_add M dL_tick_307 ?_
              refine q_iast (f := iU (iU f3 3 ((ν 24 0) + 1)) 3 0) (ws2 := WLtic cI o (mset (mset κ 8 (iU (iU (iU f3 3 ((ν 24 0) + 1)) 3 0) 2 ((ν 23 0) + 1))) 9 g3)) M w 6 0 rfl rfl (by omega) rfl dL_tick_308 (fun H locs w => ?_)
              refine q_al M dL_tick_309 (lv_at hl 6 rfl) ?_
              refine q_ic M dL_tick_311 ?_
              refine q_al M dL_tick_312 (lv_at hl 6 rfl) ?_
              refine q_ic M dL_tick_314 ?_
              refine q_iald (f := iU (iU (iU f3 3 ((ν 24 0) + 1)) 3 0) 2 ((ν 23 0) + 1)) M w 6 0 rfl rfl (by omega) dL_tick_315 ?_
              refine q_top (y := ν 23 0 + 1) (by exact iU_s _ _ _) ?_
              refine q_al M dL_tick_316 (lv_at hl 6 rfl) ?_
              refine q_ic M dL_tick_318 ?_
              refine q_iald (f := iU (iU (iU f3 3 ((ν 24 0) + 1)) 3 0) 2 ((ν 23 0) + 1)) M w 6 0 rfl rfl (by omega) dL_tick_319 ?_
              refine q_top (y := ν 18 (ν 14 0)) (by rw [iU_n _ _ (by omega), iU_n _ _ (by omega), iU_n _ _ (by omega)]; exact (hj4 1 (by omega) (by omega)).trans ((hfo 1 (by omega) (by omega) (by omega)).trans a2)) ?_
              refine q_icmp_ne (tgt := 327) M dL_tick_320 (by decide) (by omega) (fun c320 => ?_) (fun c320 => ?_)
              · refine q_al M dL_tick_327 (lv_at hl 6 rfl) ?_
                refine q_ic M dL_tick_329 ?_
                refine q_iald (f := iU (iU (iU f3 3 ((ν 24 0) + 1)) 3 0) 2 ((ν 23 0) + 1)) M w 6 0 rfl rfl (by omega) dL_tick_330 ?_
                refine q_top (y := ν 18 (ν 14 0)) (by rw [iU_n _ _ (by omega), iU_n _ _ (by omega), iU_n _ _ (by omega)]; exact (hj4 1 (by omega) (by omega)).trans ((hfo 1 (by omega) (by omega) (by omega)).trans a2)) ?_
                refine q_iast (f := iU (iU (iU f3 3 ((ν 24 0) + 1)) 3 0) 2 ((ν 23 0) + 1)) (ws2 := WLtic cI o (mset (mset κ 8 (iU (iU (iU (iU f3 3 ((ν 24 0) + 1)) 3 0) 2 ((ν 23 0) + 1)) 1 (ν 18 (ν 14 0)))) 9 g3)) M w 6 0 rfl rfl (by omega) rfl dL_tick_331 (fun H locs w => ?_)
                refine q_al M dL_tick_332 (lv_at hl 6 rfl) ?_
                refine q_bp M dL_tick_334 (by decide +kernel) ?_
                refine q_iald (f := iU (iU (iU (iU f3 3 ((ν 24 0) + 1)) 3 0) 2 ((ν 23 0) + 1)) 1 (ν 18 (ν 14 0))) M w 6 0 rfl rfl (by omega) dL_tick_336 ?_
                refine q_top (y := (plR ν).1) (by first | exact hp6 | exact (iU_n _ _ (by omega)).trans hp6 | exact (iU_n _ _ (by omega)).trans ((iU_n _ _ (by omega)).trans hp6) | exact (iU_n _ _ (by omega)).trans ((iU_n _ _ (by omega)).trans ((iU_n _ _ (by omega)).trans ((iU_n _ _ (by omega)).trans hp6)))) ?_
                refine q_il M dL_tick_337 (lv_at hl 9 rfl) ?_
                refine q_sub M dL_tick_339 ?_
                have z0 : rd21 ν = 1 := by have := hEnd (by omega); omega
                have z1 : (iU (iU (iU (iU f3 3 ((ν 24 0) + 1)) 3 0) 2 ((ν 23 0) + 1)) 1 (ν 18 (ν 14 0))) 1 = κ 8 1 := (iU_s _ _ _).trans a2.symm
                have z2 : (iU (iU (iU (iU f3 3 ((ν 24 0) + 1)) 3 0) 2 ((ν 23 0) + 1)) 1 (ν 18 (ν 14 0))) 2 = rd23 ν := by unfold rd23; rw [if_pos (by omega)]; exact (iU_n _ _ (by omega)).trans (iU_s _ _ _)
                have z3 : (iU (iU (iU (iU f3 3 ((ν 24 0) + 1)) 3 0) 2 ((ν 23 0) + 1)) 1 (ν 18 (ν 14 0))) 3 = rd24 ν := by unfold rd24; rw [if_pos (by omega)]; exact (iU_n _ _ (by omega)).trans ((iU_n _ _ (by omega)).trans (iU_s _ _ _))
                have hz := Or.inr (a := rd21 ν = 0 ∧ (iU (iU (iU (iU f3 3 ((ν 24 0) + 1)) 3 0) 2 ((ν 23 0) + 1)) 1 (ν 18 (ν 14 0))) 1 = 0) (And.intro z0 (And.intro z1 (And.intro z2 z3)))
                have hq9 : ∀ j, j ≠ 1 → j ≠ 2 → j ≠ 3 → (iU (iU (iU (iU f3 3 ((ν 24 0) + 1)) 3 0) 2 ((ν 23 0) + 1)) 1 (ν 18 (ν 14 0))) j = f3 j := fun j b1 b2 b3 => (iU_n _ _ b1).trans ((iU_n _ _ b2).trans ((iU_n _ _ b3).trans (iU_n _ _ b3)))
                exact kret _ _ _ _ _ (iU (iU (iU (iU f3 3 ((ν 24 0) + 1)) 3 0) 2 ((ν 23 0) + 1)) 1 (ν 18 (ν 14 0)), g3) dL_tick_340 w (⟨LR_ps hLR hp hL hIP (by omega) hJ hq9 hz, rfl⟩)
              · refine q_ic M dL_tick_323 ?_
                refine q_go (tgt := 331) M dL_tick_324 (by decide) ?_
                refine q_iast (f := iU (iU (iU f3 3 ((ν 24 0) + 1)) 3 0) 2 ((ν 23 0) + 1)) (ws2 := WLtic cI o (mset (mset κ 8 (iU (iU (iU (iU f3 3 ((ν 24 0) + 1)) 3 0) 2 ((ν 23 0) + 1)) 1 0)) 9 g3)) M w 6 0 rfl rfl (by omega) rfl dL_tick_331 (fun H locs w => ?_)
                refine q_al M dL_tick_332 (lv_at hl 6 rfl) ?_
                refine q_bp M dL_tick_334 (by decide +kernel) ?_
                refine q_iald (f := iU (iU (iU (iU f3 3 ((ν 24 0) + 1)) 3 0) 2 ((ν 23 0) + 1)) 1 0) M w 6 0 rfl rfl (by omega) dL_tick_336 ?_
                refine q_top (y := (plR ν).1) (by first | exact hp6 | exact (iU_n _ _ (by omega)).trans hp6 | exact (iU_n _ _ (by omega)).trans ((iU_n _ _ (by omega)).trans hp6) | exact (iU_n _ _ (by omega)).trans ((iU_n _ _ (by omega)).trans ((iU_n _ _ (by omega)).trans ((iU_n _ _ (by omega)).trans hp6)))) ?_
                refine q_il M dL_tick_337 (lv_at hl 9 rfl) ?_
                refine q_sub M dL_tick_339 ?_
                have z0 : rd21 ν = 0 := by have := hEnd (by omega); omega
                have z1 : (iU (iU (iU (iU f3 3 ((ν 24 0) + 1)) 3 0) 2 ((ν 23 0) + 1)) 1 0) 1 = 0 := iU_s _ _ _
                have hz := Or.inl (b := rd21 ν = 1 ∧ (iU (iU (iU (iU f3 3 ((ν 24 0) + 1)) 3 0) 2 ((ν 23 0) + 1)) 1 0) 1 = κ 8 1 ∧ (iU (iU (iU (iU f3 3 ((ν 24 0) + 1)) 3 0) 2 ((ν 23 0) + 1)) 1 0) 2 = rd23 ν ∧ (iU (iU (iU (iU f3 3 ((ν 24 0) + 1)) 3 0) 2 ((ν 23 0) + 1)) 1 0) 3 = rd24 ν) (And.intro z0 z1)
                have hq9 : ∀ j, j ≠ 1 → j ≠ 2 → j ≠ 3 → (iU (iU (iU (iU f3 3 ((ν 24 0) + 1)) 3 0) 2 ((ν 23 0) + 1)) 1 0) j = f3 j := fun j b1 b2 b3 => (iU_n _ _ b1).trans ((iU_n _ _ b2).trans ((iU_n _ _ b3).trans (iU_n _ _ b3)))
                exact kret _ _ _ _ _ (iU (iU (iU (iU f3 3 ((ν 24 0) + 1)) 3 0) 2 ((ν 23 0) + 1)) 1 0, g3) dL_tick_340 w (⟨LR_ps hLR hp hL hIP (by omega) hJ hq9 hz, rfl⟩)
          refine q_if_le (tgt := 243) M dL_tick_236 (by decide) (by omega) (fun c236 => ?_) (fun c236 => ?_)
          · refine q_ic M dL_tick_243 ?_
            refine q_add M dL_tick_244 ?_
            refine q_iast (f := f2) (ws2 := WLtic cI o (mset (mset κ 8 (iU f2 5 (((tT ν).2.2.2) + 0))) 9 g2)) M w 6 0 rfl rfl (by omega) rfl dL_tick_245 (fun H locs w => ?_)
            refine q_al M dL_tick_246 (lv_at hl 6 rfl) ?_
            refine q_ic M dL_tick_248 ?_
            refine q_iald (f := iU f2 5 (((tT ν).2.2.2) + 0)) M w 6 0 rfl rfl (by omega) dL_tick_249 ?_
            refine q_top (y := (tT ν).2.2.2 + 0) (by exact iU_s _ _ _) ?_
            refine q_bp M dL_tick_250 (by decide +kernel) ?_
            refine q_icmp_ne (tgt := 278) M dL_tick_252 (by decide) (by omega) (fun c252 => ?_) (fun c252 => ?_)
            · exact jn236 _ g2 _ _ _ (lJ_a hI2 (by omega) (by omega)) w (lv_sub hl [0, 1, 2, 3, 4, 5, 6, 7, 8, 9] rfl)
            · exfalso; omega
          · refine q_ic M dL_tick_239 ?_
            refine q_go (tgt := 244) M dL_tick_240 (by decide) ?_
            refine q_add M dL_tick_244 ?_
            refine q_iast (f := f2) (ws2 := WLtic cI o (mset (mset κ 8 (iU f2 5 (((tT ν).2.2.2) + 1))) 9 g2)) M w 6 0 rfl rfl (by omega) rfl dL_tick_245 (fun H locs w => ?_)
            refine q_al M dL_tick_246 (lv_at hl 6 rfl) ?_
            refine q_ic M dL_tick_248 ?_
            refine q_iald (f := iU f2 5 (((tT ν).2.2.2) + 1)) M w 6 0 rfl rfl (by omega) dL_tick_249 ?_
            refine q_top (y := (tT ν).2.2.2 + 1) (by exact iU_s _ _ _) ?_
            refine q_bp M dL_tick_250 (by decide +kernel) ?_
            refine q_icmp_ne (tgt := 278) M dL_tick_252 (by decide) (by omega) (fun c252 => ?_) (fun c252 => ?_)
            · exact jn236 _ g2 _ _ _ (lJ_b hI2 (by omega) (by omega)) w (lv_sub hl [0, 1, 2, 3, 4, 5, 6, 7, 8, 9] rfl)
            · refine q_al M dL_tick_255 (lv_at hl 7 rfl) ?_
              refine q_al M dL_tick_257 (lv_at hl 6 rfl) ?_
              refine q_ic M dL_tick_259 ?_
              refine q_iald (f := iU f2 5 (((tT ν).2.2.2) + 1)) M w 6 0 rfl rfl (by omega) dL_tick_260 ?_
              refine q_top (y := (tT ν).2.2.1 + 1) (by rw [iU_n _ _ (by omega)]; exact hi2) ?_
              refine q_ic M dL_tick_261 ?_
              refine q_sub M dL_tick_262 ?_
              refine q_top (y := (tT ν).2.2.1) (by omega) ?_
              refine q_dup2 M dL_tick_263 rfl rfl ?_
              refine q_iald (f := g2) M w 7 0 rfl rfl (by omega) dL_tick_264 ?_
              refine q_ic M dL_tick_265 ?_
              refine q_add M dL_tick_266 ?_
              refine q_iast (f := g2) (ws2 := WLtic cI o (mset (mset κ 8 (iU f2 5 (((tT ν).2.2.2) + 1))) 9 (iU g2 ((tT ν).2.2.1) ((g2 ((tT ν).2.2.1)) + 1)))) M w 7 0 rfl rfl (by omega) rfl dL_tick_267 (fun H locs w => ?_)
              refine q_al M dL_tick_268 (lv_at hl 6 rfl) ?_
              refine q_ic M dL_tick_270 ?_
              refine q_ic M dL_tick_271 ?_
              refine q_iast (f := iU f2 5 (((tT ν).2.2.2) + 1)) (ws2 := WLtic cI o (mset (mset κ 8 (iU (iU f2 5 (((tT ν).2.2.2) + 1)) 4 0)) 9 (iU g2 ((tT ν).2.2.1) ((g2 ((tT ν).2.2.1)) + 1)))) M w 6 0 rfl rfl (by omega) rfl dL_tick_272 (fun H locs w => ?_)
              refine q_al M dL_tick_273 (lv_at hl 6 rfl) ?_
              refine q_ic M dL_tick_275 ?_
              refine q_ic M dL_tick_276 ?_
              refine q_iast (f := iU (iU f2 5 (((tT ν).2.2.2) + 1)) 4 0) (ws2 := WLtic cI o (mset (mset κ 8 (iU (iU (iU f2 5 (((tT ν).2.2.2) + 1)) 4 0) 5 0)) 9 (iU g2 ((tT ν).2.2.1) ((g2 ((tT ν).2.2.1)) + 1)))) M w 6 0 rfl rfl (by omega) rfl dL_tick_277 (fun H locs w => ?_)
              exact jn236 _ _ _ _ _ (lJ_c hI2 rfl (by omega) (by omega)) w (lv_sub hl [0, 1, 2, 3, 4, 5, 6, 7, 8, 9] rfl)
        refine q_if_ne (tgt := 227) M dL_tick_200 (by decide) (by omega) (fun c200 => ?_) (fun c200 => ?_)
        · exact jn200 f (κ 9) _ _ _ (tI_a m1 ((hfo 4 (by omega) (by omega) (by omega)).trans m2) ((hfo 5 (by omega) (by omega) (by omega)).trans m3) (by omega)) w (lv_sub hl [0, 1, 2, 3, 4, 5, 6, 7, 8, 9] rfl)
        · refine q_aln M dL_tick_203 (lv_at hl 0 rfl) ?_
          refine q_aln M dL_tick_204 (lv_at hl 1 rfl) ?_
          refine q_aln M dL_tick_205 (lv_at hl 2 rfl) ?_
          refine q_aln M dL_tick_206 (lv_at hl 3 rfl) ?_
          refine q_al M dL_tick_207 (lv_at hl 4 rfl) ?_
          refine q_al M dL_tick_209 (lv_at hl 6 rfl) ?_
          refine q_al M dL_tick_211 (lv_at hl 7 rfl) ?_
          refine q_al M dL_tick_213 (lv_at hl 8 rfl) ?_
          refine qe_vS (As := [.ref (o 0), .ref (o 1), .ref (o 2), .ref (o 3), .ref (o 4), .ref (o 8), .ref (o 9), .ref (o 10)]) (rest := []) (wc := WLuse cI o (mset κ 8 f)) (G := fun x215 => WLtic cI o (mset (mset κ 8 f) 9 x215)) M w hA hl (k_uses l D cI cZ cJ o (mset κ 8 f) ν (UH_q hPM hLR hp hnow hfo)) gL_tick_L_uses rfl ⟨rfl, rfl, by decide, by decide⟩ ⟨Nat.zero_le _, Nat.zero_le _⟩ 8 (by decide +kernel) rfl [true, true, true, true, true, false, true, true, true] rfl (fun _ => rfl) rfl (Nat.le_of_ble_eq_true rfl) (fun _ => rfl) dL_tick_215 (fun x215 h215 H locs w => ?_)
          refine q_al M dL_tick_218 (lv_at hl 5 rfl) ?_
          refine q_al M dL_tick_220 (lv_at hl 6 rfl) ?_
          refine q_al M dL_tick_222 (lv_at hl 7 rfl) ?_
          refine qe_vS (As := [.ref (o 5), .ref (o 8), .ref (o 9)]) (rest := []) (wc := WLlod cI o (mset (mset κ 8 f) 9 x215)) (G := fun x224 => WLtic cI o (mset (mset κ 8 x224.1) 9 x224.2)) M w hA hl (k_loads l D cI cZ cJ o (mset (mset κ 8 f) 9 x215) ν (LH_q hPM hLR hfo h215)) gL_tick_L_loads rfl ⟨rfl, rfl, by decide, by decide⟩ ⟨Nat.zero_le _, Nat.zero_le _⟩ 3 (by decide +kernel) rfl [false, false, false, false, false, true, true, true] rfl (fun _ => rfl) rfl (Nat.le_of_ble_eq_true rfl) (fun _ => rfl) dL_tick_224 (fun x224 h224 H locs w => ?_)
          exact jn200 x224.1 x224.2 _ _ _ (tI_b h224 rfl (by omega)) w (lv_sub hl [0, 1, 2, 3, 4, 5, 6, 7, 8, 9] rfl)
      · refine q_il M dL_tick_35 (lv_at hl 12 rfl) ?_
        refine q_ic M dL_tick_37 ?_
        refine q_div M dL_tick_38 (by omega) ?_
        refine q_is (lv' := [(13, .int (iI (k / 4))), (0, .ref (o 0)), (1, .ref (o 1)), (2, .ref (o 2)), (3, .ref (o 3)), (4, .ref (o 4)), (5, .ref (o 5)), (6, .ref (o 8)), (7, .ref (o 9)), (8, .ref (o 10)), (9, .int (iI (ν 28 0))), (10, .int (iI (κ 10 (ν 23 0)))), (11, .int (iI (ν 16 (ν 23 0)))), (12, .int (iI k))]) M dL_tick_39 hl (by decide) rfl (fun ls hl => ?_)
        refine q_il M dL_tick_41 (lv_at hl 11 rfl) ?_
        refine q_il M dL_tick_43 (lv_at hl 0 rfl) ?_
        refine q_al M dL_tick_45 (lv_at hl 5 rfl) ?_
        refine qc_iS (As := [.int (iI (κ 10 (ν 23 0))), .int (iI (k / 4)), .ref (o 4)]) (rest := []) (wc := WLbeg cI o κ) (wc2 := WLbeg cI o κ) (ws2 := WLtic cI o (mset κ 8 f)) M w hA hl (k_begins l D cI cZ cJ o κ (κ 10 (ν 23 0)) (k / 4) (by omega) (by omega)) gL_tick_L_begins rfl ⟨rfl, rfl, by decide, by decide⟩ ⟨Nat.zero_le _, Nat.zero_le _⟩ 3 (by decide +kernel) rfl [false, false, false, false, true] rfl rfl rfl (Nat.le_of_ble_eq_true rfl) rfl dL_tick_47 (fun H locs w => ?_)
        refine q_top (y := tOf (vw ν) (cB ν (ν 23 0)) (k / 4)) (by exact hB_tOf hLA hr8 h16 h17) ?_
        have htf := tOf_bd hIP (cB ν (ν 23 0)) (k / 4)
        refine q_al M dL_tick_50 (lv_at hl 7 rfl) ?_
        refine q_ic M dL_tick_52 ?_
        refine q_iald (f := f) M w 6 0 rfl rfl (by omega) dL_tick_53 ?_
        refine q_top (y := ν 24 0) (by exact (hfo 3 (by omega) (by omega) (by omega)).trans a4) ?_
        refine q_icmp_ne (tgt := 77) M dL_tick_54 (by decide) (by omega) (fun c54 => ?_) (fun c54 => ?_)
        · refine q_ic M dL_tick_77 ?_
          refine q_is (lv' := [(14, .int (iI (-1))), (13, .int (iI (k / 4))), (0, .ref (o 0)), (1, .ref (o 1)), (2, .ref (o 2)), (3, .ref (o 3)), (4, .ref (o 4)), (5, .ref (o 5)), (6, .ref (o 8)), (7, .ref (o 9)), (8, .ref (o 10)), (9, .int (iI (ν 28 0))), (10, .int (iI (κ 10 (ν 23 0)))), (11, .int (iI (ν 16 (ν 23 0)))), (12, .int (iI k))]) M dL_tick_78 hl (by decide) rfl (fun ls hl => ?_)
          refine q_il M dL_tick_80 (lv_at hl 0 rfl) ?_
          refine q_if_lt (tgt := 176) M dL_tick_82 (by decide) (by omega) (fun c82 => ?_) (fun c82 => ?_)
          · refine q_il M dL_tick_176 (lv_at hl 0 rfl) ?_
            refine q_if_lt (tgt := 190) M dL_tick_178 (by decide) (by omega) (fun c178 => ?_) (fun c178 => ?_)
            · refine q_inc (z := k) (lv' := [(12, .int (iI (k + 1))), (14, .int (iI (-1))), (13, .int (iI (k / 4))), (0, .ref (o 0)), (1, .ref (o 1)), (2, .ref (o 2)), (3, .ref (o 3)), (4, .ref (o 4)), (5, .ref (o 5)), (6, .ref (o 8)), (7, .ref (o 9)), (8, .ref (o 10)), (9, .int (iI (ν 28 0))), (10, .int (iI (κ 10 (ν 23 0)))), (11, .int (iI (ν 16 (ν 23 0))))]) M dL_tick_190 hl (k := 14) rfl (by decide) rfl (fun ls hl => ?_)
              refine q_go (tgt := 28) M dL_tick_193 (by decide) ?_
              exact ih28 (k + 1) _ (by omega) (tkL_n hIP (by omega) hL (Or.inl c54)) (by omega) _ _ _ w (lv_sub hl [3, 4, 5, 6, 7, 8, 9, 10, 11, 12, 13, 14, 0] rfl)
            · exfalso; omega
          · exfalso; omega
        · refine q_il M dL_tick_57 (lv_at hl 11 rfl) ?_
          refine q_il M dL_tick_59 (lv_at hl 13 rfl) ?_
          refine q_ic M dL_tick_61 ?_
          refine q_rem M dL_tick_62 (by omega) ?_
          refine q_il M dL_tick_63 (lv_at hl 0 rfl) ?_
          refine q_aln M dL_tick_65 (lv_at hl 1 rfl) ?_
          refine q_aln M dL_tick_66 (lv_at hl 2 rfl) ?_
          refine q_aln M dL_tick_67 (lv_at hl 3 rfl) ?_
          refine q_aln M dL_tick_68 (lv_at hl 4 rfl) ?_
          refine qc_iS (As := [.int (iI (κ 10 (ν 23 0))), .int (iI (k % 4)), .int (iI (k / 4)), .ref (o 0), .ref (o 1), .ref (o 2), .ref (o 3)]) (rest := []) (wc := WLhas cI o κ) (wc2 := WLhas cI o κ) (ws2 := WLtic cI o (mset κ 8 f)) M w hA hl (k_has l D cI cZ cJ o κ (κ 10 (ν 23 0)) (k % 4) (k / 4) (by omega) (by omega) (by omega) (by omega)) gL_tick_L_has rfl ⟨rfl, rfl, by decide, by decide⟩ ⟨Nat.zero_le _, Nat.zero_le _⟩ 7 (by decide +kernel) rfl [true, true, true, true] rfl rfl rfl (Nat.le_of_ble_eq_true rfl) rfl dL_tick_69 (fun H locs w => ?_)
          refine q_top (y := sA (vw ν) (cB ν (ν 23 0)) (k % 4) (k / 4) + 1) (by exact hF_sA hLA hr8 h16 h17 (by omega) (by omega)) ?_
          refine q_ic M dL_tick_72 ?_
          refine q_sub M dL_tick_73 ?_
          refine q_top (y := sA (vw ν) (cB ν (ν 23 0)) (k % 4) (k / 4)) (by omega) ?_
          refine q_go (tgt := 78) M dL_tick_74 (by decide) ?_
          refine q_is (lv' := [(14, .int (iI (sA (vw ν) (cB ν (ν 23 0)) (k % 4) (k / 4)))), (13, .int (iI (k / 4))), (0, .ref (o 0)), (1, .ref (o 1)), (2, .ref (o 2)), (3, .ref (o 3)), (4, .ref (o 4)), (5, .ref (o 5)), (6, .ref (o 8)), (7, .ref (o 9)), (8, .ref (o 10)), (9, .int (iI (ν 28 0))), (10, .int (iI (κ 10 (ν 23 0)))), (11, .int (iI (ν 16 (ν 23 0)))), (12, .int (iI k))]) M dL_tick_78 hl (by decide) rfl (fun ls hl => ?_)
          refine q_il M dL_tick_80 (lv_at hl 0 rfl) ?_
          refine q_if_lt (tgt := 176) M dL_tick_82 (by decide) (by omega) (fun c82 => ?_) (fun c82 => ?_)
          · refine q_il M dL_tick_176 (lv_at hl 0 rfl) ?_
            refine q_if_lt (tgt := 190) M dL_tick_178 (by decide) (by omega) (fun c178 => ?_) (fun c178 => ?_)
            · refine q_inc (z := k) (lv' := [(12, .int (iI (k + 1))), (14, .int (iI (sA (vw ν) (cB ν (ν 23 0)) (k % 4) (k / 4)))), (13, .int (iI (k / 4))), (0, .ref (o 0)), (1, .ref (o 1)), (2, .ref (o 2)), (3, .ref (o 3)), (4, .ref (o 4)), (5, .ref (o 5)), (6, .ref (o 8)), (7, .ref (o 9)), (8, .ref (o 10)), (9, .int (iI (ν 28 0))), (10, .int (iI (κ 10 (ν 23 0)))), (11, .int (iI (ν 16 (ν 23 0))))]) M dL_tick_190 hl (k := 14) rfl (by decide) rfl (fun ls hl => ?_)
              refine q_go (tgt := 28) M dL_tick_193 (by decide) ?_
              exact ih28 (k + 1) _ (by omega) (tkL_n hIP (by omega) hL (Or.inr (by omega))) (by omega) _ _ _ w (lv_sub hl [3, 4, 5, 6, 7, 8, 9, 10, 11, 12, 13, 14, 0] rfl)
            · exfalso; omega
          · have b25 := hm25 (sA (vw ν) (cB ν (ν 23 0)) (k % 4) (k / 4))
            have b1 := hb1 (sA (vw ν) (cB ν (ν 23 0)) (k % 4) (k / 4))
            refine q_al M dL_tick_85 (lv_at hl 9 rfl) ?_
            refine q_il M dL_tick_87 (lv_at hl 0 rfl) ?_
            refine q_iald (f := κ 9) M w 7 0 rfl rfl (by omega) dL_tick_89 ?_
            refine q_top (y := ν 25 (sA (vw ν) (cB ν (ν 23 0)) (k % 4) (k / 4))) (by exact m1 _ (by omega) (by omega)) ?_
            refine q_al M dL_tick_90 (lv_at hl 7 rfl) ?_
            refine q_il M dL_tick_92 (lv_at hl 0 rfl) ?_
            refine q_iald (f := κ 5) M w 5 0 rfl rfl (by omega) dL_tick_94 ?_
            refine q_top (y := ν 1 (sA (vw ν) (cB ν (ν 23 0)) (k % 4) (k / 4))) (by exact (t1 _ (by omega) (by omega)).1) ?_
            refine q_icmp_ne (tgt := 176) M dL_tick_95 (by decide) (by omega) (fun c95 => ?_) (fun c95 => ?_)
            · refine q_il M dL_tick_176 (lv_at hl 0 rfl) ?_
              refine q_if_lt (tgt := 190) M dL_tick_178 (by decide) (by omega) (fun c178 => ?_) (fun c178 => ?_)
              · exfalso; omega
              · refine q_al M dL_tick_181 (lv_at hl 8 rfl) ?_
                refine q_bp M dL_tick_183 (by decide +kernel) ?_
                refine q_dup2 M dL_tick_185 rfl rfl ?_
                refine q_iald (f := f) M w 6 0 rfl rfl (by omega) dL_tick_186 ?_
                refine q_ic M dL_tick_187 ?_
                refine q_add M dL_tick_188 ?_
                refine q_iast (f := f) (ws2 := WLtic cI o (mset κ 8 (iU f 7 ((f 7) + 1)))) M w 6 0 rfl rfl (by omega) rfl dL_tick_189 (fun H locs w => ?_)
                refine q_inc (z := k) (lv' := [(12, .int (iI (k + 1))), (14, .int (iI (sA (vw ν) (cB ν (ν 23 0)) (k % 4) (k / 4)))), (13, .int (iI (k / 4))), (0, .ref (o 0)), (1, .ref (o 1)), (2, .ref (o 2)), (3, .ref (o 3)), (4, .ref (o 4)), (5, .ref (o 5)), (6, .ref (o 8)), (7, .ref (o 9)), (8, .ref (o 10)), (9, .int (iI (ν 28 0))), (10, .int (iI (κ 10 (ν 23 0)))), (11, .int (iI (ν 16 (ν 23 0))))]) M dL_tick_190 hl (k := 14) rfl (by decide) rfl (fun ls hl => ?_)
                refine q_go (tgt := 28) M dL_tick_193 (by decide) ?_
                exact ih28 (k + 1) _ (by omega) (tkL_m hIP (by omega) hL (by omega) (by omega) (by omega)) (by omega) _ _ _ w (lv_sub hl [3, 4, 5, 6, 7, 8, 9, 10, 11, 12, 13, 14, 0] rfl)
            · have b7 : 0 ≤ ν 7 (ν 16 (ν 23 0)) ∧ ν 7 (ν 16 (ν 23 0)) ≤ 1 := hIP.2.2.2.2.1 (ν 16 (ν 23 0))
              refine q_al M dL_tick_98 (lv_at hl 8 rfl) ?_
              refine q_bp M dL_tick_100 (by decide +kernel) ?_
              refine q_iald (f := f) M w 6 0 rfl rfl (by omega) dL_tick_102 ?_
              refine q_top (y := κ 8 9) (by exact hfo 9 (by omega) (by omega) (by omega)) ?_
              refine q_il M dL_tick_103 (lv_at hl 13 rfl) ?_
              refine q_shr M dL_tick_105 ?_
              refine q_ic M dL_tick_106 ?_
              refine q_and M dL_tick_107 ?_
              refine q_top (y := ν 7 (ν 16 (ν 23 0))) (by exact q9_b hIP t3 h16) ?_
              refine q_ic M dL_tick_108 ?_
              refine q_icmp_ne (tgt := 129) M dL_tick_109 (by decide) (by omega) (fun c109 => ?_) (fun c109 => ?_)
              · refine q_al M dL_tick_129 (lv_at hl 7 rfl) ?_
                refine q_bp M dL_tick_131 (by decide +kernel) ?_
                refine q_il M dL_tick_133 (lv_at hl 0 rfl) ?_
                refine q_add M dL_tick_135 ?_
                refine q_iald (f := κ 5) M w 5 0 rfl rfl (by omega) dL_tick_136 ?_
                refine q_top (y := tnI (vx ν) (cB ν (ν 23 0)) (sA (vw ν) (cB ν (ν 23 0)) (k % 4) (k / 4))) (by rw [(t1 _ (by omega) (by omega)).2]; exact tn_n (cB_d h17) c109) ?_
                refine q_is (lv' := [(15, .int (iI (tnI (vx ν) (cB ν (ν 23 0)) (sA (vw ν) (cB ν (ν 23 0)) (k % 4) (k / 4))))), (14, .int (iI (sA (vw ν) (cB ν (ν 23 0)) (k % 4) (k / 4)))), (13, .int (iI (k / 4))), (0, .ref (o 0)), (1, .ref (o 1)), (2, .ref (o 2)), (3, .ref (o 3)), (4, .ref (o 4)), (5, .ref (o 5)), (6, .ref (o 8)), (7, .ref (o 9)), (8, .ref (o 10)), (9, .int (iI (ν 28 0))), (10, .int (iI (κ 10 (ν 23 0)))), (11, .int (iI (ν 16 (ν 23 0)))), (12, .int (iI k))]) M dL_tick_137 hl (by decide) rfl (fun ls hl => ?_)
                refine q_al M dL_tick_139 (lv_at hl 9 rfl) ?_
                refine q_bp M dL_tick_141 (by decide +kernel) ?_
                refine q_dup2 M dL_tick_143 rfl rfl ?_
                refine q_iald (f := f) M w 6 0 rfl rfl (by omega) dL_tick_144 ?_
                refine q_ic M dL_tick_145 ?_
                refine q_add M dL_tick_146 ?_
                refine q_iast (f := f) (ws2 := WLtic cI o (mset κ 8 (iU f 6 ((f 6) + 1)))) M w 6 0 rfl rfl (by omega) rfl dL_tick_147 (fun H locs w => ?_)
                refine q_al M dL_tick_148 (lv_at hl 9 rfl) ?_
                refine q_bp M dL_tick_150 (by decide +kernel) ?_
                refine q_al M dL_tick_152 (lv_at hl 9 rfl) ?_
                refine q_bp M dL_tick_154 (by decide +kernel) ?_
                refine q_iald (f := iU f 6 ((f 6) + 1)) M w 6 0 rfl rfl (by omega) dL_tick_156 ?_
                refine q_top (y := f 8) (by exact iU_n _ _ (by omega)) ?_
                refine q_bp M dL_tick_157 (by decide +kernel) ?_
                refine q_mul M dL_tick_159 ?_
                refine q_bp M dL_tick_160 (by decide +kernel) ?_
                refine q_il M dL_tick_162 (lv_at hl 1 rfl) ?_
                refine q_mul M dL_tick_164 ?_
                refine q_add M dL_tick_165 ?_
                refine q_il M dL_tick_166 (lv_at hl 0 rfl) ?_
                refine q_add M dL_tick_168 ?_
                refine q_bp M dL_tick_169 (by decide +kernel) ?_
                refine q_add M dL_tick_171 ?_
                refine q_iast (f := iU f 6 ((f 6) + 1)) (ws2 := WLtic cI o (mset κ 8 (iU (iU f 6 ((f 6) + 1)) 8 (((((f 8) * 31) + (100 * (sA (vw ν) (cB ν (ν 23 0)) (k % 4) (k / 4)))) + (tnI (vx ν) (cB ν (ν 23 0)) (sA (vw ν) (cB ν (ν 23 0)) (k % 4) (k / 4)))) + 12)))) M w 6 0 rfl rfl (by omega) rfl dL_tick_172 (fun H locs w => ?_)
                refine q_go (tgt := 190) M dL_tick_173 (by decide) ?_
                refine q_inc (z := k) (lv' := [(12, .int (iI (k + 1))), (15, .int (iI (tnI (vx ν) (cB ν (ν 23 0)) (sA (vw ν) (cB ν (ν 23 0)) (k % 4) (k / 4))))), (14, .int (iI (sA (vw ν) (cB ν (ν 23 0)) (k % 4) (k / 4)))), (13, .int (iI (k / 4))), (0, .ref (o 0)), (1, .ref (o 1)), (2, .ref (o 2)), (3, .ref (o 3)), (4, .ref (o 4)), (5, .ref (o 5)), (6, .ref (o 8)), (7, .ref (o 9)), (8, .ref (o 10)), (9, .int (iI (ν 28 0))), (10, .int (iI (κ 10 (ν 23 0)))), (11, .int (iI (ν 16 (ν 23 0))))]) M dL_tick_190 hl (k := 15) rfl (by decide) rfl (fun ls hl => ?_)
                refine q_go (tgt := 28) M dL_tick_193 (by decide) ?_
                exact ih28 (k + 1) _ (by omega) (tkL_h hIP (by omega) hL (by omega) (by omega) (by omega) rfl) (by omega) _ _ _ w (lv_sub hl [4, 5, 6, 7, 8, 9, 10, 11, 12, 13, 14, 15, 0] rfl)
              · refine q_al M dL_tick_112 (lv_at hl 7 rfl) ?_
                refine q_bp M dL_tick_114 (by decide +kernel) ?_
                refine q_bp M dL_tick_116 (by decide +kernel) ?_
                refine q_il M dL_tick_118 (lv_at hl 13 rfl) ?_
                refine q_mul M dL_tick_120 ?_
                refine q_add M dL_tick_121 ?_
                refine q_il M dL_tick_122 (lv_at hl 0 rfl) ?_
                refine q_add M dL_tick_124 ?_
                refine q_iald (f := κ 5) M w 5 0 rfl rfl (by omega) dL_tick_125 ?_
                refine q_top (y := tnI (vx ν) (cB ν (ν 23 0)) (sA (vw ν) (cB ν (ν 23 0)) (k % 4) (k / 4))) (by rw [show 16 + 8 * ν 16 (ν 23 0) + sA (vw ν) (cB ν (ν 23 0)) (k % 4) (k / 4) = 16 + (8 * ν 16 (ν 23 0) + sA (vw ν) (cB ν (ν 23 0)) (k % 4) (k / 4)) by omega, t2 _ (by omega) (by omega)]; exact tn_y (cB_d h17) c109) ?_
                refine q_go (tgt := 137) M dL_tick_126 (by decide) ?_
                refine q_is (lv' := [(15, .int (iI (tnI (vx ν) (cB ν (ν 23 0)) (sA (vw ν) (cB ν (ν 23 0)) (k % 4) (k / 4))))), (14, .int (iI (sA (vw ν) (cB ν (ν 23 0)) (k % 4) (k / 4)))), (13, .int (iI (k / 4))), (0, .ref (o 0)), (1, .ref (o 1)), (2, .ref (o 2)), (3, .ref (o 3)), (4, .ref (o 4)), (5, .ref (o 5)), (6, .ref (o 8)), (7, .ref (o 9)), (8, .ref (o 10)), (9, .int (iI (ν 28 0))), (10, .int (iI (κ 10 (ν 23 0)))), (11, .int (iI (ν 16 (ν 23 0)))), (12, .int (iI k))]) M dL_tick_137 hl (by decide) rfl (fun ls hl => ?_)
                refine q_al M dL_tick_139 (lv_at hl 9 rfl) ?_
                refine q_bp M dL_tick_141 (by decide +kernel) ?_
                refine q_dup2 M dL_tick_143 rfl rfl ?_
                refine q_iald (f := f) M w 6 0 rfl rfl (by omega) dL_tick_144 ?_
                refine q_ic M dL_tick_145 ?_
                refine q_add M dL_tick_146 ?_
                refine q_iast (f := f) (ws2 := WLtic cI o (mset κ 8 (iU f 6 ((f 6) + 1)))) M w 6 0 rfl rfl (by omega) rfl dL_tick_147 (fun H locs w => ?_)
                refine q_al M dL_tick_148 (lv_at hl 9 rfl) ?_
                refine q_bp M dL_tick_150 (by decide +kernel) ?_
                refine q_al M dL_tick_152 (lv_at hl 9 rfl) ?_
                refine q_bp M dL_tick_154 (by decide +kernel) ?_
                refine q_iald (f := iU f 6 ((f 6) + 1)) M w 6 0 rfl rfl (by omega) dL_tick_156 ?_
                refine q_top (y := f 8) (by exact iU_n _ _ (by omega)) ?_
                refine q_bp M dL_tick_157 (by decide +kernel) ?_
                refine q_mul M dL_tick_159 ?_
                refine q_bp M dL_tick_160 (by decide +kernel) ?_
                refine q_il M dL_tick_162 (lv_at hl 1 rfl) ?_
                refine q_mul M dL_tick_164 ?_
                refine q_add M dL_tick_165 ?_
                refine q_il M dL_tick_166 (lv_at hl 0 rfl) ?_
                refine q_add M dL_tick_168 ?_
                refine q_bp M dL_tick_169 (by decide +kernel) ?_
                refine q_add M dL_tick_171 ?_
                refine q_iast (f := iU f 6 ((f 6) + 1)) (ws2 := WLtic cI o (mset κ 8 (iU (iU f 6 ((f 6) + 1)) 8 (((((f 8) * 31) + (100 * (sA (vw ν) (cB ν (ν 23 0)) (k % 4) (k / 4)))) + (tnI (vx ν) (cB ν (ν 23 0)) (sA (vw ν) (cB ν (ν 23 0)) (k % 4) (k / 4)))) + 12)))) M w 6 0 rfl rfl (by omega) rfl dL_tick_172 (fun H locs w => ?_)
                refine q_go (tgt := 190) M dL_tick_173 (by decide) ?_
                refine q_inc (z := k) (lv' := [(12, .int (iI (k + 1))), (15, .int (iI (tnI (vx ν) (cB ν (ν 23 0)) (sA (vw ν) (cB ν (ν 23 0)) (k % 4) (k / 4))))), (14, .int (iI (sA (vw ν) (cB ν (ν 23 0)) (k % 4) (k / 4)))), (13, .int (iI (k / 4))), (0, .ref (o 0)), (1, .ref (o 1)), (2, .ref (o 2)), (3, .ref (o 3)), (4, .ref (o 4)), (5, .ref (o 5)), (6, .ref (o 8)), (7, .ref (o 9)), (8, .ref (o 10)), (9, .int (iI (ν 28 0))), (10, .int (iI (κ 10 (ν 23 0)))), (11, .int (iI (ν 16 (ν 23 0))))]) M dL_tick_190 hl (k := 15) rfl (by decide) rfl (fun ls hl => ?_)
                refine q_go (tgt := 28) M dL_tick_193 (by decide) ?_
                exact ih28 (k + 1) _ (by omega) (tkL_h hIP (by omega) hL (by omega) (by omega) (by omega) rfl) (by omega) _ _ _ w (lv_sub hl [4, 5, 6, 7, 8, 9, 10, 11, 12, 13, 14, 15, 0] rfl)
  exact lp28 65 0 (κ 8) (by omega) ⟨by rw [uW_0 hIP (by omega)]; exact ⟨m4.1, m4.2.1, m4.2.2⟩, fun _ _ _ _ => rfl⟩ (by omega) _ _ _ w (lv_sub hl [4, 5, 6, 7, 8, 9, 10, 11, 12, 3, 2, 1, 0] rfl)
