/-! PURE: sums; songs that agree; the bars ahead -/
theorem sI_cg {f g : Int → Int} {n : Int} (hn : 0 ≤ n) (h : ∀ i, 0 ≤ i → i < n → f i = g i) : sI f n = sI g n := by
  obtain ⟨m, rfl⟩ := Int.eq_ofNat_of_zero_le hn
  induction m with
  | zero => rw [show ((0 : Nat) : Int) = 0 from rfl, sI_0, sI_0]
  | succ m ih =>
    rw [show ((m + 1 : Nat) : Int) = (m : Int) + 1 from rfl, sI_s _ (by omega), sI_s _ (by omega), ih (by omega) (fun i h1 h2 => h i h1 (by omega)), h m (by omega) (by omega)]
theorem sI_add (f g : Int → Int) {n : Int} (hn : 0 ≤ n) : sI (fun i => f i + g i) n = sI f n + sI g n := by
  obtain ⟨m, rfl⟩ := Int.eq_ofNat_of_zero_le hn
  induction m with
  | zero => rw [show ((0 : Nat) : Int) = 0 from rfl, sI_0, sI_0, sI_0]; rfl
  | succ m ih =>
    rw [show ((m + 1 : Nat) : Int) = (m : Int) + 1 from rfl, sI_s _ (by omega), sI_s _ (by omega), sI_s _ (by omega), ih (by omega)]
    omega
theorem sI_z {n : Int} (hn : 0 ≤ n) : sI (fun _ => 0) n = 0 := by
  obtain ⟨m, rfl⟩ := Int.eq_ofNat_of_zero_le hn
  induction m with
  | zero => rw [show ((0 : Nat) : Int) = 0 from rfl, sI_0]
  | succ m ih => rw [show ((m + 1 : Nat) : Int) = (m : Int) + 1 from rfl, sI_s _ (by omega), ih (by omega)]; rfl
theorem sI_fub (f : Int → Int → Int) {a b : Int} (ha : 0 ≤ a) (hb : 0 ≤ b) : sI (fun i => sI (fun j => f i j) b) a = sI (fun j => sI (fun i => f i j) a) b := by
  obtain ⟨m, rfl⟩ := Int.eq_ofNat_of_zero_le ha
  induction m with
  | zero =>
    rw [show ((0 : Nat) : Int) = 0 from rfl, sI_0]
    rw [sI_cg hb (g := fun _ => 0) (fun i _ _ => sI_0 _), sI_z hb]
  | succ m ih =>
    rw [show ((m + 1 : Nat) : Int) = (m : Int) + 1 from rfl, sI_s _ (by omega), ih (by omega), ← sI_add _ _ hb]
    exact sI_cg hb (fun j _ _ => (sI_s _ (by omega)).symm)
theorem sI_app (f : Int → Int) {n k : Int} (hn : 0 ≤ n) (hk : 0 ≤ k) : sI f (n + k) = sI f n + sI (fun j => f (n + j)) k := by
  obtain ⟨m, rfl⟩ := Int.eq_ofNat_of_zero_le hk
  induction m with
  | zero => rw [show ((0 : Nat) : Int) = 0 from rfl, Int.add_zero, sI_0, Int.add_zero]
  | succ m ih =>
    rw [show n + ((m + 1 : Nat) : Int) = (n + m) + 1 by omega, sI_s _ (by omega), ih (by omega), show ((m + 1 : Nat) : Int) = (m : Int) + 1 from rfl, sI_s _ (by omega)]
    omega
theorem sI_blk (f : Int → Int) {a n : Int} (ha : 0 ≤ a) (hn : 0 ≤ n) : sI f (n * a) = sI (fun i => sI (fun j => f (i * a + j)) a) n := by
  obtain ⟨m, rfl⟩ := Int.eq_ofNat_of_zero_le hn
  induction m with
  | zero => rw [show ((0 : Nat) : Int) = 0 from rfl, Int.zero_mul, sI_0, sI_0]
  | succ m ih =>
    have h0 : 0 ≤ (m : Int) * a := Int.mul_nonneg (by omega) ha
    rw [show ((m + 1 : Nat) : Int) * a = (m : Int) * a + a by rw [show ((m + 1 : Nat) : Int) = (m : Int) + 1 from rfl, Int.add_mul, Int.one_mul], sI_app _ h0 ha, ih (by omega), show ((m + 1 : Nat) : Int) = (m : Int) + 1 from rfl, sI_s _ (by omega)]
theorem sI_one {q v n : Int} (hq : 0 ≤ q ∧ q < n) : sI (fun j => if j = q then v else 0) n = v := by
  have e : n = q + (1 + (n - q - 1)) := by omega
  rw [e, sI_app _ hq.1 (by omega), sI_app _ (by omega) (by omega)]
  rw [sI_cg hq.1 (g := fun _ => 0) (fun i h1 h2 => if_neg (by omega)), sI_z hq.1]
  rw [sI_cg (show (0 : Int) ≤ n - q - 1 by omega) (g := fun _ => 0) (fun i h1 h2 => if_neg (by omega)), sI_z (by omega)]
  rw [show (1 : Int) = 0 + 1 from rfl, sI_s _ (Int.le_refl 0), sI_0, if_pos (by omega)]
  omega
theorem sI_mono (f : Int → Int) (hf : ∀ j, 0 ≤ f j) {a b : Int} (ha : 0 ≤ a) (hab : a ≤ b) : sI f a ≤ sI f b := by
  obtain ⟨m, hm⟩ := Int.eq_ofNat_of_zero_le (show 0 ≤ b - a by omega)
  obtain rfl : b = a + m := by omega
  clear hm hab
  induction m with
  | zero => rw [show ((0 : Nat) : Int) = 0 from rfl, Int.add_zero]; exact Int.le_refl _
  | succ m ih =>
    rw [show a + ((m + 1 : Nat) : Int) = (a + m) + 1 by omega, sI_s _ (by omega)]
    have := hf (a + m)
    omega
theorem sI_iU (g : Int → Int) {i v n : Int} (hi : 0 ≤ i ∧ i < n) : sI (iU g i v) n = sI g n + (v - g i) := by
  have e : iU g i v = fun j => g j + (if j = i then v - g i else 0) := by
    funext j
    unfold iU
    by_cases q : j = i
    · rw [if_pos q, if_pos q, q]; omega
    · rw [if_neg q, if_neg q]; omega
  rw [e, sI_add _ _ (by omega), sI_one hi]
/-- a beat counted by ticks is counted by steps -/
theorem cBt_cBs {μ : Nat → Int → Int} (hI : IP μ) (c : Int) : cBt μ c = cBs μ c := by
  unfold cBt cBs
  rw [show (192 : Int) = 16 * 12 from rfl, sI_blk _ (by omega) (by omega)]
  refine sI_cg (by omega) (fun s h1 h2 => ?_)
  have hb := tOf_bd hI c s
  rw [sI_cg (show (0 : Int) ≤ 12 by omega) (g := fun j => if j = tOf μ c s - s * 12 then cSt μ c s else 0) (fun j h3 h4 => ?_)]
  · exact sI_one (by omega)
  · have hd : (s * 12 + j) / 12 = s := by omega
    by_cases q : j = tOf μ c s - s * 12
    · have e : sTa μ c (s * 12 + j) = s := (sTa_t hI).1 (by omega)
      rw [e, if_neg (by omega), if_pos q]
    · have e : sTa μ c (s * 12 + j) = -1 := by
        unfold sTa
        rw [hd, if_neg (by omega)]
      rw [e, if_pos rfl, if_neg q]
/-- .. and by places -/
theorem btR_cBs (m : Nat → Int → Int) (s : Int) {n : Int} (hn : 0 ≤ n) : sI (btR m s) (n * 64) = sI (fun b => cBs m (cdF m (bP m s b) (bT m s b))) n := by
  rw [sI_blk _ (by omega) hn]
  refine sI_cg hn (fun b h1 h2 => ?_)
  rw [show (64 : Int) = 4 * 16 from rfl, sI_blk _ (by omega) (by omega)]
  unfold cBs cSt
  rw [← sI_fub (fun t st => if sA m (cdF m (bP m s b) (bT m s b)) t st = -1 then 0 else 1) (show (0 : Int) ≤ 4 by omega) (show (0 : Int) ≤ 16 by omega)]
  refine sI_cg (by omega) (fun t h3 h4 => sI_cg (by omega) (fun st h5 h6 => ?_))
  unfold btR
  rw [show (b * (4 * 16) + (t * 16 + st)) / 64 = b by omega, show (b * (4 * 16) + (t * 16 + st)) / 16 % 4 = t by omega, show (b * (4 * 16) + (t * 16 + st)) % 16 = st by omega]
/-- songs that agree -/
def SgA (μ m : Nat → Int → Int) (s : Int) : Prop := μ 8 s = m 8 s ∧ ∀ e, 0 ≤ e → e < μ 8 s → μ 9 (s * 8 + e) = m 9 (s * 8 + e) ∧ μ 10 (s * 8 + e) = m 10 (s * 8 + e) ∧ μ 12 (s * 8 + e) = m 12 (s * 8 + e) ∧ (0 < μ 12 (s * 8 + e) → μ 11 (s * 8 + e) = m 11 (s * 8 + e))
theorem SgA_SD {μ m : Nat → Int → Int} {s : Int} (hA : SgA μ m s) (hS : SDs μ s) : SDs m s := by
  refine ⟨hA.1 ▸ hS.1, fun e h1 h2 => ?_⟩
  have h3 : e < μ 8 s := by rw [hA.1]; exact h2
  obtain ⟨a1, a2, a3, a4⟩ := hA.2 e h1 h3
  obtain ⟨b1, b2, b3, b4⟩ := hS.2 e h1 h3
  unfold sP sR sG sT at *
  rw [← a1, ← a2, ← a3]
  exact ⟨b1, b2, b3, fun z => by rw [← a4 z, ← hA.1]; exact b4 z⟩
theorem SgA_ly {μ m : Nat → Int → Int} {s : Int} (hA : SgA μ m s) (hS : SDs μ s) {k : Int} (hk : 0 ≤ k) (h : k ≤ lBs μ s) : ly m s k = ly μ s k := by
  obtain ⟨n, rfl⟩ := Int.eq_ofNat_of_zero_le hk
  induction n with
  | zero => exact (lay_0 _ _ _ _).trans (lay_0 _ _ _ _).symm
  | succ n ih =>
    have ih2 := ih (by omega) (by omega)
    have e1 : ly m s ((n : Int) + 1) = lsF (sP m s) (sR m s) (sG m s) (sT m s) (ly m s n) := lay_s _ _ _ _ (by omega)
    have e2 : ly μ s ((n : Int) + 1) = lsF (sP μ s) (sR μ s) (sG μ s) (sT μ s) (ly μ s n) := lay_s _ _ _ _ (by omega)
    show ly m s ((n : Int) + 1) = ly μ s ((n : Int) + 1)
    rw [e1, e2, ih2]
    have ok : lsOK (μ 8 s) (sP μ s) (sR μ s) (sG μ s) (sT μ s) n := lay_ok hS (by omega) (by unfold lBs at h; omega)
    have hlt : (ly μ s n).1 < μ 8 s := (lB_in _ _ _ _ _).2.1 n (by omega) (by unfold lBs at h; omega)
    have hl0 : 0 ≤ (ly μ s n).1 := ok.1.1
    obtain ⟨a1, a2, a3, a4⟩ := hA.2 (ly μ s n).1 hl0 hlt
    have hd : 0 ≤ (ly μ s n).2.2.1 (ly μ s n).1 ∧ (ly μ s n).2.2.1 (ly μ s n).1 ≤ n := ok.2.2.1 (ly μ s n).1
    have p1 : sP m s (ly μ s n).1 = sP μ s (ly μ s n).1 := a1.symm
    have p2 : sR m s (ly μ s n).1 = sR μ s (ly μ s n).1 := a2.symm
    have p3 : sT m s (ly μ s n).1 = sT μ s (ly μ s n).1 := a3.symm
    have p4 : lvE (sT m s) (sG m s) (ly μ s n).2.2.1 (ly μ s n).1 = lvE (sT μ s) (sG μ s) (ly μ s n).2.2.1 (ly μ s n).1 := by
      unfold lvE
      rw [p3]
      by_cases q : sT μ s (ly μ s n).1 ≤ (ly μ s n).2.2.1 (ly μ s n).1
      · rw [if_pos q, if_pos q]
      · rw [if_neg q, if_neg q]
        have hd2 : 0 ≤ (ly μ s n).2.2.1 (ly μ s n).1 := hd.1
        have q2 : ¬ μ 12 (s * 8 + (ly μ s n).1) ≤ (ly μ s n).2.2.1 (ly μ s n).1 := q
        exact (a4 (by omega)).symm
    have p5 : lvD (sT m s) (ly μ s n).2.2.1 (ly μ s n).1 = lvD (sT μ s) (ly μ s n).2.2.1 (ly μ s n).1 := by
      unfold lvD
      rw [p3]
    unfold lsF
    rw [p1, p2, p4, p5]
theorem SgA_lB {μ m : Nat → Int → Int} {s : Int} (hA : SgA μ m s) (hS : SDs μ s) : lBs m s = lBs μ s := by
  have h := lB_in (μ 8 s) (sP μ s) (sR μ s) (sG μ s) (sT μ s)
  refine lB_of h.1 (fun j h1 h2 => ?_) ?_
  · have e := SgA_ly hA hS h1 (Int.le_of_lt h2)
    have e2 := h.2.1 j h1 h2
    rw [← hA.1]
    show (ly m s j).1 < _
    rw [e]
    exact e2
  · have e := SgA_ly hA hS h.1.1 (Int.le_refl _)
    rcases h.2.2 with q | q
    · exact Or.inl q
    · right
      rw [← hA.1]
      show _ ≤ (ly m s (lB (μ 8 s) (sP μ s) (sR μ s) (sG μ s) (sT μ s))).1
      rw [e]
      exact q
theorem SgA_b {μ m : Nat → Int → Int} {s : Int} (hA : SgA μ m s) (hS : SDs μ s) {k : Int} (hk : 0 ≤ k ∧ k < lBs μ s) : bP m s k = bP μ s k ∧ bT m s k = bT μ s k := by
  have e := SgA_ly hA hS hk.1 (Int.le_of_lt hk.2)
  have ok : lsOK (μ 8 s) (sP μ s) (sR μ s) (sG μ s) (sT μ s) k := lay_ok hS hk.1 (Int.le_of_lt hk.2)
  have hlt : (ly μ s k).1 < μ 8 s := (lB_in _ _ _ _ _).2.1 k hk.1 hk.2
  have p : bP m s k = bP μ s k := by
    show sP m s (ly m s k).1 = sP μ s (ly μ s k).1
    rw [e]
    exact (hA.2 _ ok.1.1 hlt).1.symm
  refine ⟨p, ?_⟩
  unfold bT
  rw [p, e]
/-- the bars of the first j songs of the set -/
noncomputable def fsC (μ : Nat → Int → Int) (j : Int) : Int := sI (fun j => μ 13 (μ 18 j)) j
/-- the codes of the set's bars, as the reference holds them -/
def hCd (μ ν : Nat → Int → Int) : Prop := ∀ j b, 0 ≤ j → j < μ 22 0 → 0 ≤ b → b < μ 13 (μ 18 j) → cB ν (fsC μ j + b) = cdF μ (μ 14 (μ 18 j * 64 + b)) (μ 15 (μ 18 j * 64 + b))
theorem fsC_le {μ : Nat → Int → Int} (hI : IH μ) {a b : Int} (ha : 0 ≤ a) (hab : a ≤ b) (hb : b ≤ μ 22 0) : fsC μ a ≤ fsC μ b := by
  have e : ∀ n, 0 ≤ n → n ≤ μ 22 0 → fsC μ n = sI (fun j => if 0 ≤ j ∧ j < μ 22 0 then μ 13 (μ 18 j) else 0) n := fun n h1 h2 => sI_cg h1 (fun i h3 h4 => (if_pos ⟨h3, by omega⟩).symm)
  rw [e a ha (by omega), e b (by omega) hb]
  refine sI_mono _ (fun j => ?_) ha hab
  by_cases q : 0 ≤ j ∧ j < μ 22 0
  · rw [if_pos q]
    have i2 := hI.2.1 j q.1 q.2
    have i3 := hI.2.2 (μ 18 j) i2.1 i2.2
    omega
  · rw [if_neg q]; omega
theorem fsC_s (μ : Nat → Int → Int) {j : Int} (hj : 0 ≤ j) : fsC μ (j + 1) = fsC μ j + μ 13 (μ 18 j) := sI_s _ hj
theorem cAh_h {μ ν : Nat → Int → Int} (hI : IH μ) (hc : (0 ≤ μ 24 0 ∧ μ 24 0 ≤ μ 22 0) ∧ 0 ≤ μ 25 0 ∧ μ 25 0 < 64) (h14 : ν 14 0 = μ 22 0) (h18 : ν 18 (μ 22 0) = fsC μ (μ 22 0)) (hnow : ν 23 0 = fsC μ (μ 24 0) + μ 25 0) (hd : hCd μ ν) : hA4 μ ν := by
  intro h h1 h2
  have hb : 0 ≤ (cAt μ h).1 ∧ (cAt μ h).1 ≤ μ 22 0 ∧ 0 ≤ (cAt μ h).2 ∧ (cAt μ h).2 < 70 := cAt_bd hI ⟨⟨h1, h2⟩, hc⟩ (n := 8) (by omega)
  have he := cAt_end hI ⟨⟨h1, h2⟩, hc⟩
  have hinv : ∀ n : Int, 0 ≤ n → fsC μ (itI (fun _ st => caS μ st) (μ 24 0, μ 25 0 + h) n).1 + (itI (fun _ st => caS μ st) (μ 24 0, μ 25 0 + h) n).2 = fsC μ (μ 24 0) + μ 25 0 + h ∧ 0 ≤ (itI (fun _ st => caS μ st) (μ 24 0, μ 25 0 + h) n).1 := by
    intro n hn
    refine itI_ind (fun _ (st : Int × Int) => fsC μ st.1 + st.2 = fsC μ (μ 24 0) + μ 25 0 + h ∧ 0 ≤ st.1) ⟨by dsimp only; omega, hc.1.1⟩ (fun i st hi ih => ?_) hn
    unfold caS
    by_cases q : st.1 < μ 22 0 ∧ μ 13 (μ 18 st.1) ≤ st.2
    · rw [if_pos q]
      have := fsC_s μ ih.2
      dsimp only
      omega
    · rw [if_neg q]; exact ih
  have hv : fsC μ (cAt μ h).1 + (cAt μ h).2 = fsC μ (μ 24 0) + μ 25 0 + h := (hinv 8 (by omega)).1
  rw [h14, h18, hnow]
  unfold cAh cAz
  by_cases q : (cAt μ h).1 < μ 22 0
  · have hs := fsC_s μ hb.1
    have hl := fsC_le hI (a := (cAt μ h).1 + 1) (b := μ 22 0) (by omega) (by omega) (by omega)
    rw [if_pos q, if_pos (by omega), ← hv]
    exact (hd _ _ hb.1 q hb.2.2.1 (by omega)).symm
  · have e : (cAt μ h).1 = μ 22 0 := by omega
    rw [e] at hv
    rw [if_neg q, if_neg (by omega)]
