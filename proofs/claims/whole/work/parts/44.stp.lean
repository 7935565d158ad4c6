/-! ONE CALL: class and reference alike -/
def SP (l : Launch) (D : va_G) (cI cZ cJ : ClassId) (a b : Nat → Nat) (o : Nat) (f : Nat → Int64) (μ ν : Nat → Int → Int) (yl : MethodName) (wl : List Cond) (rl : Room) (avl : List Value) (ym : MethodName) (wm : List Cond) (rm : Room) (avm : List Value) (pb : Int → Prop) : Prop :=
  ∃ (k bz : Int) (f2 : Nat → Int64) (μ2 ν2 : Nat → Int → Int), Lc l D (tY cI cZ cJ) yl wl rl avl (WL cI cJ a o f μ) k (WL cI cJ a o f2 μ2) ∧ Ci l D (tY cI cZ cJ) ym wm rm avm (WMod cI cZ b ν) bz (WMod cI cZ b ν2) ∧ ν2 0 0 = k ∧ (k = 0 → f2 0 = jL bz) ∧ Rel μ2 ν2 ∧ (0 ≤ k ∧ k ≤ 3) ∧ pb bz
section SPS
variable {l : Launch} {D : va_G} {cI cZ cJ : ClassId} {a b : Nat → Nat} {o : Nat} {f : Nat → Int64} {μ ν ν2 μp : Nat → Int → Int} {yl : MethodName} {wl : List Cond} {rl : Room} {avl : List Value} {ym : MethodName} {wm : List Cond} {rm : Room} {avm : List Value} {ex : Option String} {k1 k2 k3 z bz : Int} {pb : Int → Prop}
theorem sp_ok (hL : ∀ (k : Int) (f2 : Nat → Int64) (μ2 : Nat → Int → Int), LK ex k1 k2 k3 z k f f2 μ μp μ2 → Lc l D (tY cI cZ cJ) yl wl rl avl (WL cI cJ a o f μ) k (WL cI cJ a o f2 μ2)) (he : ex = none) (hC : Ci l D (tY cI cZ cJ) ym wm rm avm (WMod cI cZ b ν) bz (WMod cI cZ b ν2)) (hz : z = bz) (h0 : ν2 0 0 = 0) (hR : Rel μp ν2) (hb : pb bz) : SP l D cI cZ cJ a b o f μ ν yl wl rl avl ym wm rm avm pb :=
  ⟨0, bz, fU f z, μp, ν2, hL 0 _ _ (Or.inl ⟨he, rfl, rfl, rfl⟩), hC, h0, fun _ => by rw [← hz]; exact if_pos rfl, hR, ⟨by omega, by omega⟩, hb⟩
theorem sp_1 (hL : ∀ (k : Int) (f2 : Nat → Int64) (μ2 : Nat → Int → Int), LK ex k1 k2 k3 z k f f2 μ μp μ2 → Lc l D (tY cI cZ cJ) yl wl rl avl (WL cI cJ a o f μ) k (WL cI cJ a o f2 μ2)) (he : ex = some eIOB) (hk : k1 ≠ 0 ∧ 0 ≤ k1 ∧ k1 ≤ 3) (hC : Ci l D (tY cI cZ cJ) ym wm rm avm (WMod cI cZ b ν) bz (WMod cI cZ b ν2)) (h0 : ν2 0 0 = k1) (hR : Rel μ ν2) (hb : pb bz) : SP l D cI cZ cJ a b o f μ ν yl wl rl avl ym wm rm avm pb :=
  ⟨k1, bz, f, μ, ν2, hL k1 _ _ (Or.inr (Or.inl ⟨he, rfl, hk.1, rfl, rfl⟩)), hC, h0, fun q => absurd q hk.1, hR, hk.2, hb⟩
theorem sp_2 (hL : ∀ (k : Int) (f2 : Nat → Int64) (μ2 : Nat → Int → Int), LK ex k1 k2 k3 z k f f2 μ μp μ2 → Lc l D (tY cI cZ cJ) yl wl rl avl (WL cI cJ a o f μ) k (WL cI cJ a o f2 μ2)) (he : ex = some eIAE) (hk : k2 ≠ 0 ∧ 0 ≤ k2 ∧ k2 ≤ 3) (hC : Ci l D (tY cI cZ cJ) ym wm rm avm (WMod cI cZ b ν) bz (WMod cI cZ b ν2)) (h0 : ν2 0 0 = k2) (hR : Rel μ ν2) (hb : pb bz) : SP l D cI cZ cJ a b o f μ ν yl wl rl avl ym wm rm avm pb :=
  ⟨k2, bz, f, μ, ν2, hL k2 _ _ (Or.inr (Or.inr (Or.inl ⟨he, rfl, hk.1, rfl, rfl⟩))), hC, h0, fun q => absurd q hk.1, hR, hk.2, hb⟩
theorem sp_3 (hL : ∀ (k : Int) (f2 : Nat → Int64) (μ2 : Nat → Int → Int), LK ex k1 k2 k3 z k f f2 μ μp μ2 → Lc l D (tY cI cZ cJ) yl wl rl avl (WL cI cJ a o f μ) k (WL cI cJ a o f2 μ2)) (he : ex = some eISE) (hk : k3 ≠ 0 ∧ 0 ≤ k3 ∧ k3 ≤ 3) (hC : Ci l D (tY cI cZ cJ) ym wm rm avm (WMod cI cZ b ν) bz (WMod cI cZ b ν2)) (h0 : ν2 0 0 = k3) (hR : Rel μ ν2) (hb : pb bz) : SP l D cI cZ cJ a b o f μ ν yl wl rl avl ym wm rm avm pb :=
  ⟨k3, bz, f, μ, ν2, hL k3 _ _ (Or.inr (Or.inr (Or.inr ⟨he, rfl, hk.1, rfl, rfl⟩))), hC, h0, fun q => absurd q hk.1, hR, hk.2, hb⟩
end SPS
theorem tkM_0 (ν : Nat → Int → Int) {n : Int} (hn : 0 ≤ n) : tkM ν n 0 0 = 0 := by
  refine itI_ind (fun _ (m : Nat → Int → Int) => m 0 0 = 0) rfl (fun i m hi q => ?_) hn
  show (if m 21 0 = 1 then psR m else m) 0 0 = 0
  split
  · exact q
  · exact q

set_option maxHeartbeats 4000000 in
set_option maxRecDepth 100000 in
theorem s_setSize (l : Launch) (hfl : l.stackTraces = false) (D : va_G) (cI cZ cJ : ClassId) (a b : Nat → Nat) (o : Nat) (f : Nat → Int64) (μ ν : Nat → Int → Int) (s v : Int) (hs : -2147483648 ≤ s ∧ s < 2147483648) (hv : -2147483648 ≤ v ∧ v < 2147483648) (h : Rel μ ν) : SP l D cI cZ cJ a b o f μ ν yL_setSize wsL_setSize rmL_setSize [.ref (a 0), .int (iI s), .int (iI v), .ref o] yX7_setSize wsX7_setSize rmX7_setSize [.ref (b 0), .int (iI s), .int (iI v)] (fun _ => True) := by
  obtain ⟨q22, b22, qL, q23, h23⟩ := h.2.2.2.1
  have h21 : ν 21 0 = 0 ∨ ν 21 0 = 1 := by omega
  have hL := l_setSize l hfl D cI cZ cJ a μ o f s v hs hv h23
  by_cases c0 : 0 ≤ s ∧ s ≤ 7
  · by_cases c1 : 1 ≤ v ∧ v ≤ 6
    · by_cases c2 : μ 23 0 = 0
      · exact sp_ok hL (by rw [chk_t c0, chk_t c1, chk_t c2]; rfl) (m_setSize l D cI cZ cJ b ν s v hs hv h21 (by omega)) (congrFun h.1.1.1 s) rfl (Rel_setSize h c2 c1) trivial
      · exact sp_3 hL (by rw [chk_t c0, chk_t c1, chk_f c2]; rfl) (by decide) (m_setSize_x l D cI cZ cJ b ν s v hs hv h21 3 (by omega)) rfl (Rel_same h (Same_0 ν _)) trivial
    · exact sp_2 hL (by rw [chk_t c0, chk_f c1]; rfl) (by decide) (m_setSize_x l D cI cZ cJ b ν s v hs hv h21 2 (by omega)) rfl (Rel_same h (Same_0 ν _)) trivial
  · exact sp_1 hL (by rw [chk_f c0]; rfl) (by decide) (m_setSize_x l D cI cZ cJ b ν s v hs hv h21 1 (by omega)) rfl (Rel_same h (Same_0 ν _)) trivial

set_option maxHeartbeats 4000000 in
set_option maxRecDepth 100000 in
theorem s_tune (l : Launch) (hfl : l.stackTraces = false) (D : va_G) (cI cZ cJ : ClassId) (a b : Nat → Nat) (o : Nat) (f : Nat → Int64) (μ ν : Nat → Int → Int) (s v : Int) (hs : -2147483648 ≤ s ∧ s < 2147483648) (hv : -2147483648 ≤ v ∧ v < 2147483648) (h : Rel μ ν) : SP l D cI cZ cJ a b o f μ ν yL_tune wsL_tune rmL_tune [.ref (a 0), .int (iI s), .int (iI v), .ref o] yX7_tune wsX7_tune rmX7_tune [.ref (b 0), .int (iI s), .int (iI v)] (fun _ => True) := by
  obtain ⟨q22, b22, qL, q23, h23⟩ := h.2.2.2.1
  have h21 : ν 21 0 = 0 ∨ ν 21 0 = 1 := by omega
  have hL := l_tune l hfl D cI cZ cJ a μ o f s v hs hv 
  by_cases c0 : 0 ≤ s ∧ s ≤ 7
  · by_cases c1 : -12 ≤ v ∧ v ≤ 12
    · exact sp_ok hL (by rw [chk_t c0, chk_t c1]; rfl) (m_tune l D cI cZ cJ b ν s v hs hv (by omega)) (congrFun h.1.1.2.1 s) rfl (Rel_tune h c1) trivial
    · exact sp_2 hL (by rw [chk_t c0, chk_f c1]; rfl) (by decide) (m_tune_x l D cI cZ cJ b ν s v hs hv 2 (by omega)) rfl (Rel_same h (Same_0 ν _)) trivial
  · exact sp_1 hL (by rw [chk_f c0]; rfl) (by decide) (m_tune_x l D cI cZ cJ b ν s v hs hv 1 (by omega)) rfl (Rel_same h (Same_0 ν _)) trivial

set_option maxHeartbeats 4000000 in
set_option maxRecDepth 100000 in
theorem s_setStep (l : Launch) (hfl : l.stackTraces = false) (D : va_G) (cI cZ cJ : ClassId) (a b : Nat → Nat) (o : Nat) (f : Nat → Int64) (μ ν : Nat → Int → Int) (p t s x : Int) (hp : -2147483648 ≤ p ∧ p < 2147483648) (ht : -2147483648 ≤ t ∧ t < 2147483648) (hs : -2147483648 ≤ s ∧ s < 2147483648) (hx : -2147483648 ≤ x ∧ x < 2147483648) (h : Rel μ ν) : SP l D cI cZ cJ a b o f μ ν yL_setStep wsL_setStep rmL_setStep [.ref (a 0), .int (iI p), .int (iI t), .int (iI s), .int (iI x), .ref o] yX7_setStep wsX7_setStep rmX7_setStep [.ref (b 0), .int (iI p), .int (iI t), .int (iI s), .int (iI x)] (fun _ => True) := by
  obtain ⟨q22, b22, qL, q23, h23⟩ := h.2.2.2.1
  have h21 : ν 21 0 = 0 ∨ ν 21 0 = 1 := by omega
  have hL := l_setStep l hfl D cI cZ cJ a μ o f p t s x hp ht hs hx h23
  by_cases c0 : 0 ≤ p ∧ p ≤ 11
  · by_cases c1 : 0 ≤ t ∧ t ≤ 3
    · by_cases c2 : 0 ≤ s ∧ s ≤ 15
      · by_cases c3 : -1 ≤ x ∧ x ≤ 7
        · by_cases c4 : μ 23 0 = 0
          · exact sp_ok hL (by rw [chk_t c0, chk_t c1, chk_t c2, chk_t c3, chk_t c4]; rfl) (m_setStep l D cI cZ cJ b ν p t s x hp ht hs hx h21 (by omega)) (congrFun h.1.1.2.2.1 _) rfl (Rel_setStep h c4 c3) trivial
          · exact sp_3 hL (by rw [chk_t c0, chk_t c1, chk_t c2, chk_t c3, chk_f c4]; rfl) (by decide) (m_setStep_x l D cI cZ cJ b ν p t s x hp ht hs hx h21 2 (by omega)) rfl (Rel_same h (Same_0 ν _)) trivial
        · exact sp_1 hL (by rw [chk_t c0, chk_t c1, chk_t c2, chk_f c3]; rfl) (by decide) (m_setStep_x l D cI cZ cJ b ν p t s x hp ht hs hx h21 1 (by omega)) rfl (Rel_same h (Same_0 ν _)) trivial
      · exact sp_1 hL (by rw [chk_t c0, chk_t c1, chk_f c2]; rfl) (by decide) (m_setStep_x l D cI cZ cJ b ν p t s x hp ht hs hx h21 1 (by omega)) rfl (Rel_same h (Same_0 ν _)) trivial
    · exact sp_1 hL (by rw [chk_t c0, chk_f c1]; rfl) (by decide) (m_setStep_x l D cI cZ cJ b ν p t s x hp ht hs hx h21 1 (by omega)) rfl (Rel_same h (Same_0 ν _)) trivial
  · exact sp_1 hL (by rw [chk_f c0]; rfl) (by decide) (m_setStep_x l D cI cZ cJ b ν p t s x hp ht hs hx h21 1 (by omega)) rfl (Rel_same h (Same_0 ν _)) trivial

set_option maxHeartbeats 4000000 in
set_option maxRecDepth 100000 in
theorem s_setFill (l : Launch) (hfl : l.stackTraces = false) (D : va_G) (cI cZ cJ : ClassId) (a b : Nat → Nat) (o : Nat) (f : Nat → Int64) (μ ν : Nat → Int → Int) (p t s x : Int) (hp : -2147483648 ≤ p ∧ p < 2147483648) (ht : -2147483648 ≤ t ∧ t < 2147483648) (hs : -2147483648 ≤ s ∧ s < 2147483648) (hx : -2147483648 ≤ x ∧ x < 2147483648) (h : Rel μ ν) : SP l D cI cZ cJ a b o f μ ν yL_setFill wsL_setFill rmL_setFill [.ref (a 0), .int (iI p), .int (iI t), .int (iI s), .int (iI x), .ref o] yX7_setFill wsX7_setFill rmX7_setFill [.ref (b 0), .int (iI p), .int (iI t), .int (iI s), .int (iI x)] (fun _ => True) := by
  obtain ⟨q22, b22, qL, q23, h23⟩ := h.2.2.2.1
  have h21 : ν 21 0 = 0 ∨ ν 21 0 = 1 := by omega
  have hL := l_setFill l hfl D cI cZ cJ a μ o f p t s x hp ht hs hx h23
  by_cases c0 : 0 ≤ p ∧ p ≤ 11
  · by_cases c1 : 0 ≤ t ∧ t ≤ 3
    · by_cases c2 : 12 ≤ s ∧ s ≤ 15
      · by_cases c3 : -1 ≤ x ∧ x ≤ 7
        · by_cases c4 : μ 23 0 = 0
          · exact sp_ok hL (by rw [chk_t c0, chk_t c1, chk_t c2, chk_t c3, chk_t c4]; rfl) (m_setFill l D cI cZ cJ b ν p t s x hp ht hs hx h21 (by omega)) (congrFun h.1.1.2.2.2.1 _) rfl (Rel_setFill h c4 c3) trivial
          · exact sp_3 hL (by rw [chk_t c0, chk_t c1, chk_t c2, chk_t c3, chk_f c4]; rfl) (by decide) (m_setFill_x l D cI cZ cJ b ν p t s x hp ht hs hx h21 2 (by omega)) rfl (Rel_same h (Same_0 ν _)) trivial
        · exact sp_1 hL (by rw [chk_t c0, chk_t c1, chk_t c2, chk_f c3]; rfl) (by decide) (m_setFill_x l D cI cZ cJ b ν p t s x hp ht hs hx h21 1 (by omega)) rfl (Rel_same h (Same_0 ν _)) trivial
      · exact sp_1 hL (by rw [chk_t c0, chk_t c1, chk_f c2]; rfl) (by decide) (m_setFill_x l D cI cZ cJ b ν p t s x hp ht hs hx h21 1 (by omega)) rfl (Rel_same h (Same_0 ν _)) trivial
    · exact sp_1 hL (by rw [chk_t c0, chk_f c1]; rfl) (by decide) (m_setFill_x l D cI cZ cJ b ν p t s x hp ht hs hx h21 1 (by omega)) rfl (Rel_same h (Same_0 ν _)) trivial
  · exact sp_1 hL (by rw [chk_f c0]; rfl) (by decide) (m_setFill_x l D cI cZ cJ b ν p t s x hp ht hs hx h21 1 (by omega)) rfl (Rel_same h (Same_0 ν _)) trivial

set_option maxHeartbeats 4000000 in
set_option maxRecDepth 100000 in
theorem s_setFeel (l : Launch) (hfl : l.stackTraces = false) (D : va_G) (cI cZ cJ : ClassId) (a b : Nat → Nat) (o : Nat) (f : Nat → Int64) (μ ν : Nat → Int → Int) (p x u : Int) (hp : -2147483648 ≤ p ∧ p < 2147483648) (hx : -2147483648 ≤ x ∧ x < 2147483648) (hu : -2147483648 ≤ u ∧ u < 2147483648) (h : Rel μ ν) : SP l D cI cZ cJ a b o f μ ν yL_setFeel wsL_setFeel rmL_setFeel [.ref (a 0), .int (iI p), .int (iI x), .int (iI u), .ref o] yX7_setFeel wsX7_setFeel rmX7_setFeel [.ref (b 0), .int (iI p), .int (iI x), .int (iI u)] (fun _ => True) := by
  obtain ⟨q22, b22, qL, q23, h23⟩ := h.2.2.2.1
  have h21 : ν 21 0 = 0 ∨ ν 21 0 = 1 := by omega
  have hL := l_setFeel l hfl D cI cZ cJ a μ o f p x u hp hx hu h23
  by_cases c0 : 0 ≤ p ∧ p ≤ 11
  · by_cases c1 : 0 ≤ x ∧ x ≤ 6
    · by_cases c2 : u = 0 ∨ 2 ≤ u ∧ u ≤ 8
      · by_cases c3 : μ 23 0 = 0
        · exact sp_ok hL (by rw [chk_t c0, chk_t c1, chk_t c2, chk_t c3]; rfl) (m_setFeel l D cI cZ cJ b ν p x u hp hx hu h21 (by omega)) (congrFun h.1.1.2.2.2.2.1 p) rfl (Rel_setFeel h c3 c1 (by omega)) trivial
        · exact sp_3 hL (by rw [chk_t c0, chk_t c1, chk_t c2, chk_f c3]; rfl) (by decide) (m_setFeel_x l D cI cZ cJ b ν p x u hp hx hu h21 3 (by omega)) rfl (Rel_same h (Same_0 ν _)) trivial
      · exact sp_2 hL (by rw [chk_t c0, chk_t c1, chk_f c2]; rfl) (by decide) (m_setFeel_x l D cI cZ cJ b ν p x u hp hx hu h21 2 (by omega)) rfl (Rel_same h (Same_0 ν _)) trivial
    · exact sp_2 hL (by rw [chk_t c0, chk_f c1]; rfl) (by decide) (m_setFeel_x l D cI cZ cJ b ν p x u hp hx hu h21 2 (by omega)) rfl (Rel_same h (Same_0 ν _)) trivial
  · exact sp_1 hL (by rw [chk_f c0]; rfl) (by decide) (m_setFeel_x l D cI cZ cJ b ν p x u hp hx hu h21 1 (by omega)) rfl (Rel_same h (Same_0 ν _)) trivial

set_option maxHeartbeats 4000000 in
set_option maxRecDepth 100000 in
theorem s_freeze (l : Launch) (hfl : l.stackTraces = false) (D : va_G) (cI cZ cJ : ClassId) (a b : Nat → Nat) (o : Nat) (f : Nat → Int64) (μ ν : Nat → Int → Int) (p x : Int) (hp : -2147483648 ≤ p ∧ p < 2147483648) (hx : -2147483648 ≤ x ∧ x < 2147483648) (hx1 : 0 ≤ x ∧ x ≤ 1) (h : Rel μ ν) : SP l D cI cZ cJ a b o f μ ν yL_freeze wsL_freeze rmL_freeze [.ref (a 0), .int (iI p), .int (iI x), .ref o] yX7_freeze wsX7_freeze rmX7_freeze [.ref (b 0), .int (iI p), .int (iI x)] (fun z => 0 ≤ z ∧ z ≤ 1) := by
  obtain ⟨q22, b22, qL, q23, h23⟩ := h.2.2.2.1
  have h21 : ν 21 0 = 0 ∨ ν 21 0 = 1 := by omega
  have hL := l_freeze l hfl D cI cZ cJ a μ o f p x hp hx h.2.1.1 hx1
  by_cases c0 : 0 ≤ p ∧ p ≤ 11
  · exact sp_ok hL (by rw [chk_t c0]) (m_freeze l D cI cZ cJ b ν p x hp hx1 (Rel_IP h) (by omega)) (congrFun h.1.2.1 p) rfl (Rel_freeze h hx1) ((Rel_IP h).2.2.2.2.1 p)
  · exact sp_1 hL (by rw [chk_f c0]) (by decide) (m_freeze_x l D cI cZ cJ b ν p x hp hx1 (Rel_IP h) 1 (by omega)) rfl (Rel_same h (Same_0 ν _)) (by decide)

set_option maxHeartbeats 4000000 in
set_option maxRecDepth 100000 in
theorem s_addEntry (l : Launch) (hfl : l.stackTraces = false) (D : va_G) (cI cZ cJ : ClassId) (a b : Nat → Nat) (o : Nat) (f : Nat → Int64) (μ ν : Nat → Int → Int) (s p r : Int) (hs : -2147483648 ≤ s ∧ s < 2147483648) (hp : -2147483648 ≤ p ∧ p < 2147483648) (hr : -2147483648 ≤ r ∧ r < 2147483648) (h : Rel μ ν) : SP l D cI cZ cJ a b o f μ ν yL_addEntry wsL_addEntry rmL_addEntry [.ref (a 0), .int (iI s), .int (iI p), .int (iI r), .ref o] yX7_addEntry wsX7_addEntry rmX7_addEntry [.ref (b 0), .int (iI s), .int (iI p), .int (iI r)] (fun _ => True) := by
  obtain ⟨q22, b22, qL, q23, h23⟩ := h.2.2.2.1
  have h21 : ν 21 0 = 0 ∨ ν 21 0 = 1 := by omega
  obtain ⟨h8, h9⟩ := Rel_h9 h
  have e8 : μ 8 s = ν 9 s := congrFun h.1.2.2.2.1 s
  have b8 := h8 s
  have hL := l_addEntry l hfl D cI cZ cJ a μ o f s p r hs hp hr h23 h8 (fun hc => SDs_ap (h.2.2.1 s hc.1.1 hc.1.2).1 hc.2.2.2 hc.2.1 hc.2.2.1 ((h.2.2.1 s hc.1.1 hc.1.2).2.2.1 _ (Int.le_refl _) hc.2.2.2))
  by_cases c0 : 0 ≤ s ∧ s ≤ 5
  · by_cases c1 : 0 ≤ p ∧ p ≤ 11
    · by_cases c2 : 1 ≤ r ∧ r ≤ 4
      · by_cases c3 : μ 23 0 = 0
        · by_cases c4 : μ 8 s < 8
          · exact sp_ok hL (by rw [chk_t c0, chk_t c1, chk_t c2, chk_t c3, chk_t c4]; rfl) (m_addEntry l D cI cZ cJ b ν s p r hs hp hr h21 h9 (by omega)) (e8) rfl (Rel_addEntry h c3 ⟨c0.1, by omega⟩ c4 ⟨c1.1, by omega⟩ c2) trivial
          · exact sp_3 hL (by rw [chk_t c0, chk_t c1, chk_t c2, chk_t c3, chk_f c4]; rfl) (by decide) (m_addEntry_x l D cI cZ cJ b ν s p r hs hp hr h21 h9 3 (by omega)) rfl (Rel_same h (Same_0 ν _)) trivial
        · exact sp_3 hL (by rw [chk_t c0, chk_t c1, chk_t c2, chk_f c3]; rfl) (by decide) (m_addEntry_x l D cI cZ cJ b ν s p r hs hp hr h21 h9 3 (by omega)) rfl (Rel_same h (Same_0 ν _)) trivial
      · exact sp_2 hL (by rw [chk_t c0, chk_t c1, chk_f c2]; rfl) (by decide) (m_addEntry_x l D cI cZ cJ b ν s p r hs hp hr h21 h9 2 (by omega)) rfl (Rel_same h (Same_0 ν _)) trivial
    · exact sp_1 hL (by rw [chk_t c0, chk_f c1]; rfl) (by decide) (m_addEntry_x l D cI cZ cJ b ν s p r hs hp hr h21 h9 1 (by omega)) rfl (Rel_same h (Same_0 ν _)) trivial
  · exact sp_1 hL (by rw [chk_f c0]; rfl) (by decide) (m_addEntry_x l D cI cZ cJ b ν s p r hs hp hr h21 h9 1 (by omega)) rfl (Rel_same h (Same_0 ν _)) trivial

set_option maxHeartbeats 4000000 in
set_option maxRecDepth 100000 in
theorem s_jump (l : Launch) (hfl : l.stackTraces = false) (D : va_G) (cI cZ cJ : ClassId) (a b : Nat → Nat) (o : Nat) (f : Nat → Int64) (μ ν : Nat → Int → Int) (s e g t : Int) (hs : -2147483648 ≤ s ∧ s < 2147483648) (he : -2147483648 ≤ e ∧ e < 2147483648) (hg : -2147483648 ≤ g ∧ g < 2147483648) (ht : -2147483648 ≤ t ∧ t < 2147483648) (h : Rel μ ν) : SP l D cI cZ cJ a b o f μ ν yL_jump wsL_jump rmL_jump [.ref (a 0), .int (iI s), .int (iI e), .int (iI g), .int (iI t), .ref o] yX7_jump wsX7_jump rmX7_jump [.ref (b 0), .int (iI s), .int (iI e), .int (iI g), .int (iI t)] (fun _ => True) := by
  obtain ⟨q22, b22, qL, q23, h23⟩ := h.2.2.2.1
  have h21 : ν 21 0 = 0 ∨ ν 21 0 = 1 := by omega
  obtain ⟨h8, h9⟩ := Rel_h9 h
  have e8 : μ 8 s = ν 9 s := congrFun h.1.2.2.2.1 s
  have hL := l_jump l hfl D cI cZ cJ a μ o f s e g t hs he hg ht h23 h8 (fun hc => SDs_ju (h.2.2.1 s hc.1.1 hc.1.2).1 hc.2.2.1 hc.2.2.2)
  by_cases c0 : 0 ≤ s ∧ s ≤ 5
  · by_cases c1 : 0 ≤ e ∧ e ≤ μ 8 s - 1
    · by_cases c2 : 0 ≤ g ∧ g ≤ μ 8 s - 1
      · by_cases c3 : 0 ≤ t ∧ t ≤ 3
        · by_cases c4 : μ 23 0 = 0
          · exact sp_ok hL (by rw [chk_t c0, chk_t c1, chk_t c2, chk_t c3, chk_t c4]; rfl) (m_jump l D cI cZ cJ b ν s e g t hs he hg ht h21 h9 (Rel_IP h) (Rel_SD (Rel_jump h c4 ⟨c0.1, by omega⟩ ⟨c1.1, by omega⟩ ⟨c2.1, by omega⟩ c3) ⟨c0.1, by omega⟩) (by omega)) (Rel_jlB h c4 ⟨c0.1, by omega⟩ ⟨c1.1, by omega⟩ ⟨c2.1, by omega⟩ c3) rfl (Rel_same (Rel_jump h c4 ⟨c0.1, by omega⟩ ⟨c1.1, by omega⟩ ⟨c2.1, by omega⟩ c3) (Same_ly _ s)) trivial
          · exact sp_3 hL (by rw [chk_t c0, chk_t c1, chk_t c2, chk_t c3, chk_f c4]; rfl) (by decide) (m_jump_x l D cI cZ cJ b ν s e g t hs he hg ht h21 h9 3 (by omega)) rfl (Rel_same h (Same_0 ν _)) trivial
        · exact sp_2 hL (by rw [chk_t c0, chk_t c1, chk_t c2, chk_f c3]; rfl) (by decide) (m_jump_x l D cI cZ cJ b ν s e g t hs he hg ht h21 h9 2 (by omega)) rfl (Rel_same h (Same_0 ν _)) trivial
      · exact sp_1 hL (by rw [chk_t c0, chk_t c1, chk_f c2]; rfl) (by decide) (m_jump_x l D cI cZ cJ b ν s e g t hs he hg ht h21 h9 1 (by omega)) rfl (Rel_same h (Same_0 ν _)) trivial
    · exact sp_1 hL (by rw [chk_t c0, chk_f c1]; rfl) (by decide) (m_jump_x l D cI cZ cJ b ν s e g t hs he hg ht h21 h9 1 (by omega)) rfl (Rel_same h (Same_0 ν _)) trivial
  · exact sp_1 hL (by rw [chk_f c0]; rfl) (by decide) (m_jump_x l D cI cZ cJ b ν s e g t hs he hg ht h21 h9 1 (by omega)) rfl (Rel_same h (Same_0 ν _)) trivial

set_option maxHeartbeats 4000000 in
set_option maxRecDepth 100000 in
theorem s_bars (l : Launch) (hfl : l.stackTraces = false) (D : va_G) (cI cZ cJ : ClassId) (a b : Nat → Nat) (o : Nat) (f : Nat → Int64) (μ ν : Nat → Int → Int) (s : Int) (hs : -2147483648 ≤ s ∧ s < 2147483648) (h : Rel μ ν) : SP l D cI cZ cJ a b o f μ ν yL_bars wsL_bars rmL_bars [.ref (a 0), .int (iI s), .ref o] yX7_bars wsX7_bars rmX7_bars [.ref (b 0), .int (iI s)] (fun _ => True) := by
  obtain ⟨q22, b22, qL, q23, h23⟩ := h.2.2.2.1
  have h21 : ν 21 0 = 0 ∨ ν 21 0 = 1 := by omega
  have hL := l_bars l hfl D cI cZ cJ a μ o f s hs 
  by_cases c0 : 0 ≤ s ∧ s ≤ 5
  · exact sp_ok hL (by rw [chk_t c0]) (m_bars l D cI cZ cJ b ν s hs (Rel_IP h) (Rel_SD h ⟨c0.1, by omega⟩) (by omega)) (Rel_lB h ⟨c0.1, by omega⟩) rfl (Rel_same (Rel_same h (Same_0 ν _)) (Same_ly (r0 ν) s)) trivial
  · exact sp_1 hL (by rw [chk_f c0]) (by decide) (m_bars_x l D cI cZ cJ b ν s hs 1 (by omega)) rfl (Rel_same h (Same_0 ν _)) trivial

set_option maxHeartbeats 4000000 in
set_option maxRecDepth 100000 in
theorem s_barAt (l : Launch) (hfl : l.stackTraces = false) (D : va_G) (cI cZ cJ : ClassId) (a b : Nat → Nat) (o : Nat) (f : Nat → Int64) (μ ν : Nat → Int → Int) (s b1 : Int) (hs : -2147483648 ≤ s ∧ s < 2147483648) (hb1 : -2147483648 ≤ b1 ∧ b1 < 2147483648) (h : Rel μ ν) : SP l D cI cZ cJ a b o f μ ν yL_barAt wsL_barAt rmL_barAt [.ref (a 0), .int (iI s), .int (iI b1), .ref o] yX7_barAt wsX7_barAt rmX7_barAt [.ref (b 0), .int (iI s), .int (iI b1)] (fun _ => True) := by
  obtain ⟨q22, b22, qL, q23, h23⟩ := h.2.2.2.1
  have h21 : ν 21 0 = 0 ∨ ν 21 0 = 1 := by omega
  have hL := l_barAt l hfl D cI cZ cJ a μ o f s b1 hs hb1 h.2.1.1 (Rel_IH h) (Rel_IB h)
  by_cases c0 : 0 ≤ s ∧ s ≤ 5
  · by_cases c1 : 0 ≤ b1 ∧ b1 ≤ μ 13 s - 1
    · exact sp_ok hL (by rw [chk_t c0, chk_t c1]; rfl) (m_barAt l D cI cZ cJ b ν s b1 hs hb1 (Rel_IP h) (Rel_SD h ⟨c0.1, by omega⟩) ⟨c0, by rw [← Rel_lB h ⟨c0.1, by omega⟩]; exact c1⟩) (Rel_barAt h ⟨c0.1, by omega⟩ ⟨c1.1, by omega⟩) rfl (Rel_same (Rel_same h (Same_0 ν _)) (Same_ly (r0 ν) s)) trivial
    · exact sp_1 hL (by rw [chk_t c0, chk_f c1]; rfl) (by decide) (m_barAt_y l D cI cZ cJ b ν s b1 hs hb1 (Rel_IP h) (Rel_SD h ⟨c0.1, by omega⟩) ⟨c0, by rw [← Rel_lB h ⟨c0.1, by omega⟩]; exact c1⟩) rfl (Rel_same (Rel_same (Rel_same h (Same_0 ν _)) (Same_ly (r0 ν) s)) (Same_0 _ _)) trivial
  · exact sp_1 hL (by rw [chk_f c0]; rfl) (by decide) (m_barAt_x l D cI cZ cJ b ν s b1 hs hb1 1 (by omega)) rfl (Rel_same h (Same_0 ν _)) trivial

set_option maxHeartbeats 4000000 in
set_option maxRecDepth 100000 in
theorem s_beats (l : Launch) (hfl : l.stackTraces = false) (D : va_G) (cI cZ cJ : ClassId) (a b : Nat → Nat) (o : Nat) (f : Nat → Int64) (μ ν : Nat → Int → Int) (s : Int) (hs : -2147483648 ≤ s ∧ s < 2147483648) (h : Rel μ ν) : SP l D cI cZ cJ a b o f μ ν yL_beats wsL_beats rmL_beats [.ref (a 0), .int (iI s), .ref o] yX7_beats wsX7_beats rmX7_beats [.ref (b 0), .int (iI s)] (fun _ => True) := by
  obtain ⟨q22, b22, qL, q23, h23⟩ := h.2.2.2.1
  have h21 : ν 21 0 = 0 ∨ ν 21 0 = 1 := by omega
  have hL := l_beats l hfl D cI cZ cJ a μ o f s hs h.2.1.1 (Rel_IH h) (Rel_IB h)
  by_cases c0 : 0 ≤ s ∧ s ≤ 5
  · exact sp_ok hL (by rw [chk_t c0]) (m_beats l D cI cZ cJ b ν s hs (Rel_IP h) (Rel_SD h ⟨c0.1, by omega⟩) (by omega)) (Rel_beats h ⟨c0.1, by omega⟩) rfl (Rel_same (Rel_same h (Same_0 ν _)) (Same_ly (r0 ν) s)) trivial
  · exact sp_1 hL (by rw [chk_f c0]) (by decide) (m_beats_x l D cI cZ cJ b ν s hs 1 (by omega)) rfl (Rel_same h (Same_0 ν _)) trivial

set_option maxHeartbeats 4000000 in
set_option maxRecDepth 100000 in
theorem s_beatsByTicks (l : Launch) (hfl : l.stackTraces = false) (D : va_G) (cI cZ cJ : ClassId) (a b : Nat → Nat) (o : Nat) (f : Nat → Int64) (μ ν : Nat → Int → Int) (s : Int) (hs : -2147483648 ≤ s ∧ s < 2147483648) (h : Rel μ ν) : SP l D cI cZ cJ a b o f μ ν yL_beatsByTicks wsL_beatsByTicks rmL_beatsByTicks [.ref (a 0), .int (iI s), .ref o] yX7_beatsByTicks wsX7_beatsByTicks rmX7_beatsByTicks [.ref (b 0), .int (iI s)] (fun _ => True) := by
  obtain ⟨q22, b22, qL, q23, h23⟩ := h.2.2.2.1
  have h21 : ν 21 0 = 0 ∨ ν 21 0 = 1 := by omega
  have hL := l_beatsByTicks l hfl D cI cZ cJ a μ o f s hs h.2.1.1 (Rel_IH h) (Rel_IB h)
  by_cases c0 : 0 ≤ s ∧ s ≤ 5
  · exact sp_ok hL (by rw [chk_t c0]) (m_beatsByTicks l D cI cZ cJ b ν s hs (Rel_IP h) (Rel_SD h ⟨c0.1, by omega⟩) (by omega)) (Rel_beatsT h ⟨c0.1, by omega⟩) rfl (Rel_same (Rel_same h (Same_0 ν _)) (Same_ly (r0 ν) s)) trivial
  · exact sp_1 hL (by rw [chk_f c0]) (by decide) (m_beatsByTicks_x l D cI cZ cJ b ν s hs 1 (by omega)) rfl (Rel_same h (Same_0 ν _)) trivial

set_option maxHeartbeats 4000000 in
set_option maxRecDepth 100000 in
theorem s_addToSet (l : Launch) (hfl : l.stackTraces = false) (D : va_G) (cI cZ cJ : ClassId) (a b : Nat → Nat) (o : Nat) (f : Nat → Int64) (μ ν : Nat → Int → Int) (s : Int) (hs : -2147483648 ≤ s ∧ s < 2147483648) (h : Rel μ ν) : SP l D cI cZ cJ a b o f μ ν yL_addToSet wsL_addToSet rmL_addToSet [.ref (a 0), .int (iI s), .ref o] yX7_addToSet wsX7_addToSet rmX7_addToSet [.ref (b 0), .int (iI s)] (fun _ => True) := by
  obtain ⟨q22, b22, qL, q23, h23⟩ := h.2.2.2.1
  have h21 : ν 21 0 = 0 ∨ ν 21 0 = 1 := by omega
  have hL := l_addToSet l hfl D cI cZ cJ a μ o f s hs h23 b22
  by_cases c0 : 0 ≤ s ∧ s ≤ 5
  · by_cases c1 : μ 23 0 = 0
    · by_cases c2 : μ 22 0 < 8
      · exact sp_ok hL (by rw [chk_t c0, chk_t c1, chk_t c2]; rfl) (m_addToSet l D cI cZ cJ b ν s hs h21 (by omega) (by omega)) (by omega) rfl (Rel_addToSet h c1 ⟨c0.1, by omega⟩ c2) trivial
      · exact sp_3 hL (by rw [chk_t c0, chk_t c1, chk_f c2]; rfl) (by decide) (m_addToSet_x l D cI cZ cJ b ν s hs h21 (by omega) 2 (by omega)) rfl (Rel_same h (Same_0 ν _)) trivial
    · exact sp_3 hL (by rw [chk_t c0, chk_f c1]; rfl) (by decide) (m_addToSet_x l D cI cZ cJ b ν s hs h21 (by omega) 2 (by omega)) rfl (Rel_same h (Same_0 ν _)) trivial
  · exact sp_1 hL (by rw [chk_f c0]; rfl) (by decide) (m_addToSet_x l D cI cZ cJ b ν s hs h21 (by omega) 1 (by omega)) rfl (Rel_same h (Same_0 ν _)) trivial

set_option maxHeartbeats 4000000 in
set_option maxRecDepth 100000 in
theorem s_clearSet (l : Launch) (hfl : l.stackTraces = false) (D : va_G) (cI cZ cJ : ClassId) (a b : Nat → Nat) (o : Nat) (f : Nat → Int64) (μ ν : Nat → Int → Int)  (h : Rel μ ν) : SP l D cI cZ cJ a b o f μ ν yL_clearSet wsL_clearSet rmL_clearSet [.ref (a 0), .ref o] yX7_clearSet wsX7_clearSet rmX7_clearSet [.ref (b 0)] (fun _ => True) := by
  obtain ⟨q22, b22, qL, q23, h23⟩ := h.2.2.2.1
  have h21 : ν 21 0 = 0 ∨ ν 21 0 = 1 := by omega
  have hL := l_clearSet l hfl D cI cZ cJ a μ o f   h23
  by_cases c0 : μ 23 0 = 0
  · exact sp_ok hL (by rw [chk_t c0]) (m_clearSet l D cI cZ cJ b ν   h21 (by omega)) (q22) rfl (Rel_clearSet h c0) trivial
  · exact sp_3 hL (by rw [chk_f c0]) (by decide) (m_clearSet_x l D cI cZ cJ b ν   h21 1 (by omega)) rfl (Rel_same h (Same_0 ν _)) trivial

set_option maxHeartbeats 4000000 in
set_option maxRecDepth 100000 in
theorem s_start (l : Launch) (hfl : l.stackTraces = false) (D : va_G) (cI cZ cJ : ClassId) (a b : Nat → Nat) (o : Nat) (f : Nat → Int64) (μ ν : Nat → Int → Int)  (h : Rel μ ν) : SP l D cI cZ cJ a b o f μ ν yL_start wsL_start rmL_start [.ref (a 0), .ref o] yX7_start wsX7_start rmX7_start [.ref (b 0)] (fun _ => True) := by
  obtain ⟨q22, b22, qL, q23, h23⟩ := h.2.2.2.1
  have h21 : ν 21 0 = 0 ∨ ν 21 0 = 1 := by omega
  have hL := l_start l hfl D cI cZ cJ a μ o f   h23 h.2.1.1 (Rel_IH h) (Rel_IB h) (fun hc => (Rel_start h hc).2)
  by_cases c0 : μ 23 0 = 0
  · by_cases c1 : 0 < μ 22 0 ∧ ∀ i, 0 ≤ i → i < μ 22 0 → μ 13 (μ 18 i) ≠ 0
    · exact sp_ok hL (by rw [chk_t c0, chk_t c1]; rfl) (m_start l D cI cZ cJ b ν   (Rel_IP h) (fun s h1 h2 => Rel_SD h ⟨h1, h2⟩) h21 (by omega) (fun j h1 h2 => by have := qL j h1 (by omega); omega) ((Rel_can h).mp ⟨c0, c1⟩)) (Rel_fs h) rfl ((Rel_start h c1).1) trivial
    · exact sp_3 hL (by rw [chk_t c0, chk_f c1]; rfl) (by decide) (m_start_x l D cI cZ cJ b ν (Rel_IP h) (fun s h1 h2 => Rel_SD h ⟨h1, h2⟩) h21 (by omega) (fun j h1 h2 => by have := qL j h1 (by omega); omega) (fun hc => c1 ((Rel_can h).mpr hc).2)) rfl (Rel_same h (Same_0 ν _)) trivial
  · exact sp_3 hL (by rw [chk_f c0]; rfl) (by decide) (m_start_x l D cI cZ cJ b ν (Rel_IP h) (fun s h1 h2 => Rel_SD h ⟨h1, h2⟩) h21 (by omega) (fun j h1 h2 => by have := qL j h1 (by omega); omega) (fun hc => c0 ((Rel_can h).mpr hc).1)) rfl (Rel_same h (Same_0 ν _)) trivial

set_option maxHeartbeats 4000000 in
set_option maxRecDepth 100000 in
theorem s_tick (l : Launch) (hfl : l.stackTraces = false) (D : va_G) (cI cZ cJ : ClassId) (a b : Nat → Nat) (o : Nat) (f : Nat → Int64) (μ ν : Nat → Int → Int) (n : Int) (hn : -2147483648 ≤ n ∧ n < 2147483648) (h : Rel μ ν) : SP l D cI cZ cJ a b o f μ ν yL_tick wsL_tick rmL_tick [.ref (a 0), .int (iI n), .ref o] yX7_tick wsX7_tick rmX7_tick [.ref (b 0), .int (iI n)] (fun _ => True) := by
  obtain ⟨q22, b22, qL, q23, h23⟩ := h.2.2.2.1
  have h21 : ν 21 0 = 0 ∨ ν 21 0 = 1 := by omega
  have hL := l_tick l hfl D cI cZ cJ a μ o f n hn IC ⟨ν, h⟩ IC_s
  by_cases c0 : 1 ≤ n ∧ n ≤ 2000
  · by_cases c1 : μ 23 0 = 1
    · exact sp_ok hL (by rw [chk_t c0, chk_t c1]; rfl) (m_tick l D cI cZ cJ b ν n hn IM ⟨μ, Rel_same h (Same_0 ν _)⟩ IM_s (by omega)) (by have h4 := (Rel_tick h (n := n) (by omega)).2.2.2.2.1.2.1.1; have h5 := h.2.2.2.2.1.2.1.1; omega) (tkM_0 ν (by omega)) (Rel_tick h (by omega)) trivial
    · exact sp_3 hL (by rw [chk_t c0, chk_f c1]; rfl) (by decide) (m_tick_x l D cI cZ cJ b ν n hn h21 2 (by omega)) rfl (Rel_same h (Same_0 ν _)) trivial
  · exact sp_2 hL (by rw [chk_f c0]; rfl) (by decide) (m_tick_x l D cI cZ cJ b ν n hn h21 1 (by omega)) rfl (Rel_same h (Same_0 ν _)) trivial

set_option maxHeartbeats 4000000 in
set_option maxRecDepth 100000 in
theorem s_skip (l : Launch) (hfl : l.stackTraces = false) (D : va_G) (cI cZ cJ : ClassId) (a b : Nat → Nat) (o : Nat) (f : Nat → Int64) (μ ν : Nat → Int → Int)  (h : Rel μ ν) : SP l D cI cZ cJ a b o f μ ν yL_skip wsL_skip rmL_skip [.ref (a 0), .ref o] yX7_skip wsX7_skip rmX7_skip [.ref (b 0)] (fun _ => True) := by
  obtain ⟨q22, b22, qL, q23, h23⟩ := h.2.2.2.1
  have h21 : ν 21 0 = 0 ∨ ν 21 0 = 1 := by omega
  have hb : μ 23 0 = 1 → 0 ≤ μ 24 0 ∧ μ 24 0 < μ 22 0 := fun hp => (h.2.2.2.2.2 hp).1.1
  have e24 : μ 23 0 = 1 → ν 22 0 = μ 24 0 := fun hp => (h.2.2.2.2.2 hp).1.2.2.1
  have hL := l_skip l hfl D cI cZ cJ a μ o f   h23 h.2.1.1 (Rel_IH h) (Rel_IB h) hb (fun hp hq => sk_bd h hp hq)
  by_cases c0 : μ 23 0 = 1
  · exact sp_ok hL (by rw [chk_t c0]) (m_skip l D cI cZ cJ b ν   (by have := hb c0; have := e24 c0; omega) (by omega) (by omega)) (by rw [e24 c0, q22]) rfl (Rel_skip h c0) trivial
  · exact sp_3 hL (by rw [chk_f c0]) (by decide) (m_skip_x l D cI cZ cJ b ν (by omega)) rfl (Rel_same h (Same_0 ν _)) trivial

set_option maxHeartbeats 4000000 in
set_option maxRecDepth 100000 in
theorem s_loaded (l : Launch) (hfl : l.stackTraces = false) (D : va_G) (cI cZ cJ : ClassId) (a b : Nat → Nat) (o : Nat) (f : Nat → Int64) (μ ν : Nat → Int → Int) (s : Int) (hs : -2147483648 ≤ s ∧ s < 2147483648) (h : Rel μ ν) : SP l D cI cZ cJ a b o f μ ν yL_loaded wsL_loaded rmL_loaded [.ref (a 0), .int (iI s), .ref o] yX7_loaded wsX7_loaded rmX7_loaded [.ref (b 0), .int (iI s)] (fun _ => True) := by
  obtain ⟨q22, b22, qL, q23, h23⟩ := h.2.2.2.1
  have h21 : ν 21 0 = 0 ∨ ν 21 0 = 1 := by omega
  have hL := l_loaded l hfl D cI cZ cJ a μ o f s hs 
  by_cases c0 : 0 ≤ s ∧ s ≤ 7
  · exact sp_ok hL (by rw [chk_t c0]) (m_loaded l D cI cZ cJ b ν s hs (by omega)) (congrFun h.1.2.2.2.2.2.2 s) rfl (Rel_same h (Same_0 ν _)) trivial
  · exact sp_1 hL (by rw [chk_f c0]) (by decide) (m_loaded_x l D cI cZ cJ b ν s hs 1 (by omega)) rfl (Rel_same h (Same_0 ν _)) trivial

set_option maxHeartbeats 4000000 in
set_option maxRecDepth 100000 in
theorem s_nextUse (l : Launch) (hfl : l.stackTraces = false) (D : va_G) (cI cZ cJ : ClassId) (a b : Nat → Nat) (o : Nat) (f : Nat → Int64) (μ ν : Nat → Int → Int) (s : Int) (hs : -2147483648 ≤ s ∧ s < 2147483648) (h : Rel μ ν) : SP l D cI cZ cJ a b o f μ ν yL_nextUse wsL_nextUse rmL_nextUse [.ref (a 0), .int (iI s), .ref o] yX7_nextUse wsX7_nextUse rmX7_nextUse [.ref (b 0), .int (iI s)] (fun _ => True) := by
  obtain ⟨q22, b22, qL, q23, h23⟩ := h.2.2.2.1
  have h21 : ν 21 0 = 0 ∨ ν 21 0 = 1 := by omega
  have hL := l_nextUse l hfl D cI cZ cJ a μ o f s hs h23 h.2.2.2.2.1.2.2.1 h.2.1.2.2.2
  by_cases c0 : 0 ≤ s ∧ s ≤ 7
  · exact sp_ok hL (by rw [chk_t c0]) (m_nextUse l D cI cZ cJ b ν s hs h21 (fun hp => Rel_NX h (by omega)) (by omega)) (Rel_nextUse h ⟨c0.1, by omega⟩) rfl (Rel_same h (Same_0 ν _)) trivial
  · exact sp_1 hL (by rw [chk_f c0]) (by decide) (m_nextUse_x l D cI cZ cJ b ν s hs 1 (by omega)) rfl (Rel_same h (Same_0 ν _)) trivial
