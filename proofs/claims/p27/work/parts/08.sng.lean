/-! SONGS: a song's bars, laid one by one -/
def sP (μ : Nat → Int → Int) (s : Int) : Int → Int := fun e => μ 9 (s * 8 + e)
def sR (μ : Nat → Int → Int) (s : Int) : Int → Int := fun e => μ 10 (s * 8 + e)
def sG (μ : Nat → Int → Int) (s : Int) : Int → Int := fun e => μ 11 (s * 8 + e)
def sT (μ : Nat → Int → Int) (s : Int) : Int → Int := fun e => μ 12 (s * 8 + e)
/-- what n entries of a song may hold: patterns, repeats, targets, times -/
def SD (n : Int) (P R G T : Int → Int) : Prop := (0 ≤ n ∧ n ≤ 8) ∧ ∀ e, 0 ≤ e → e < n → (0 ≤ P e ∧ P e < 12) ∧ (1 ≤ R e ∧ R e ≤ 4) ∧ (0 ≤ T e ∧ T e ≤ 3) ∧ (0 < T e → 0 ≤ G e ∧ G e < n)
def lvE (T G d : Int → Int) (e : Int) : Int := if T e ≤ d e then e + 1 else G e
def lvD (T d : Int → Int) (e : Int) : Int → Int := if T e ≤ d e then d else iU d e (d e + 1)
/-- one bar more: (entry, repeat, jumps done, turns) -/
def lsF (P R G T : Int → Int) (st : Int × Int × (Int → Int) × (Int → Int)) : Int × Int × (Int → Int) × (Int → Int) :=
  if R st.1 ≤ st.2.1 + 1 then (lvE T G st.2.2.1 st.1, 0, lvD T st.2.2.1 st.1, iU st.2.2.2 (P st.1) (st.2.2.2 (P st.1) + 1))
  else (st.1, st.2.1 + 1, st.2.2.1, iU st.2.2.2 (P st.1) (st.2.2.2 (P st.1) + 1))
noncomputable def lay (P R G T : Int → Int) (k : Int) : Int × Int × (Int → Int) × (Int → Int) := itI (fun _ st => lsF P R G T st) (0, 0, fun _ => 0, fun _ => 0) k
theorem lay_0 (P R G T : Int → Int) : lay P R G T 0 = (0, 0, fun _ => 0, fun _ => 0) := by unfold lay; rw [itI_0]
theorem lay_s (P R G T : Int → Int) {k : Int} (h : 0 ≤ k) : lay P R G T (k + 1) = lsF P R G T (lay P R G T k) := by unfold lay; rw [itI_s _ _ h]
def lsOK (n : Int) (P R G T : Int → Int) (k : Int) : Prop := (0 ≤ (lay P R G T k).1 ∧ (lay P R G T k).1 ≤ n) ∧ (0 ≤ (lay P R G T k).2.1 ∧ (lay P R G T k).2.1 < 4) ∧ (∀ x, 0 ≤ (lay P R G T k).2.2.1 x ∧ (lay P R G T k).2.2.1 x ≤ k) ∧ (∀ x, 0 ≤ (lay P R G T k).2.2.2 x ∧ (lay P R G T k).2.2.2 x ≤ k) ∧ ∀ j, 0 ≤ j → j < k → (lay P R G T j).1 < n
theorem lsOK_0 {n : Int} {P R G T : Int → Int} (hS : SD n P R G T) : lsOK n P R G T 0 := by
  have := hS.1
  unfold lsOK
  rw [lay_0]
  refine ⟨by dsimp only; omega, by dsimp only; omega, fun x => by dsimp only; omega, fun x => by dsimp only; omega, fun j h1 h2 => by omega⟩
theorem lsOK_s {n : Int} {P R G T : Int → Int} (hS : SD n P R G T) {k : Int} (hk : 0 ≤ k) (h : lsOK n P R G T k) (hlt : (lay P R G T k).1 < n) : lsOK n P R G T (k + 1) := by
  obtain ⟨h1, h2, h3, h4, h5⟩ := h
  obtain ⟨q1, q2, q3, q4⟩ := hS.2 _ h1.1 hlt
  have hc : ∀ x, 0 ≤ iU (lay P R G T k).2.2.2 (P (lay P R G T k).1) ((lay P R G T k).2.2.2 (P (lay P R G T k).1) + 1) x ∧ iU (lay P R G T k).2.2.2 (P (lay P R G T k).1) ((lay P R G T k).2.2.2 (P (lay P R G T k).1) + 1) x ≤ k + 1 := by
    intro x
    have a1 := h4 x
    have a2 := h4 (P (lay P R G T k).1)
    unfold iU
    split <;> omega
  have hd : ∀ x, 0 ≤ lvD T (lay P R G T k).2.2.1 (lay P R G T k).1 x ∧ lvD T (lay P R G T k).2.2.1 (lay P R G T k).1 x ≤ k + 1 := by
    intro x
    have a1 := h3 x
    have a2 := h3 (lay P R G T k).1
    unfold lvD
    split
    · omega
    · unfold iU
      split <;> omega
  have he : 0 ≤ lvE T G (lay P R G T k).2.2.1 (lay P R G T k).1 ∧ lvE T G (lay P R G T k).2.2.1 (lay P R G T k).1 ≤ n := by
    have a2 := h3 (lay P R G T k).1
    unfold lvE
    split
    · omega
    · have a3 := q4 (by omega)
      omega
  have h5' : ∀ j, 0 ≤ j → j < k + 1 → (lay P R G T j).1 < n := by
    intro j g1 g2
    by_cases e : j = k
    · rw [e]; exact hlt
    · exact h5 j g1 (by omega)
  unfold lsOK
  rw [lay_s _ _ _ _ hk]
  unfold lsF
  by_cases c : R (lay P R G T k).1 ≤ (lay P R G T k).2.1 + 1
  · rw [if_pos c]
    exact ⟨he, by dsimp only; omega, hd, hc, h5'⟩
  · rw [if_neg c]
    exact ⟨h1, by dsimp only; omega, fun x => by have := h3 x; dsimp only; omega, hc, h5'⟩
/-- how many bars -/
noncomputable def lB (n : Int) (P R G T : Int → Int) : Int := itI (fun i m => if m = i ∧ (lay P R G T i).1 < n then i + 1 else m) 0 64
theorem lB_of {n : Int} {P R G T : Int → Int} {k : Int} (hk : 0 ≤ k ∧ k ≤ 64) (h5 : ∀ j, 0 ≤ j → j < k → (lay P R G T j).1 < n) (hx : k = 64 ∨ n ≤ (lay P R G T k).1) : lB n P R G T = k := by
  have key : ∀ i : Int, 0 ≤ i → (i ≤ k → itI (fun i m => if m = i ∧ (lay P R G T i).1 < n then i + 1 else m) 0 i = i) ∧ (k ≤ i → i ≤ 64 → itI (fun i m => if m = i ∧ (lay P R G T i).1 < n then i + 1 else m) 0 i = k) := by
    intro i hi
    obtain ⟨m, rfl⟩ := Int.eq_ofNat_of_zero_le hi
    induction m with
    | zero =>
      rw [show ((0 : Nat) : Int) = 0 from rfl, itI_0]
      omega
    | succ m ih =>
      rw [show ((m + 1 : Nat) : Int) = (m : Int) + 1 from rfl, itI_s _ _ (by omega)]
      obtain ⟨a1, a2⟩ := ih (by omega)
      refine ⟨fun h => ?_, fun h h2 => ?_⟩
      · rw [a1 (by omega), if_pos ⟨rfl, h5 m (by omega) (by omega)⟩]
      · by_cases e : k ≤ (m : Int)
        · rw [a2 e (by omega)]
          by_cases c : k = (m : Int) ∧ (lay P R G T m).1 < n
          · rcases hx with q | q
            · omega
            · rw [← c.1] at c; omega
          · rw [if_neg c]
        · rw [a1 (by omega), if_pos ⟨rfl, h5 m (by omega) (by omega)⟩]
          omega
  exact (key 64 (by omega)).2 hk.2 (by omega)
noncomputable def ly (μ : Nat → Int → Int) (s k : Int) : Int × Int × (Int → Int) × (Int → Int) := lay (sP μ s) (sR μ s) (sG μ s) (sT μ s) k
noncomputable def lBs (μ : Nat → Int → Int) (s : Int) : Int := lB (μ 8 s) (sP μ s) (sR μ s) (sG μ s) (sT μ s)
noncomputable def bP (μ : Nat → Int → Int) (s : Int) : Int → Int := fun b => sP μ s (ly μ s b).1
noncomputable def bT (μ : Nat → Int → Int) (s : Int) : Int → Int := fun b => (ly μ s b).2.2.2 (bP μ s b) + 1
def SDs (μ : Nat → Int → Int) (s : Int) : Prop := SD (μ 8 s) (sP μ s) (sR μ s) (sG μ s) (sT μ s)

set_option maxHeartbeats 4000000 in
set_option maxRecDepth 100000 in
/-- Songs.countEntries -/
theorem k_countEntries (l : Launch) (D : va_G) (cI cZ cJ : ClassId) (a : Nat → Nat) (μ : Nat → Int → Int) (s : Int) (hc : (0 ≤ s ∧ s < 6)) : Ci l D (tY cI cZ cJ) yX5_countEntries wsX5_countEntries rmX5_countEntries [.ref (a 2), .int (iI s)] (WSn8 cI a μ) (μ 8 s) (WSn8 cI a μ) := by
  refine qi_of (by decide +kernel) rfl (Nat.le_of_ble_eq_true rfl) ?_
  intro zp ze zs zm zargs zbelow zmeth zc A Q ls M hA w hl kret
  have hl : lv_has ls 2 [(0, .ref (a 2)), (1, .int (iI s))] := hl
  have in5 : ∀ w ∈ u_ws RX5 TX5 11, w ∈ wsX5_countEntries := by decide +kernel
  refine q_aln M dX5_countEntries_0 (lv_at hl 0 rfl) ?_
  refine q_get (v := .ref (a 26)) M w in5 0 1 rfl rfl (by decide) (by decide +kernel) rfl rfl dX5_countEntries_1 ?_
  refine q_iln M dX5_countEntries_4 (lv_at hl 1 rfl) ?_
  refine qc_iV (As := [.int (iI s)]) (rest := []) (wc := WRow cI (a 26) (a 27) 6 (μ 8)) (wc2 := WRow cI (a 26) (a 27) 6 (μ 8)) (ws2 := WSn8 cI a μ) M w hA hl (k_get l D cI cZ cJ _ _ _ _ s (by omega)) gX5_countEntries_X3_get rfl ⟨rfl, rfl, by decide, by decide⟩ ⟨Nat.zero_le _, Nat.zero_le _⟩ 1 ⟨rfl, by decide +kernel⟩ rfl [false, true, true] rfl rfl 1 rfl rfl rfl (Nat.le_of_ble_eq_true rfl) rfl dX5_countEntries_5 (fun H locs w => ?_)
  exact kret _ _ _ _ _ dX5_countEntries_8 w rfl

set_option maxHeartbeats 4000000 in
set_option maxRecDepth 100000 in
/-- Songs.countBars -/
theorem k_countBars (l : Launch) (D : va_G) (cI cZ cJ : ClassId) (a : Nat → Nat) (μ : Nat → Int → Int) (f13 : Int → Int) (s : Int) (hc : (0 ≤ s ∧ s < 6)) : Ci l D (tY cI cZ cJ) yX5_countBars wsX5_countBars rmX5_countBars [.ref (a 2), .int (iI s)] (WSn1 cI a μ f13) (f13 s) (WSn1 cI a μ f13) := by
  refine qi_of (by decide +kernel) rfl (Nat.le_of_ble_eq_true rfl) ?_
  intro zp ze zs zm zargs zbelow zmeth zc A Q ls M hA w hl kret
  have hl : lv_has ls 2 [(0, .ref (a 2)), (1, .int (iI s))] := hl
  have in5 : ∀ w ∈ u_ws RX5 TX5 11, w ∈ wsX5_countBars := by decide +kernel
  refine q_aln M dX5_countBars_0 (lv_at hl 0 rfl) ?_
  refine q_get (v := .ref (a 36)) M w in5 0 6 rfl rfl (by decide) (by decide +kernel) rfl rfl dX5_countBars_1 ?_
  refine q_iln M dX5_countBars_4 (lv_at hl 1 rfl) ?_
  refine qc_iV (As := [.int (iI s)]) (rest := []) (wc := WRow cI (a 36) (a 37) 6 f13) (wc2 := WRow cI (a 36) (a 37) 6 f13) (ws2 := WSn1 cI a μ f13) M w hA hl (k_get l D cI cZ cJ _ _ _ _ s (by omega)) gX5_countBars_X3_get rfl ⟨rfl, rfl, by decide, by decide⟩ ⟨Nat.zero_le _, Nat.zero_le _⟩ 1 ⟨rfl, by decide +kernel⟩ rfl [false, true, true] rfl rfl 1 rfl rfl rfl (Nat.le_of_ble_eq_true rfl) rfl dX5_countBars_5 (fun H locs w => ?_)
  exact kret _ _ _ _ _ dX5_countBars_8 w rfl

set_option maxHeartbeats 4000000 in
set_option maxRecDepth 100000 in
/-- Songs.codeOf -/
theorem k_codeOf (l : Launch) (D : va_G) (cI cZ cJ : ClassId) (a : Nat → Nat) (μ : Nat → Int → Int) (f13 f14 f15 f16 f17 : Int → Int) (s b : Int) (hI : IP μ) (hc : (0 ≤ s ∧ s < 6) ∧ (0 ≤ b ∧ b < 64) ∧ (0 ≤ f14 (s * 64 + b) ∧ f14 (s * 64 + b) < 12) ∧ 0 ≤ f15 (s * 64 + b) ∧ f15 (s * 64 + b) < 1000) : Ci l D (tY cI cZ cJ) yX5_codeOf wsX5_codeOf rmX5_codeOf [.ref (a 2), .int (iI s), .int (iI b)] (WSng cI a μ f13 f14 f15 f16 f17) (cdF μ (f14 (s * 64 + b)) (f15 (s * 64 + b))) (WSng cI a μ f13 f14 f15 f16 f17) := by
  refine qi_of (by decide +kernel) rfl (Nat.le_of_ble_eq_true rfl) ?_
  intro zp ze zs zm zargs zbelow zmeth zc A Q ls M hA w hl kret
  have hl : lv_has ls 4 [(0, .ref (a 2)), (1, .int (iI s)), (2, .int (iI b))] := hl
  have in5 : ∀ w ∈ u_ws RX5 TX5 11, w ∈ wsX5_codeOf := by decide +kernel
  refine q_iln M dX5_codeOf_0 (lv_at hl 1 rfl) ?_
  refine q_bp M dX5_codeOf_1 (by decide +kernel) ?_
  refine q_mul M dX5_codeOf_3 ?_
  refine q_iln M dX5_codeOf_4 (lv_at hl 2 rfl) ?_
  refine q_add M dX5_codeOf_5 ?_
  refine q_isn (lv' := [(3, .int (iI ((s * 64) + b))), (0, .ref (a 2)), (1, .int (iI s)), (2, .int (iI b))]) M dX5_codeOf_6 rfl hl (by decide) rfl (fun ls hl => ?_)
  refine q_aln M dX5_codeOf_7 (lv_at hl 1 rfl) ?_
  refine q_get (v := .ref (a 1)) M w in5 15 0 rfl rfl (by decide) (by decide +kernel) rfl rfl dX5_codeOf_8 ?_
  refine q_aln M dX5_codeOf_11 (lv_at hl 1 rfl) ?_
  refine q_get (v := .ref (a 38)) M w in5 15 7 rfl rfl (by decide) (by decide +kernel) rfl rfl dX5_codeOf_12 ?_
  refine q_iln M dX5_codeOf_15 (lv_at hl 0 rfl) ?_
  refine qc_iV (As := [.int (iI ((s * 64) + b))]) (rest := [.ref (a 1)]) (wc := WRow cI (a 38) (a 39) 384 f14) (wc2 := WRow cI (a 38) (a 39) 384 f14) (ws2 := WSng cI a μ f13 f14 f15 f16 f17) M w hA hl (k_get l D cI cZ cJ _ _ _ _ ((s * 64) + b) (by omega)) gX5_codeOf_X3_get rfl ⟨rfl, rfl, by decide, by decide⟩ ⟨Nat.zero_le _, Nat.zero_le _⟩ 1 ⟨rfl, by decide +kernel⟩ rfl [false, false, false, false, false, false, false, false, false, false, false, false, false, false, false, false, false, false, false, false, false, false, false, false, false, false, false, false, true, true] rfl rfl 28 rfl rfl rfl (Nat.le_of_ble_eq_true rfl) rfl dX5_codeOf_16 (fun H locs w => ?_)
  refine q_aln M dX5_codeOf_19 (lv_at hl 1 rfl) ?_
  refine q_get (v := .ref (a 40)) M w in5 15 8 rfl rfl (by decide) (by decide +kernel) rfl rfl dX5_codeOf_20 ?_
  refine q_iln M dX5_codeOf_23 (lv_at hl 0 rfl) ?_
  refine qc_iV (As := [.int (iI ((s * 64) + b))]) (rest := [.int (iI (f14 ((s * 64) + b))), .ref (a 1)]) (wc := WRow cI (a 40) (a 41) 384 f15) (wc2 := WRow cI (a 40) (a 41) 384 f15) (ws2 := WSng cI a μ f13 f14 f15 f16 f17) M w hA hl (k_get l D cI cZ cJ _ _ _ _ ((s * 64) + b) (by omega)) gX5_codeOf_X3_get rfl ⟨rfl, rfl, by decide, by decide⟩ ⟨Nat.zero_le _, Nat.zero_le _⟩ 1 ⟨rfl, by decide +kernel⟩ rfl [false, false, false, false, false, false, false, false, false, false, false, false, false, false, false, false, false, false, false, false, false, false, false, false, false, false, false, false, false, false, true, true] rfl rfl 30 rfl rfl rfl (Nat.le_of_ble_eq_true rfl) rfl dX5_codeOf_24 (fun H locs w => ?_)
  refine qc_iV (As := [.int (iI (f14 ((s * 64) + b))), .int (iI (f15 ((s * 64) + b)))]) (rest := []) (wc := WPat cI a μ) (wc2 := WPat cI a μ) (ws2 := WSng cI a μ f13 f14 f15 f16 f17) M w hA hl (k_codeFor l D cI cZ cJ a μ (f14 ((s * 64) + b)) (f15 ((s * 64) + b)) hI (by omega)) gX5_codeOf_X2_codeFor rfl ⟨rfl, rfl, by decide, by decide⟩ ⟨Nat.zero_le _, Nat.zero_le _⟩ 2 ⟨rfl, by decide +kernel⟩ rfl [true, true, true, true, true, true, true, true, true, true, true, true, true, true, true] rfl rfl 2 rfl rfl rfl (Nat.le_of_ble_eq_true rfl) rfl dX5_codeOf_27 (fun H locs w => ?_)
  exact kret _ _ _ _ _ dX5_codeOf_30 w rfl

set_option maxHeartbeats 4000000 in
set_option maxRecDepth 100000 in
/-- Songs.layBar -/
theorem k_layBar (l : Launch) (D : va_G) (cI cZ cJ : ClassId) (a : Nat → Nat) (μ : Nat → Int → Int) (f13 f14 f15 f16 f17 : Int → Int) (s b e : Int) (hc : (0 ≤ s ∧ s < 6) ∧ (0 ≤ b ∧ b < 64) ∧ (0 ≤ e ∧ e < 8) ∧ 0 ≤ μ 9 (s * 8 + e) ∧ μ 9 (s * 8 + e) < 12) : Cv l D (tY cI cZ cJ) yX5_layBar wsX5_layBar rmX5_layBar [.ref (a 2), .int (iI s), .int (iI b), .int (iI e)] (WSn0 cI a μ f13 f14 f15 f16 f17) (WSn0 cI a μ f13 (iU f14 (s * 64 + b) (μ 9 (s * 8 + e))) (iU f15 (s * 64 + b) (f17 (μ 9 (s * 8 + e)) + 1)) f16 (iU f17 (μ 9 (s * 8 + e)) (f17 (μ 9 (s * 8 + e)) + 1))) := by
  refine qv_of (by decide +kernel) rfl (Nat.le_of_ble_eq_true rfl) ?_
  intro zp ze zs zm zargs zbelow zmeth zc A Q ls M hA w hl kret
  have hl : lv_has ls 6 [(0, .ref (a 2)), (1, .int (iI s)), (2, .int (iI b)), (3, .int (iI e))] := hl
  have in5 : ∀ w ∈ u_ws RX5 TX5 11, w ∈ wsX5_layBar := by decide +kernel
  refine q_aln M dX5_layBar_0 (lv_at hl 0 rfl) ?_
  refine q_get (v := .ref (a 28)) M w in5 0 2 rfl rfl (by decide) (by decide +kernel) rfl rfl dX5_layBar_1 ?_
  refine q_iln M dX5_layBar_4 (lv_at hl 1 rfl) ?_
  refine q_bp M dX5_layBar_5 (by decide +kernel) ?_
  refine q_mul M dX5_layBar_7 ?_
  refine q_iln M dX5_layBar_8 (lv_at hl 3 rfl) ?_
  refine q_add M dX5_layBar_9 ?_
  refine qc_iV (As := [.int (iI ((s * 8) + e))]) (rest := []) (wc := WRow cI (a 28) (a 29) 48 (μ 9)) (wc2 := WRow cI (a 28) (a 29) 48 (μ 9)) (ws2 := WSn0 cI a μ f13 f14 f15 f16 f17) M w hA hl (k_get l D cI cZ cJ _ _ _ _ ((s * 8) + e) (by omega)) gX5_layBar_X3_get rfl ⟨rfl, rfl, by decide, by decide⟩ ⟨Nat.zero_le _, Nat.zero_le _⟩ 1 ⟨rfl, by decide +kernel⟩ rfl [false, false, false, true, true] rfl rfl 3 rfl rfl rfl (Nat.le_of_ble_eq_true rfl) rfl dX5_layBar_10 (fun H locs w => ?_)
  refine q_is (lv' := [(4, .int (iI ((μ 9) ((s * 8) + e)))), (0, .ref (a 2)), (1, .int (iI s)), (2, .int (iI b)), (3, .int (iI e))]) M dX5_layBar_13 hl (by decide) rfl (fun ls hl => ?_)
  refine q_aln M dX5_layBar_15 (lv_at hl 1 rfl) ?_
  refine q_get (v := .ref (a 44)) M w in5 0 10 rfl rfl (by decide) (by decide +kernel) rfl rfl dX5_layBar_16 ?_
  refine q_il M dX5_layBar_19 (lv_at hl 0 rfl) ?_
  refine qc_iV (As := [.int (iI ((μ 9) ((s * 8) + e)))]) (rest := []) (wc := WRow cI (a 44) (a 45) 12 f17) (wc2 := WRow cI (a 44) (a 45) 12 f17) (ws2 := WSn0 cI a μ f13 f14 f15 f16 f17) M w hA hl (k_get l D cI cZ cJ _ _ _ _ ((μ 9) ((s * 8) + e)) (by omega)) gX5_layBar_X3_get rfl ⟨rfl, rfl, by decide, by decide⟩ ⟨Nat.zero_le _, Nat.zero_le _⟩ 1 ⟨rfl, by decide +kernel⟩ rfl [false, false, false, false, false, false, false, false, false, false, false, false, false, false, false, false, false, false, false, true, true] rfl rfl 19 rfl rfl rfl (Nat.le_of_ble_eq_true rfl) rfl dX5_layBar_21 (fun H locs w => ?_)
  refine q_ic M dX5_layBar_24 ?_
  refine q_add M dX5_layBar_25 ?_
  refine q_is (lv' := [(5, .int (iI ((f17 ((μ 9) ((s * 8) + e))) + 1))), (4, .int (iI ((μ 9) ((s * 8) + e)))), (0, .ref (a 2)), (1, .int (iI s)), (2, .int (iI b)), (3, .int (iI e))]) M dX5_layBar_26 hl (by decide) rfl (fun ls hl => ?_)
  refine q_aln M dX5_layBar_28 (lv_at hl 2 rfl) ?_
  refine q_get (v := .ref (a 44)) M w in5 0 10 rfl rfl (by decide) (by decide +kernel) rfl rfl dX5_layBar_29 ?_
  refine q_il M dX5_layBar_32 (lv_at hl 1 rfl) ?_
  refine q_il M dX5_layBar_34 (lv_at hl 0 rfl) ?_
  refine qc_iV (As := [.int (iI ((μ 9) ((s * 8) + e))), .int (iI ((f17 ((μ 9) ((s * 8) + e))) + 1))]) (rest := []) (wc := WRow cI (a 44) (a 45) 12 f17) (wc2 := WRow cI (a 44) (a 45) 12 (iU f17 ((μ 9) ((s * 8) + e)) ((f17 ((μ 9) ((s * 8) + e))) + 1))) (ws2 := WSn0 cI a μ f13 f14 f15 f16 (iU f17 ((μ 9) ((s * 8) + e)) ((f17 ((μ 9) ((s * 8) + e))) + 1))) M w hA hl (k_replace l D cI cZ cJ _ _ _ _ ((μ 9) ((s * 8) + e)) ((f17 ((μ 9) ((s * 8) + e))) + 1) (by omega)) gX5_layBar_X3_replace rfl ⟨rfl, rfl, by decide, by decide⟩ ⟨Nat.zero_le _, Nat.zero_le _⟩ 2 ⟨rfl, by decide +kernel⟩ rfl [false, false, false, false, false, false, false, false, false, false, false, false, false, false, false, false, false, false, false, true, true] rfl rfl 19 rfl rfl rfl (Nat.le_of_ble_eq_true rfl) rfl dX5_layBar_36 (fun H locs w => ?_)
  refine q_pop M dX5_layBar_39 rfl ?_
  refine q_aln M dX5_layBar_40 (lv_at hl 2 rfl) ?_
  refine q_get (v := .ref (a 38)) M w in5 0 7 rfl rfl (by decide) (by decide +kernel) rfl rfl dX5_layBar_41 ?_
  refine q_iln M dX5_layBar_44 (lv_at hl 3 rfl) ?_
  refine q_bp M dX5_layBar_45 (by decide +kernel) ?_
  refine q_mul M dX5_layBar_47 ?_
  refine q_iln M dX5_layBar_48 (lv_at hl 4 rfl) ?_
  refine q_add M dX5_layBar_49 ?_
  refine q_il M dX5_layBar_50 (lv_at hl 1 rfl) ?_
  refine qc_iV (As := [.int (iI ((s * 64) + b)), .int (iI ((μ 9) ((s * 8) + e)))]) (rest := []) (wc := WRow cI (a 38) (a 39) 384 f14) (wc2 := WRow cI (a 38) (a 39) 384 (iU f14 ((s * 64) + b) ((μ 9) ((s * 8) + e)))) (ws2 := WSn0 cI a μ f13 (iU f14 ((s * 64) + b) ((μ 9) ((s * 8) + e))) f15 f16 (iU f17 ((μ 9) ((s * 8) + e)) ((f17 ((μ 9) ((s * 8) + e))) + 1))) M w hA hl (k_replace l D cI cZ cJ _ _ _ _ ((s * 64) + b) ((μ 9) ((s * 8) + e)) (by omega)) gX5_layBar_X3_replace rfl ⟨rfl, rfl, by decide, by decide⟩ ⟨Nat.zero_le _, Nat.zero_le _⟩ 2 ⟨rfl, by decide +kernel⟩ rfl [false, false, false, false, false, false, false, false, false, false, false, false, false, true, true] rfl rfl 13 rfl rfl rfl (Nat.le_of_ble_eq_true rfl) rfl dX5_layBar_52 (fun H locs w => ?_)
  refine q_pop M dX5_layBar_55 rfl ?_
  refine q_aln M dX5_layBar_56 (lv_at hl 2 rfl) ?_
  refine q_get (v := .ref (a 40)) M w in5 0 8 rfl rfl (by decide) (by decide +kernel) rfl rfl dX5_layBar_57 ?_
  refine q_iln M dX5_layBar_60 (lv_at hl 3 rfl) ?_
  refine q_bp M dX5_layBar_61 (by decide +kernel) ?_
  refine q_mul M dX5_layBar_63 ?_
  refine q_iln M dX5_layBar_64 (lv_at hl 4 rfl) ?_
  refine q_add M dX5_layBar_65 ?_
  refine q_il M dX5_layBar_66 (lv_at hl 0 rfl) ?_
  refine qc_iV (As := [.int (iI ((s * 64) + b)), .int (iI ((f17 ((μ 9) ((s * 8) + e))) + 1))]) (rest := []) (wc := WRow cI (a 40) (a 41) 384 f15) (wc2 := WRow cI (a 40) (a 41) 384 (iU f15 ((s * 64) + b) ((f17 ((μ 9) ((s * 8) + e))) + 1))) (ws2 := WSn0 cI a μ f13 (iU f14 ((s * 64) + b) ((μ 9) ((s * 8) + e))) (iU f15 ((s * 64) + b) ((f17 ((μ 9) ((s * 8) + e))) + 1)) f16 (iU f17 ((μ 9) ((s * 8) + e)) ((f17 ((μ 9) ((s * 8) + e))) + 1))) M w hA hl (k_replace l D cI cZ cJ _ _ _ _ ((s * 64) + b) ((f17 ((μ 9) ((s * 8) + e))) + 1) (by omega)) gX5_layBar_X3_replace rfl ⟨rfl, rfl, by decide, by decide⟩ ⟨Nat.zero_le _, Nat.zero_le _⟩ 2 ⟨rfl, by decide +kernel⟩ rfl [false, false, false, false, false, false, false, false, false, false, false, false, false, false, false, true, true] rfl rfl 15 rfl rfl rfl (Nat.le_of_ble_eq_true rfl) rfl dX5_layBar_68 (fun H locs w => ?_)
  refine q_pop M dX5_layBar_71 rfl ?_
  exact kret _ _ _ _ dX5_layBar_72 w

set_option maxHeartbeats 4000000 in
set_option maxRecDepth 100000 in
/-- Songs.leaveEntry -/
theorem k_leaveEntry (l : Launch) (D : va_G) (cI cZ cJ : ClassId) (a : Nat → Nat) (μ : Nat → Int → Int) (f13 f14 f15 f16 f17 : Int → Int) (s e : Int) (hd : ∀ x, 0 ≤ f16 x ∧ f16 x ≤ 1000) (hc : (0 ≤ s ∧ s < 6) ∧ (0 ≤ e ∧ e < 8) ∧ 0 ≤ μ 12 (s * 8 + e) ∧ μ 12 (s * 8 + e) ≤ 3) : Ci l D (tY cI cZ cJ) yX5_leaveEntry wsX5_leaveEntry rmX5_leaveEntry [.ref (a 2), .int (iI s), .int (iI e)] (WSn0 cI a μ f13 f14 f15 f16 f17) (lvE (sT μ s) (sG μ s) f16 e) (WSn0 cI a μ f13 f14 f15 (lvD (sT μ s) f16 e) f17) := by
  refine qi_of (by decide +kernel) rfl (Nat.le_of_ble_eq_true rfl) ?_
  intro zp ze zs zm zargs zbelow zmeth zc A Q ls M hA w hl kret
  have hl : lv_has ls 4 [(0, .ref (a 2)), (1, .int (iI s)), (2, .int (iI e))] := hl
  have in5 : ∀ w ∈ u_ws RX5 TX5 11, w ∈ wsX5_leaveEntry := by decide +kernel
  refine q_aln M dX5_leaveEntry_0 (lv_at hl 0 rfl) ?_
  refine q_get (v := .ref (a 42)) M w in5 0 9 rfl rfl (by decide) (by decide +kernel) rfl rfl dX5_leaveEntry_1 ?_
  refine q_iln M dX5_leaveEntry_4 (lv_at hl 2 rfl) ?_
  refine qc_iV (As := [.int (iI e)]) (rest := []) (wc := WRow cI (a 42) (a 43) 8 f16) (wc2 := WRow cI (a 42) (a 43) 8 f16) (ws2 := WSn0 cI a μ f13 f14 f15 f16 f17) M w hA hl (k_get l D cI cZ cJ _ _ _ _ e (by omega)) gX5_leaveEntry_X3_get rfl ⟨rfl, rfl, by decide, by decide⟩ ⟨Nat.zero_le _, Nat.zero_le _⟩ 1 ⟨rfl, by decide +kernel⟩ rfl [false, false, false, false, false, false, false, false, false, false, false, false, false, false, false, false, false, true, true] rfl rfl 17 rfl rfl rfl (Nat.le_of_ble_eq_true rfl) rfl dX5_leaveEntry_5 (fun H locs w => ?_)
  refine q_isn (lv' := [(3, .int (iI (f16 e))), (0, .ref (a 2)), (1, .int (iI s)), (2, .int (iI e))]) M dX5_leaveEntry_8 rfl hl (by decide) rfl (fun ls hl => ?_)
  have q1 := hd e
  refine q_iln M dX5_leaveEntry_9 (lv_at hl 0 rfl) ?_
  refine q_aln M dX5_leaveEntry_10 (lv_at hl 1 rfl) ?_
  refine q_get (v := .ref (a 34)) M w in5 0 5 rfl rfl (by decide) (by decide +kernel) rfl rfl dX5_leaveEntry_11 ?_
  refine q_iln M dX5_leaveEntry_14 (lv_at hl 2 rfl) ?_
  refine q_bp M dX5_leaveEntry_15 (by decide +kernel) ?_
  refine q_mul M dX5_leaveEntry_17 ?_
  refine q_iln M dX5_leaveEntry_18 (lv_at hl 3 rfl) ?_
  refine q_add M dX5_leaveEntry_19 ?_
  refine qc_iV (As := [.int (iI ((s * 8) + e))]) (rest := [.int (iI (f16 e))]) (wc := WRow cI (a 34) (a 35) 48 (μ 12)) (wc2 := WRow cI (a 34) (a 35) 48 (μ 12)) (ws2 := WSn0 cI a μ f13 f14 f15 f16 f17) M w hA hl (k_get l D cI cZ cJ _ _ _ _ ((s * 8) + e) (by omega)) gX5_leaveEntry_X3_get rfl ⟨rfl, rfl, by decide, by decide⟩ ⟨Nat.zero_le _, Nat.zero_le _⟩ 1 ⟨rfl, by decide +kernel⟩ rfl [false, false, false, false, false, false, false, false, false, true, true] rfl rfl 9 rfl rfl rfl (Nat.le_of_ble_eq_true rfl) rfl dX5_leaveEntry_20 (fun H locs w => ?_)
  refine q_icmp_lt (tgt := 30) M dX5_leaveEntry_23 (by decide) (by omega) (fun c23 => ?_) (fun c23 => ?_)
  · refine q_aln M dX5_leaveEntry_30 (lv_at hl 1 rfl) ?_
    refine q_get (v := .ref (a 42)) M w in5 0 9 rfl rfl (by decide) (by decide +kernel) rfl rfl dX5_leaveEntry_31 ?_
    refine q_iln M dX5_leaveEntry_34 (lv_at hl 3 rfl) ?_
    refine q_iln M dX5_leaveEntry_35 (lv_at hl 0 rfl) ?_
    refine q_ic M dX5_leaveEntry_36 ?_
    refine q_add M dX5_leaveEntry_37 ?_
    refine qc_iV (As := [.int (iI e), .int (iI ((f16 e) + 1))]) (rest := []) (wc := WRow cI (a 42) (a 43) 8 f16) (wc2 := WRow cI (a 42) (a 43) 8 (iU f16 e ((f16 e) + 1))) (ws2 := WSn0 cI a μ f13 f14 f15 (iU f16 e ((f16 e) + 1)) f17) M w hA hl (k_replace l D cI cZ cJ _ _ _ _ e ((f16 e) + 1) (by omega)) gX5_leaveEntry_X3_replace rfl ⟨rfl, rfl, by decide, by decide⟩ ⟨Nat.zero_le _, Nat.zero_le _⟩ 2 ⟨rfl, by decide +kernel⟩ rfl [false, false, false, false, false, false, false, false, false, false, false, false, false, false, false, false, false, true, true] rfl rfl 17 rfl rfl rfl (Nat.le_of_ble_eq_true rfl) rfl dX5_leaveEntry_38 (fun H locs w => ?_)
    refine q_pop M dX5_leaveEntry_41 rfl ?_
    refine q_aln M dX5_leaveEntry_42 (lv_at hl 1 rfl) ?_
    refine q_get (v := .ref (a 32)) M w in5 0 4 rfl rfl (by decide) (by decide +kernel) rfl rfl dX5_leaveEntry_43 ?_
    refine q_iln M dX5_leaveEntry_46 (lv_at hl 2 rfl) ?_
    refine q_bp M dX5_leaveEntry_47 (by decide +kernel) ?_
    refine q_mul M dX5_leaveEntry_49 ?_
    refine q_iln M dX5_leaveEntry_50 (lv_at hl 3 rfl) ?_
    refine q_add M dX5_leaveEntry_51 ?_
    refine qc_iV (As := [.int (iI ((s * 8) + e))]) (rest := []) (wc := WRow cI (a 32) (a 33) 48 (μ 11)) (wc2 := WRow cI (a 32) (a 33) 48 (μ 11)) (ws2 := WSn0 cI a μ f13 f14 f15 (iU f16 e ((f16 e) + 1)) f17) M w hA hl (k_get l D cI cZ cJ _ _ _ _ ((s * 8) + e) (by omega)) gX5_leaveEntry_X3_get rfl ⟨rfl, rfl, by decide, by decide⟩ ⟨Nat.zero_le _, Nat.zero_le _⟩ 1 ⟨rfl, by decide +kernel⟩ rfl [false, false, false, false, false, false, false, true, true] rfl rfl 7 rfl rfl rfl (Nat.le_of_ble_eq_true rfl) rfl dX5_leaveEntry_52 (fun H locs w => ?_)
    have el : lvD (sT μ s) f16 e = iU f16 e (f16 e + 1) := by unfold lvD; rw [if_neg (by unfold sT; omega)]
    have w : wW D A zs.heap (WSn0 cI a μ f13 f14 f15 (lvD (sT μ s) f16 e) f17) H locs := by rw [el]; exact w
    exact kret _ _ _ _ _ dX5_leaveEntry_55 w (by unfold lvE; rw [if_neg (by unfold sT; omega)]; rfl)
  · refine q_iln M dX5_leaveEntry_26 (lv_at hl 3 rfl) ?_
    refine q_ic M dX5_leaveEntry_27 ?_
    refine q_add M dX5_leaveEntry_28 ?_
    have el : lvD (sT μ s) f16 e = f16 := by unfold lvD; rw [if_pos (by unfold sT; omega)]
    have w : wW D A zs.heap (WSn0 cI a μ f13 f14 f15 (lvD (sT μ s) f16 e) f17) H locs := by rw [el]; exact w
    exact kret _ _ _ _ _ dX5_leaveEntry_29 w (by unfold lvE; rw [if_pos (by unfold sT; omega)])

set_option maxHeartbeats 4000000 in
set_option maxRecDepth 100000 in
/-- Songs.layBars -/
theorem k_layBars (l : Launch) (D : va_G) (cI cZ cJ : ClassId) (a : Nat → Nat) (μ : Nat → Int → Int) (f13 f14 f15 f16 f17 : Int → Int) (s : Int) (hS : SDs μ s) (hc : (0 ≤ s ∧ s < 6)) : Cv l D (tY cI cZ cJ) yX5_layBars wsX5_layBars rmX5_layBars [.ref (a 2), .int (iI s)] (WSn0 cI a μ f13 f14 f15 f16 f17) (WSn0 cI a μ (iU f13 s (lBs μ s)) (cpF f14 (bP μ s) (s * 64) (lBs μ s)) (cpF f15 (bT μ s) (s * 64) (lBs μ s)) ((ly μ s (lBs μ s)).2.2.1) ((ly μ s (lBs μ s)).2.2.2)) := by
  refine qv_of (by decide +kernel) rfl (Nat.le_of_ble_eq_true rfl) ?_
  intro zp ze zs zm zargs zbelow zmeth zc A Q ls M hA w hl kret
  have hl : lv_has ls 5 [(0, .ref (a 2)), (1, .int (iI s))] := hl
  have in5 : ∀ w ∈ u_ws RX5 TX5 11, w ∈ wsX5_layBars := by decide +kernel
  refine q_aln M dX5_layBars_0 (lv_at hl 0 rfl) ?_
  refine q_get (v := .ref (a 42)) M w in5 0 9 rfl rfl (by decide) (by decide +kernel) rfl rfl dX5_layBars_1 ?_
  refine q_ic M dX5_layBars_4 ?_
  refine qc_vV (As := [.int (iI 0)]) (rest := []) (wc := WRow cI (a 42) (a 43) 8 f16) (wc2 := WRow cI (a 42) (a 43) 8 (fun _ => 0)) (ws2 := WSn0 cI a μ f13 f14 f15 (fun _ => 0) f17) M w hA hl (k_setAll l D cI cZ cJ _ _ _ _ 0 (by omega)) gX5_layBars_X3_setAll rfl ⟨rfl, rfl, by decide, by decide⟩ ⟨Nat.zero_le _, Nat.zero_le _⟩ 1 ⟨rfl, by decide +kernel⟩ rfl [false, false, false, false, false, false, false, false, false, false, false, false, false, false, false, false, false, true, true] rfl rfl 17 rfl rfl rfl (Nat.le_of_ble_eq_true rfl) rfl dX5_layBars_5 (fun H locs w => ?_)
  refine q_aln M dX5_layBars_8 (lv_at hl 0 rfl) ?_
  refine q_get (v := .ref (a 44)) M w in5 0 10 rfl rfl (by decide) (by decide +kernel) rfl rfl dX5_layBars_9 ?_
  refine q_ic M dX5_layBars_12 ?_
  refine qc_vV (As := [.int (iI 0)]) (rest := []) (wc := WRow cI (a 44) (a 45) 12 f17) (wc2 := WRow cI (a 44) (a 45) 12 (fun _ => 0)) (ws2 := WSn0 cI a μ f13 f14 f15 (fun _ => 0) (fun _ => 0)) M w hA hl (k_setAll l D cI cZ cJ _ _ _ _ 0 (by omega)) gX5_layBars_X3_setAll rfl ⟨rfl, rfl, by decide, by decide⟩ ⟨Nat.zero_le _, Nat.zero_le _⟩ 1 ⟨rfl, by decide +kernel⟩ rfl [false, false, false, false, false, false, false, false, false, false, false, false, false, false, false, false, false, false, false, true, true] rfl rfl 19 rfl rfl rfl (Nat.le_of_ble_eq_true rfl) rfl dX5_layBars_13 (fun H locs w => ?_)
  refine q_ic M dX5_layBars_16 ?_
  refine q_isn (lv' := [(2, .int (iI 0)), (0, .ref (a 2)), (1, .int (iI s))]) M dX5_layBars_17 rfl hl (by decide) rfl (fun ls hl => ?_)
  refine q_ic M dX5_layBars_18 ?_
  refine q_isn (lv' := [(3, .int (iI 0)), (2, .int (iI 0)), (0, .ref (a 2)), (1, .int (iI s))]) M dX5_layBars_19 rfl hl (by decide) rfl (fun ls hl => ?_)
  refine q_ic M dX5_layBars_20 ?_
  refine q_is (lv' := [(4, .int (iI 0)), (3, .int (iI 0)), (2, .int (iI 0)), (0, .ref (a 2)), (1, .int (iI s))]) M dX5_layBars_21 hl (by decide) rfl (fun ls hl => ?_)
  have lp23 : ∀ (n23 : Nat) (k : Int), (0 ≤ k ∧ k ≤ 64) → (lsOK (μ 8 s) (sP μ s) (sR μ s) (sG μ s) (sT μ s) k) → (64 - k : Int) < (n23 : Int) → ∀ (H : Heap) (locs : List Loc) (ls : Array Slot), wW D A zs.heap (WSn0 cI a μ f13 (cpF f14 (bP μ s) (s * 64) k) (cpF f15 (bT μ s) (s * 64) k) ((ly μ s k).2.2.1) ((ly μ s k).2.2.2)) H locs → lv_has ls 5 [(0, .ref (a 2)), (1, .int (iI s)), (2, .int (iI k)), (3, .int (iI ((ly μ s k).1))), (4, .int (iI ((ly μ s k).2.1)))] → W zp l ze rmX5_layBars zs zm zargs zbelow zmeth zc H locs 0 0 Q (F0 zm 23 ls []) := by
    intro n23
    induction n23 with
    | zero => intro k hk hok hm H locs ls w hl; exfalso; omega
    | succ n23 ih23 =>
      intro k hk hok hm23 H locs ls w hl
      have o1 : 0 ≤ (ly μ s k).1 ∧ (ly μ s k).1 ≤ μ 8 s := hok.1
      have o2 : 0 ≤ (ly μ s k).2.1 ∧ (ly μ s k).2.1 < 4 := hok.2.1
      have o3 : 0 ≤ μ 8 s ∧ μ 8 s ≤ 8 := hS.1
      refine q_iln M dX5_layBars_23 (lv_at hl 2 rfl) ?_
      refine q_bp M dX5_layBars_24 (by decide +kernel) ?_
      refine q_icmp_ge (tgt := 85) M dX5_layBars_26 (by decide) (by omega) (fun c26 => ?_) (fun c26 => ?_)
      · have eB : lBs μ s = k := lB_of hk hok.2.2.2.2 (by first | exact Or.inl (by omega) | exact Or.inr c38)
        refine q_aln M dX5_layBars_85 (lv_at hl 0 rfl) ?_
        refine q_get (v := .ref (a 36)) M w in5 0 6 rfl rfl (by decide) (by decide +kernel) rfl rfl dX5_layBars_86 ?_
        refine q_iln M dX5_layBars_89 (lv_at hl 1 rfl) ?_
        refine q_iln M dX5_layBars_90 (lv_at hl 2 rfl) ?_
        refine qc_iV (As := [.int (iI s), .int (iI k)]) (rest := []) (wc := WRow cI (a 36) (a 37) 6 f13) (wc2 := WRow cI (a 36) (a 37) 6 (iU f13 s k)) (ws2 := WSn0 cI a μ (iU f13 s k) (cpF f14 (bP μ s) (s * 64) k) (cpF f15 (bT μ s) (s * 64) k) ((ly μ s k).2.2.1) ((ly μ s k).2.2.2)) M w hA hl (k_replace l D cI cZ cJ _ _ _ _ s k (by omega)) gX5_layBars_X3_replace rfl ⟨rfl, rfl, by decide, by decide⟩ ⟨Nat.zero_le _, Nat.zero_le _⟩ 2 ⟨rfl, by decide +kernel⟩ rfl [false, false, false, false, false, false, false, false, false, false, false, true, true] rfl rfl 11 rfl rfl rfl (Nat.le_of_ble_eq_true rfl) rfl dX5_layBars_91 (fun H locs w => ?_)
        refine q_pop M dX5_layBars_94 rfl ?_
        rw [← eB] at w
        exact kret _ _ _ _ dX5_layBars_95 w
      · refine q_iln M dX5_layBars_29 (lv_at hl 3 rfl) ?_
        refine q_aln M dX5_layBars_30 (lv_at hl 0 rfl) ?_
        refine q_get (v := .ref (a 26)) M w in5 0 1 rfl rfl (by decide) (by decide +kernel) rfl rfl dX5_layBars_31 ?_
        refine q_iln M dX5_layBars_34 (lv_at hl 1 rfl) ?_
        refine qc_iV (As := [.int (iI s)]) (rest := [.int (iI ((ly μ s k).1))]) (wc := WRow cI (a 26) (a 27) 6 (μ 8)) (wc2 := WRow cI (a 26) (a 27) 6 (μ 8)) (ws2 := WSn0 cI a μ f13 (cpF f14 (bP μ s) (s * 64) k) (cpF f15 (bT μ s) (s * 64) k) ((ly μ s k).2.2.1) ((ly μ s k).2.2.2)) M w hA hl (k_get l D cI cZ cJ _ _ _ _ s (by omega)) gX5_layBars_X3_get rfl ⟨rfl, rfl, by decide, by decide⟩ ⟨Nat.zero_le _, Nat.zero_le _⟩ 1 ⟨rfl, by decide +kernel⟩ rfl [false, true, true] rfl rfl 1 rfl rfl rfl (Nat.le_of_ble_eq_true rfl) rfl dX5_layBars_35 (fun H locs w => ?_)
        refine q_icmp_ge (tgt := 85) M dX5_layBars_38 (by decide) (by omega) (fun c38 => ?_) (fun c38 => ?_)
        · have eB : lBs μ s = k := lB_of hk hok.2.2.2.2 (by first | exact Or.inl (by omega) | exact Or.inr c38)
          refine q_aln M dX5_layBars_85 (lv_at hl 0 rfl) ?_
          refine q_get (v := .ref (a 36)) M w in5 0 6 rfl rfl (by decide) (by decide +kernel) rfl rfl dX5_layBars_86 ?_
          refine q_iln M dX5_layBars_89 (lv_at hl 1 rfl) ?_
          refine q_iln M dX5_layBars_90 (lv_at hl 2 rfl) ?_
          refine qc_iV (As := [.int (iI s), .int (iI k)]) (rest := []) (wc := WRow cI (a 36) (a 37) 6 f13) (wc2 := WRow cI (a 36) (a 37) 6 (iU f13 s k)) (ws2 := WSn0 cI a μ (iU f13 s k) (cpF f14 (bP μ s) (s * 64) k) (cpF f15 (bT μ s) (s * 64) k) ((ly μ s k).2.2.1) ((ly μ s k).2.2.2)) M w hA hl (k_replace l D cI cZ cJ _ _ _ _ s k (by omega)) gX5_layBars_X3_replace rfl ⟨rfl, rfl, by decide, by decide⟩ ⟨Nat.zero_le _, Nat.zero_le _⟩ 2 ⟨rfl, by decide +kernel⟩ rfl [false, false, false, false, false, false, false, false, false, false, false, true, true] rfl rfl 11 rfl rfl rfl (Nat.le_of_ble_eq_true rfl) rfl dX5_layBars_91 (fun H locs w => ?_)
          refine q_pop M dX5_layBars_94 rfl ?_
          rw [← eB] at w
          exact kret _ _ _ _ dX5_layBars_95 w
        · obtain ⟨q1, q2, q3, q4⟩ := hS.2 _ hok.1.1 c38
          have q1 : 0 ≤ μ 9 (s * 8 + (ly μ s k).1) ∧ μ 9 (s * 8 + (ly μ s k).1) < 12 := q1
          have q2 : 1 ≤ μ 10 (s * 8 + (ly μ s k).1) ∧ μ 10 (s * 8 + (ly μ s k).1) ≤ 4 := q2
          have q3 : 0 ≤ μ 12 (s * 8 + (ly μ s k).1) ∧ μ 12 (s * 8 + (ly μ s k).1) ≤ 3 := q3
          refine q_aln M dX5_layBars_41 (lv_at hl 0 rfl) ?_
          refine q_iln M dX5_layBars_42 (lv_at hl 1 rfl) ?_
          refine q_iln M dX5_layBars_43 (lv_at hl 2 rfl) ?_
          refine q_iln M dX5_layBars_44 (lv_at hl 3 rfl) ?_
          refine qc_vV (As := [.int (iI s), .int (iI k), .int (iI ((ly μ s k).1))]) (rest := []) (wc := WSn0 cI a μ f13 (cpF f14 (bP μ s) (s * 64) k) (cpF f15 (bT μ s) (s * 64) k) ((ly μ s k).2.2.1) ((ly μ s k).2.2.2)) (wc2 := WSn0 cI a μ f13 (iU (cpF f14 (bP μ s) (s * 64) k) (s * 64 + k) (μ 9 (s * 8 + ((ly μ s k).1)))) (iU (cpF f15 (bT μ s) (s * 64) k) (s * 64 + k) (((ly μ s k).2.2.2) (μ 9 (s * 8 + ((ly μ s k).1))) + 1)) ((ly μ s k).2.2.1) (iU ((ly μ s k).2.2.2) (μ 9 (s * 8 + ((ly μ s k).1))) (((ly μ s k).2.2.2) (μ 9 (s * 8 + ((ly μ s k).1))) + 1))) (ws2 := WSn0 cI a μ f13 (iU (cpF f14 (bP μ s) (s * 64) k) (s * 64 + k) (μ 9 (s * 8 + ((ly μ s k).1)))) (iU (cpF f15 (bT μ s) (s * 64) k) (s * 64 + k) (((ly μ s k).2.2.2) (μ 9 (s * 8 + ((ly μ s k).1))) + 1)) ((ly μ s k).2.2.1) (iU ((ly μ s k).2.2.2) (μ 9 (s * 8 + ((ly μ s k).1))) (((ly μ s k).2.2.2) (μ 9 (s * 8 + ((ly μ s k).1))) + 1))) M w hA hl (k_layBar l D cI cZ cJ a μ f13 (cpF f14 (bP μ s) (s * 64) k) (cpF f15 (bT μ s) (s * 64) k) ((ly μ s k).2.2.1) ((ly μ s k).2.2.2) s k ((ly μ s k).1) (by omega)) gX5_layBars_X5_layBar rfl ⟨rfl, rfl, by decide, by decide⟩ ⟨Nat.zero_le _, Nat.zero_le _⟩ 3 ⟨rfl, by decide +kernel⟩ rfl [true, true, true, true, true, true, true, true, true, true, true, true, true, true, true, true, true, true, true, true, true] rfl rfl 0 rfl rfl rfl (Nat.le_of_ble_eq_true rfl) rfl dX5_layBars_45 (fun H locs w => ?_)
          have e14 := cpF_s f14 (bP μ s) (s * 64) hk.1
          have e15 := cpF_s f15 (bT μ s) (s * 64) hk.1
          have w : wW D A zs.heap (WSn0 cI a μ f13 (cpF f14 (bP μ s) (s * 64) (k + 1)) (cpF f15 (bT μ s) (s * 64) (k + 1)) ((ly μ s k).2.2.1) (iU ((ly μ s k).2.2.2) (μ 9 (s * 8 + ((ly μ s k).1))) (((ly μ s k).2.2.2) (μ 9 (s * 8 + ((ly μ s k).1))) + 1))) H locs := by rw [← e14, ← e15]; exact w
          refine q_inc (z := k) (lv' := [(2, .int (iI (k + 1))), (0, .ref (a 2)), (1, .int (iI s)), (3, .int (iI ((ly μ s k).1))), (4, .int (iI ((ly μ s k).2.1)))]) M dX5_layBars_48 hl (k := 2) rfl (by decide) rfl (fun ls hl => ?_)
          refine q_inc (z := (ly μ s k).2.1) (lv' := [(4, .int (iI (((ly μ s k).2.1) + 1))), (2, .int (iI (k + 1))), (0, .ref (a 2)), (1, .int (iI s)), (3, .int (iI ((ly μ s k).1)))]) M dX5_layBars_51 hl (k := 4) rfl (by decide) rfl (fun ls hl => ?_)
          refine q_il M dX5_layBars_54 (lv_at hl 0 rfl) ?_
          refine q_aln M dX5_layBars_56 (lv_at hl 2 rfl) ?_
          refine q_get (v := .ref (a 30)) M w in5 0 3 rfl rfl (by decide) (by decide +kernel) rfl rfl dX5_layBars_57 ?_
          refine q_iln M dX5_layBars_60 (lv_at hl 3 rfl) ?_
          refine q_bp M dX5_layBars_61 (by decide +kernel) ?_
          refine q_mul M dX5_layBars_63 ?_
          refine q_iln M dX5_layBars_64 (lv_at hl 4 rfl) ?_
          refine q_add M dX5_layBars_65 ?_
          refine qc_iV (As := [.int (iI ((s * 8) + ((ly μ s k).1)))]) (rest := [.int (iI (((ly μ s k).2.1) + 1))]) (wc := WRow cI (a 30) (a 31) 48 (μ 10)) (wc2 := WRow cI (a 30) (a 31) 48 (μ 10)) (ws2 := WSn0 cI a μ f13 (cpF f14 (bP μ s) (s * 64) (k + 1)) (cpF f15 (bT μ s) (s * 64) (k + 1)) ((ly μ s k).2.2.1) (iU ((ly μ s k).2.2.2) (μ 9 (s * 8 + ((ly μ s k).1))) (((ly μ s k).2.2.2) (μ 9 (s * 8 + ((ly μ s k).1))) + 1))) M w hA hl (k_get l D cI cZ cJ _ _ _ _ ((s * 8) + ((ly μ s k).1)) (by omega)) gX5_layBars_X3_get rfl ⟨rfl, rfl, by decide, by decide⟩ ⟨Nat.zero_le _, Nat.zero_le _⟩ 1 ⟨rfl, by decide +kernel⟩ rfl [false, false, false, false, false, true, true] rfl rfl 5 rfl rfl rfl (Nat.le_of_ble_eq_true rfl) rfl dX5_layBars_66 (fun H locs w => ?_)
          refine q_icmp_lt (tgt := 23) M dX5_layBars_69 (by decide) (by omega) (fun c69 => ?_) (fun c69 => ?_)
          · have es : ly μ s (k + 1) = ((ly μ s k).1, ((ly μ s k).2.1) + 1, (ly μ s k).2.2.1, iU ((ly μ s k).2.2.2) (μ 9 (s * 8 + ((ly μ s k).1))) (((ly μ s k).2.2.2) (μ 9 (s * 8 + ((ly μ s k).1))) + 1)) := (lay_s _ _ _ _ hk.1).trans (if_neg (show ¬ (μ 10 (s * 8 + (ly μ s k).1) ≤ (ly μ s k).2.1 + 1) by omega))
            have w : wW D A zs.heap (WSn0 cI a μ f13 (cpF f14 (bP μ s) (s * 64) (k + 1)) (cpF f15 (bT μ s) (s * 64) (k + 1)) ((ly μ s (k + 1)).2.2.1) ((ly μ s (k + 1)).2.2.2)) H locs := by rw [es]; exact w
            have hl : lv_has ls 5 [(4, .int (iI ((ly μ s (k + 1)).2.1))), (2, .int (iI (k + 1))), (0, .ref (a 2)), (1, .int (iI s)), (3, .int (iI ((ly μ s (k + 1)).1)))] := by rw [es]; exact hl
            exact ih23 (k + 1) (by omega) (lsOK_s hS hk.1 hok c38) (by omega) _ _ _ w (lv_sub hl [2, 3, 1, 4, 0] rfl)
          · refine q_ic M dX5_layBars_72 ?_
            refine q_is (lv' := [(4, .int (iI 0)), (2, .int (iI (k + 1))), (0, .ref (a 2)), (1, .int (iI s)), (3, .int (iI ((ly μ s k).1)))]) M dX5_layBars_73 hl (by decide) rfl (fun ls hl => ?_)
            refine q_aln M dX5_layBars_75 (lv_at hl 2 rfl) ?_
            refine q_iln M dX5_layBars_76 (lv_at hl 3 rfl) ?_
            refine q_iln M dX5_layBars_77 (lv_at hl 4 rfl) ?_
            refine qc_iV (As := [.int (iI s), .int (iI ((ly μ s k).1))]) (rest := []) (wc := WSn0 cI a μ f13 (cpF f14 (bP μ s) (s * 64) (k + 1)) (cpF f15 (bT μ s) (s * 64) (k + 1)) ((ly μ s k).2.2.1) (iU ((ly μ s k).2.2.2) (μ 9 (s * 8 + ((ly μ s k).1))) (((ly μ s k).2.2.2) (μ 9 (s * 8 + ((ly μ s k).1))) + 1))) (wc2 := WSn0 cI a μ f13 (cpF f14 (bP μ s) (s * 64) (k + 1)) (cpF f15 (bT μ s) (s * 64) (k + 1)) (lvD (sT μ s) ((ly μ s k).2.2.1) ((ly μ s k).1)) (iU ((ly μ s k).2.2.2) (μ 9 (s * 8 + ((ly μ s k).1))) (((ly μ s k).2.2.2) (μ 9 (s * 8 + ((ly μ s k).1))) + 1))) (ws2 := WSn0 cI a μ f13 (cpF f14 (bP μ s) (s * 64) (k + 1)) (cpF f15 (bT μ s) (s * 64) (k + 1)) (lvD (sT μ s) ((ly μ s k).2.2.1) ((ly μ s k).1)) (iU ((ly μ s k).2.2.2) (μ 9 (s * 8 + ((ly μ s k).1))) (((ly μ s k).2.2.2) (μ 9 (s * 8 + ((ly μ s k).1))) + 1))) M w hA hl (k_leaveEntry l D cI cZ cJ a μ f13 (cpF f14 (bP μ s) (s * 64) (k + 1)) (cpF f15 (bT μ s) (s * 64) (k + 1)) ((ly μ s k).2.2.1) (iU ((ly μ s k).2.2.2) (μ 9 (s * 8 + ((ly μ s k).1))) (((ly μ s k).2.2.2) (μ 9 (s * 8 + ((ly μ s k).1))) + 1)) s ((ly μ s k).1) (fun x => by have h9 : 0 ≤ (ly μ s k).2.2.1 x ∧ (ly μ s k).2.2.1 x ≤ k := hok.2.2.1 x; omega) (by omega)) gX5_layBars_X5_leaveEntry rfl ⟨rfl, rfl, by decide, by decide⟩ ⟨Nat.zero_le _, Nat.zero_le _⟩ 2 ⟨rfl, by decide +kernel⟩ rfl [true, true, true, true, true, true, true, true, true, true, true, true, true, true, true, true, true, true, true, true, true] rfl rfl 0 rfl rfl rfl (Nat.le_of_ble_eq_true rfl) rfl dX5_layBars_78 (fun H locs w => ?_)
            refine q_isn (lv' := [(3, .int (iI (lvE (sT μ s) (sG μ s) ((ly μ s k).2.2.1) ((ly μ s k).1)))), (4, .int (iI 0)), (2, .int (iI (k + 1))), (0, .ref (a 2)), (1, .int (iI s))]) M dX5_layBars_81 rfl hl (by decide) rfl (fun ls hl => ?_)
            refine q_go (tgt := 23) M dX5_layBars_82 (by decide) ?_
            have es : ly μ s (k + 1) = (lvE (sT μ s) (sG μ s) ((ly μ s k).2.2.1) ((ly μ s k).1), 0, lvD (sT μ s) ((ly μ s k).2.2.1) ((ly μ s k).1), iU ((ly μ s k).2.2.2) (μ 9 (s * 8 + ((ly μ s k).1))) (((ly μ s k).2.2.2) (μ 9 (s * 8 + ((ly μ s k).1))) + 1)) := (lay_s _ _ _ _ hk.1).trans (if_pos (show (μ 10 (s * 8 + (ly μ s k).1) ≤ (ly μ s k).2.1 + 1) by omega))
            have w : wW D A zs.heap (WSn0 cI a μ f13 (cpF f14 (bP μ s) (s * 64) (k + 1)) (cpF f15 (bT μ s) (s * 64) (k + 1)) ((ly μ s (k + 1)).2.2.1) ((ly μ s (k + 1)).2.2.2)) H locs := by rw [es]; exact w
            have hl : lv_has ls 5 [(3, .int (iI ((ly μ s (k + 1)).1))), (4, .int (iI ((ly μ s (k + 1)).2.1))), (2, .int (iI (k + 1))), (0, .ref (a 2)), (1, .int (iI s))] := by rw [es]; exact hl
            exact ih23 (k + 1) (by omega) (lsOK_s hS hk.1 hok c38) (by omega) _ _ _ w (lv_sub hl [3, 4, 2, 0, 1] rfl)
  have e0 : ly μ s 0 = (0, 0, fun _ => 0, fun _ => 0) := lay_0 _ _ _ _
  have w : wW D A zs.heap (WSn0 cI a μ f13 (cpF f14 (bP μ s) (s * 64) 0) (cpF f15 (bT μ s) (s * 64) 0) ((ly μ s 0).2.2.1) ((ly μ s 0).2.2.2)) H locs := by rw [cpF_0, cpF_0, e0]; exact w
  have hl : lv_has ls 5 [(4, .int (iI ((ly μ s 0).2.1))), (3, .int (iI ((ly μ s 0).1))), (2, .int (iI 0)), (0, .ref (a 2)), (1, .int (iI s))] := by rw [e0]; exact hl
  exact lp23 65 0 (by omega) (lsOK_0 hS) (by omega) _ _ _ w (lv_sub hl [3, 4, 2, 1, 0] rfl)

set_option maxHeartbeats 4000000 in
set_option maxRecDepth 100000 in
/-- Songs.append -/
theorem k_append (l : Launch) (D : va_G) (cI cZ cJ : ClassId) (a : Nat → Nat) (μ : Nat → Int → Int) (f13 f14 f15 f16 f17 : Int → Int) (s p r : Int) (hc : (0 ≤ s ∧ s < 6) ∧ 0 ≤ μ 8 s ∧ μ 8 s < 8) (hS : SDs (mset (mset (mset μ 8 (iU (μ 8) s (μ 8 s + 1))) 9 (iU (μ 9) (s * 8 + μ 8 s) p)) 10 (iU (μ 10) (s * 8 + μ 8 s) r)) s) : Ci l D (tY cI cZ cJ) yX5_append wsX5_append rmX5_append [.ref (a 2), .int (iI s), .int (iI p), .int (iI r)] (WSn0 cI a μ f13 f14 f15 f16 f17) (μ 8 s) (WSn0 cI a (mset (mset (mset μ 8 (iU (μ 8) s (μ 8 s + 1))) 9 (iU (μ 9) (s * 8 + μ 8 s) p)) 10 (iU (μ 10) (s * 8 + μ 8 s) r)) (iU f13 s (lBs (mset (mset (mset μ 8 (iU (μ 8) s (μ 8 s + 1))) 9 (iU (μ 9) (s * 8 + μ 8 s) p)) 10 (iU (μ 10) (s * 8 + μ 8 s) r)) s)) (cpF f14 (bP (mset (mset (mset μ 8 (iU (μ 8) s (μ 8 s + 1))) 9 (iU (μ 9) (s * 8 + μ 8 s) p)) 10 (iU (μ 10) (s * 8 + μ 8 s) r)) s) (s * 64) (lBs (mset (mset (mset μ 8 (iU (μ 8) s (μ 8 s + 1))) 9 (iU (μ 9) (s * 8 + μ 8 s) p)) 10 (iU (μ 10) (s * 8 + μ 8 s) r)) s)) (cpF f15 (bT (mset (mset (mset μ 8 (iU (μ 8) s (μ 8 s + 1))) 9 (iU (μ 9) (s * 8 + μ 8 s) p)) 10 (iU (μ 10) (s * 8 + μ 8 s) r)) s) (s * 64) (lBs (mset (mset (mset μ 8 (iU (μ 8) s (μ 8 s + 1))) 9 (iU (μ 9) (s * 8 + μ 8 s) p)) 10 (iU (μ 10) (s * 8 + μ 8 s) r)) s)) ((ly (mset (mset (mset μ 8 (iU (μ 8) s (μ 8 s + 1))) 9 (iU (μ 9) (s * 8 + μ 8 s) p)) 10 (iU (μ 10) (s * 8 + μ 8 s) r)) s (lBs (mset (mset (mset μ 8 (iU (μ 8) s (μ 8 s + 1))) 9 (iU (μ 9) (s * 8 + μ 8 s) p)) 10 (iU (μ 10) (s * 8 + μ 8 s) r)) s)).2.2.1) ((ly (mset (mset (mset μ 8 (iU (μ 8) s (μ 8 s + 1))) 9 (iU (μ 9) (s * 8 + μ 8 s) p)) 10 (iU (μ 10) (s * 8 + μ 8 s) r)) s (lBs (mset (mset (mset μ 8 (iU (μ 8) s (μ 8 s + 1))) 9 (iU (μ 9) (s * 8 + μ 8 s) p)) 10 (iU (μ 10) (s * 8 + μ 8 s) r)) s)).2.2.2)) := by
  refine qi_of (by decide +kernel) rfl (Nat.le_of_ble_eq_true rfl) ?_
  intro zp ze zs zm zargs zbelow zmeth zc A Q ls M hA w hl kret
  have hl : lv_has ls 5 [(0, .ref (a 2)), (1, .int (iI s)), (2, .int (iI p)), (3, .int (iI r))] := hl
  have in5 : ∀ w ∈ u_ws RX5 TX5 11, w ∈ wsX5_append := by decide +kernel
  refine q_aln M dX5_append_0 (lv_at hl 0 rfl) ?_
  refine q_get (v := .ref (a 26)) M w in5 0 1 rfl rfl (by decide) (by decide +kernel) rfl rfl dX5_append_1 ?_
  refine q_iln M dX5_append_4 (lv_at hl 1 rfl) ?_
  refine qc_iV (As := [.int (iI s)]) (rest := []) (wc := WRow cI (a 26) (a 27) 6 (μ 8)) (wc2 := WRow cI (a 26) (a 27) 6 (μ 8)) (ws2 := WSn0 cI a μ f13 f14 f15 f16 f17) M w hA hl (k_get l D cI cZ cJ _ _ _ _ s (by omega)) gX5_append_X3_get rfl ⟨rfl, rfl, by decide, by decide⟩ ⟨Nat.zero_le _, Nat.zero_le _⟩ 1 ⟨rfl, by decide +kernel⟩ rfl [false, true, true] rfl rfl 1 rfl rfl rfl (Nat.le_of_ble_eq_true rfl) rfl dX5_append_5 (fun H locs w => ?_)
  refine q_is (lv' := [(4, .int (iI ((μ 8) s))), (0, .ref (a 2)), (1, .int (iI s)), (2, .int (iI p)), (3, .int (iI r))]) M dX5_append_8 hl (by decide) rfl (fun ls hl => ?_)
  refine q_aln M dX5_append_10 (lv_at hl 1 rfl) ?_
  refine q_get (v := .ref (a 28)) M w in5 0 2 rfl rfl (by decide) (by decide +kernel) rfl rfl dX5_append_11 ?_
  refine q_iln M dX5_append_14 (lv_at hl 2 rfl) ?_
  refine q_bp M dX5_append_15 (by decide +kernel) ?_
  refine q_mul M dX5_append_17 ?_
  refine q_il M dX5_append_18 (lv_at hl 0 rfl) ?_
  refine q_add M dX5_append_20 ?_
  refine q_iln M dX5_append_21 (lv_at hl 3 rfl) ?_
  refine qc_iV (As := [.int (iI ((s * 8) + ((μ 8) s))), .int (iI p)]) (rest := []) (wc := WRow cI (a 28) (a 29) 48 (μ 9)) (wc2 := WRow cI (a 28) (a 29) 48 (iU (μ 9) ((s * 8) + ((μ 8) s)) p)) (ws2 := WSn0 cI a (mset μ 9 (iU (μ 9) ((s * 8) + ((μ 8) s)) p)) f13 f14 f15 f16 f17) M w hA hl (k_replace l D cI cZ cJ _ _ _ _ ((s * 8) + ((μ 8) s)) p (by omega)) gX5_append_X3_replace rfl ⟨rfl, rfl, by decide, by decide⟩ ⟨Nat.zero_le _, Nat.zero_le _⟩ 2 ⟨rfl, by decide +kernel⟩ rfl [false, false, false, true, true] rfl rfl 3 rfl rfl rfl (Nat.le_of_ble_eq_true rfl) rfl dX5_append_22 (fun H locs w => ?_)
  refine q_pop M dX5_append_25 rfl ?_
  refine q_aln M dX5_append_26 (lv_at hl 1 rfl) ?_
  refine q_get (v := .ref (a 30)) M w in5 0 3 rfl rfl (by decide) (by decide +kernel) rfl rfl dX5_append_27 ?_
  refine q_iln M dX5_append_30 (lv_at hl 2 rfl) ?_
  refine q_bp M dX5_append_31 (by decide +kernel) ?_
  refine q_mul M dX5_append_33 ?_
  refine q_il M dX5_append_34 (lv_at hl 0 rfl) ?_
  refine q_add M dX5_append_36 ?_
  refine q_iln M dX5_append_37 (lv_at hl 4 rfl) ?_
  refine qc_iV (As := [.int (iI ((s * 8) + ((μ 8) s))), .int (iI r)]) (rest := []) (wc := WRow cI (a 30) (a 31) 48 (μ 10)) (wc2 := WRow cI (a 30) (a 31) 48 (iU (μ 10) ((s * 8) + ((μ 8) s)) r)) (ws2 := WSn0 cI a (mset (mset μ 9 (iU (μ 9) ((s * 8) + ((μ 8) s)) p)) 10 (iU (μ 10) ((s * 8) + ((μ 8) s)) r)) f13 f14 f15 f16 f17) M w hA hl (k_replace l D cI cZ cJ _ _ _ _ ((s * 8) + ((μ 8) s)) r (by omega)) gX5_append_X3_replace rfl ⟨rfl, rfl, by decide, by decide⟩ ⟨Nat.zero_le _, Nat.zero_le _⟩ 2 ⟨rfl, by decide +kernel⟩ rfl [false, false, false, false, false, true, true] rfl rfl 5 rfl rfl rfl (Nat.le_of_ble_eq_true rfl) rfl dX5_append_38 (fun H locs w => ?_)
  refine q_pop M dX5_append_41 rfl ?_
  refine q_aln M dX5_append_42 (lv_at hl 1 rfl) ?_
  refine q_get (v := .ref (a 26)) M w in5 0 1 rfl rfl (by decide) (by decide +kernel) rfl rfl dX5_append_43 ?_
  refine q_iln M dX5_append_46 (lv_at hl 2 rfl) ?_
  refine q_il M dX5_append_47 (lv_at hl 0 rfl) ?_
  refine q_ic M dX5_append_49 ?_
  refine q_add M dX5_append_50 ?_
  refine qc_iV (As := [.int (iI s), .int (iI (((μ 8) s) + 1))]) (rest := []) (wc := WRow cI (a 26) (a 27) 6 (μ 8)) (wc2 := WRow cI (a 26) (a 27) 6 (iU (μ 8) s (((μ 8) s) + 1))) (ws2 := WSn0 cI a (mset (mset (mset μ 8 (iU (μ 8) s (((μ 8) s) + 1))) 9 (iU (μ 9) ((s * 8) + ((μ 8) s)) p)) 10 (iU (μ 10) ((s * 8) + ((μ 8) s)) r)) f13 f14 f15 f16 f17) M w hA hl (k_replace l D cI cZ cJ _ _ _ _ s (((μ 8) s) + 1) (by omega)) gX5_append_X3_replace rfl ⟨rfl, rfl, by decide, by decide⟩ ⟨Nat.zero_le _, Nat.zero_le _⟩ 2 ⟨rfl, by decide +kernel⟩ rfl [false, true, true] rfl rfl 1 rfl rfl rfl (Nat.le_of_ble_eq_true rfl) rfl dX5_append_51 (fun H locs w => ?_)
  refine q_pop M dX5_append_54 rfl ?_
  refine q_aln M dX5_append_55 (lv_at hl 1 rfl) ?_
  refine q_iln M dX5_append_56 (lv_at hl 2 rfl) ?_
  refine qc_vV (As := [.int (iI s)]) (rest := []) (wc := WSn0 cI a (mset (mset (mset μ 8 (iU (μ 8) s (((μ 8) s) + 1))) 9 (iU (μ 9) ((s * 8) + ((μ 8) s)) p)) 10 (iU (μ 10) ((s * 8) + ((μ 8) s)) r)) f13 f14 f15 f16 f17) (wc2 := WSn0 cI a (mset (mset (mset μ 8 (iU (μ 8) s (((μ 8) s) + 1))) 9 (iU (μ 9) ((s * 8) + ((μ 8) s)) p)) 10 (iU (μ 10) ((s * 8) + ((μ 8) s)) r)) (iU f13 s (lBs (mset (mset (mset μ 8 (iU (μ 8) s (((μ 8) s) + 1))) 9 (iU (μ 9) ((s * 8) + ((μ 8) s)) p)) 10 (iU (μ 10) ((s * 8) + ((μ 8) s)) r)) s)) (cpF f14 (bP (mset (mset (mset μ 8 (iU (μ 8) s (((μ 8) s) + 1))) 9 (iU (μ 9) ((s * 8) + ((μ 8) s)) p)) 10 (iU (μ 10) ((s * 8) + ((μ 8) s)) r)) s) (s * 64) (lBs (mset (mset (mset μ 8 (iU (μ 8) s (((μ 8) s) + 1))) 9 (iU (μ 9) ((s * 8) + ((μ 8) s)) p)) 10 (iU (μ 10) ((s * 8) + ((μ 8) s)) r)) s)) (cpF f15 (bT (mset (mset (mset μ 8 (iU (μ 8) s (((μ 8) s) + 1))) 9 (iU (μ 9) ((s * 8) + ((μ 8) s)) p)) 10 (iU (μ 10) ((s * 8) + ((μ 8) s)) r)) s) (s * 64) (lBs (mset (mset (mset μ 8 (iU (μ 8) s (((μ 8) s) + 1))) 9 (iU (μ 9) ((s * 8) + ((μ 8) s)) p)) 10 (iU (μ 10) ((s * 8) + ((μ 8) s)) r)) s)) ((ly (mset (mset (mset μ 8 (iU (μ 8) s (((μ 8) s) + 1))) 9 (iU (μ 9) ((s * 8) + ((μ 8) s)) p)) 10 (iU (μ 10) ((s * 8) + ((μ 8) s)) r)) s (lBs (mset (mset (mset μ 8 (iU (μ 8) s (((μ 8) s) + 1))) 9 (iU (μ 9) ((s * 8) + ((μ 8) s)) p)) 10 (iU (μ 10) ((s * 8) + ((μ 8) s)) r)) s)).2.2.1) ((ly (mset (mset (mset μ 8 (iU (μ 8) s (((μ 8) s) + 1))) 9 (iU (μ 9) ((s * 8) + ((μ 8) s)) p)) 10 (iU (μ 10) ((s * 8) + ((μ 8) s)) r)) s (lBs (mset (mset (mset μ 8 (iU (μ 8) s (((μ 8) s) + 1))) 9 (iU (μ 9) ((s * 8) + ((μ 8) s)) p)) 10 (iU (μ 10) ((s * 8) + ((μ 8) s)) r)) s)).2.2.2)) (ws2 := WSn0 cI a (mset (mset (mset μ 8 (iU (μ 8) s (((μ 8) s) + 1))) 9 (iU (μ 9) ((s * 8) + ((μ 8) s)) p)) 10 (iU (μ 10) ((s * 8) + ((μ 8) s)) r)) (iU f13 s (lBs (mset (mset (mset μ 8 (iU (μ 8) s (((μ 8) s) + 1))) 9 (iU (μ 9) ((s * 8) + ((μ 8) s)) p)) 10 (iU (μ 10) ((s * 8) + ((μ 8) s)) r)) s)) (cpF f14 (bP (mset (mset (mset μ 8 (iU (μ 8) s (((μ 8) s) + 1))) 9 (iU (μ 9) ((s * 8) + ((μ 8) s)) p)) 10 (iU (μ 10) ((s * 8) + ((μ 8) s)) r)) s) (s * 64) (lBs (mset (mset (mset μ 8 (iU (μ 8) s (((μ 8) s) + 1))) 9 (iU (μ 9) ((s * 8) + ((μ 8) s)) p)) 10 (iU (μ 10) ((s * 8) + ((μ 8) s)) r)) s)) (cpF f15 (bT (mset (mset (mset μ 8 (iU (μ 8) s (((μ 8) s) + 1))) 9 (iU (μ 9) ((s * 8) + ((μ 8) s)) p)) 10 (iU (μ 10) ((s * 8) + ((μ 8) s)) r)) s) (s * 64) (lBs (mset (mset (mset μ 8 (iU (μ 8) s (((μ 8) s) + 1))) 9 (iU (μ 9) ((s * 8) + ((μ 8) s)) p)) 10 (iU (μ 10) ((s * 8) + ((μ 8) s)) r)) s)) ((ly (mset (mset (mset μ 8 (iU (μ 8) s (((μ 8) s) + 1))) 9 (iU (μ 9) ((s * 8) + ((μ 8) s)) p)) 10 (iU (μ 10) ((s * 8) + ((μ 8) s)) r)) s (lBs (mset (mset (mset μ 8 (iU (μ 8) s (((μ 8) s) + 1))) 9 (iU (μ 9) ((s * 8) + ((μ 8) s)) p)) 10 (iU (μ 10) ((s * 8) + ((μ 8) s)) r)) s)).2.2.1) ((ly (mset (mset (mset μ 8 (iU (μ 8) s (((μ 8) s) + 1))) 9 (iU (μ 9) ((s * 8) + ((μ 8) s)) p)) 10 (iU (μ 10) ((s * 8) + ((μ 8) s)) r)) s (lBs (mset (mset (mset μ 8 (iU (μ 8) s (((μ 8) s) + 1))) 9 (iU (μ 9) ((s * 8) + ((μ 8) s)) p)) 10 (iU (μ 10) ((s * 8) + ((μ 8) s)) r)) s)).2.2.2)) M w hA hl (k_layBars l D cI cZ cJ a (mset (mset (mset μ 8 (iU (μ 8) s (((μ 8) s) + 1))) 9 (iU (μ 9) ((s * 8) + ((μ 8) s)) p)) 10 (iU (μ 10) ((s * 8) + ((μ 8) s)) r)) f13 f14 f15 f16 f17 s hS (by omega)) gX5_append_X5_layBars rfl ⟨rfl, rfl, by decide, by decide⟩ ⟨Nat.zero_le _, Nat.zero_le _⟩ 1 ⟨rfl, by decide +kernel⟩ rfl [true, true, true, true, true, true, true, true, true, true, true, true, true, true, true, true, true, true, true, true, true] rfl rfl 0 rfl rfl rfl (Nat.le_of_ble_eq_true rfl) rfl dX5_append_57 (fun H locs w => ?_)
  refine q_il M dX5_append_60 (lv_at hl 0 rfl) ?_
  exact kret _ _ _ _ _ dX5_append_62 w rfl

set_option maxHeartbeats 4000000 in
set_option maxRecDepth 100000 in
/-- Songs.giveJump -/
theorem k_giveJump (l : Launch) (D : va_G) (cI cZ cJ : ClassId) (a : Nat → Nat) (μ : Nat → Int → Int) (f13 f14 f15 f16 f17 : Int → Int) (s e g t : Int) (hc : (0 ≤ s ∧ s < 6) ∧ 0 ≤ e ∧ e < 8) (hS : SDs (mset (mset μ 11 (iU (μ 11) (s * 8 + e) g)) 12 (iU (μ 12) (s * 8 + e) t)) s) : Cv l D (tY cI cZ cJ) yX5_giveJump wsX5_giveJump rmX5_giveJump [.ref (a 2), .int (iI s), .int (iI e), .int (iI g), .int (iI t)] (WSn0 cI a μ f13 f14 f15 f16 f17) (WSn0 cI a (mset (mset μ 11 (iU (μ 11) (s * 8 + e) g)) 12 (iU (μ 12) (s * 8 + e) t)) (iU f13 s (lBs (mset (mset μ 11 (iU (μ 11) (s * 8 + e) g)) 12 (iU (μ 12) (s * 8 + e) t)) s)) (cpF f14 (bP (mset (mset μ 11 (iU (μ 11) (s * 8 + e) g)) 12 (iU (μ 12) (s * 8 + e) t)) s) (s * 64) (lBs (mset (mset μ 11 (iU (μ 11) (s * 8 + e) g)) 12 (iU (μ 12) (s * 8 + e) t)) s)) (cpF f15 (bT (mset (mset μ 11 (iU (μ 11) (s * 8 + e) g)) 12 (iU (μ 12) (s * 8 + e) t)) s) (s * 64) (lBs (mset (mset μ 11 (iU (μ 11) (s * 8 + e) g)) 12 (iU (μ 12) (s * 8 + e) t)) s)) ((ly (mset (mset μ 11 (iU (μ 11) (s * 8 + e) g)) 12 (iU (μ 12) (s * 8 + e) t)) s (lBs (mset (mset μ 11 (iU (μ 11) (s * 8 + e) g)) 12 (iU (μ 12) (s * 8 + e) t)) s)).2.2.1) ((ly (mset (mset μ 11 (iU (μ 11) (s * 8 + e) g)) 12 (iU (μ 12) (s * 8 + e) t)) s (lBs (mset (mset μ 11 (iU (μ 11) (s * 8 + e) g)) 12 (iU (μ 12) (s * 8 + e) t)) s)).2.2.2)) := by
  refine qv_of (by decide +kernel) rfl (Nat.le_of_ble_eq_true rfl) ?_
  intro zp ze zs zm zargs zbelow zmeth zc A Q ls M hA w hl kret
  have hl : lv_has ls 5 [(0, .ref (a 2)), (1, .int (iI s)), (2, .int (iI e)), (3, .int (iI g)), (4, .int (iI t))] := hl
  have in5 : ∀ w ∈ u_ws RX5 TX5 11, w ∈ wsX5_giveJump := by decide +kernel
  refine q_aln M dX5_giveJump_0 (lv_at hl 0 rfl) ?_
  refine q_get (v := .ref (a 32)) M w in5 0 4 rfl rfl (by decide) (by decide +kernel) rfl rfl dX5_giveJump_1 ?_
  refine q_iln M dX5_giveJump_4 (lv_at hl 1 rfl) ?_
  refine q_bp M dX5_giveJump_5 (by decide +kernel) ?_
  refine q_mul M dX5_giveJump_7 ?_
  refine q_iln M dX5_giveJump_8 (lv_at hl 2 rfl) ?_
  refine q_add M dX5_giveJump_9 ?_
  refine q_iln M dX5_giveJump_10 (lv_at hl 3 rfl) ?_
  refine qc_iV (As := [.int (iI ((s * 8) + e)), .int (iI g)]) (rest := []) (wc := WRow cI (a 32) (a 33) 48 (μ 11)) (wc2 := WRow cI (a 32) (a 33) 48 (iU (μ 11) ((s * 8) + e) g)) (ws2 := WSn0 cI a (mset μ 11 (iU (μ 11) ((s * 8) + e) g)) f13 f14 f15 f16 f17) M w hA hl (k_replace l D cI cZ cJ _ _ _ _ ((s * 8) + e) g (by omega)) gX5_giveJump_X3_replace rfl ⟨rfl, rfl, by decide, by decide⟩ ⟨Nat.zero_le _, Nat.zero_le _⟩ 2 ⟨rfl, by decide +kernel⟩ rfl [false, false, false, false, false, false, false, true, true] rfl rfl 7 rfl rfl rfl (Nat.le_of_ble_eq_true rfl) rfl dX5_giveJump_11 (fun H locs w => ?_)
  refine q_pop M dX5_giveJump_14 rfl ?_
  refine q_aln M dX5_giveJump_15 (lv_at hl 0 rfl) ?_
  refine q_get (v := .ref (a 34)) M w in5 0 5 rfl rfl (by decide) (by decide +kernel) rfl rfl dX5_giveJump_16 ?_
  refine q_iln M dX5_giveJump_19 (lv_at hl 1 rfl) ?_
  refine q_bp M dX5_giveJump_20 (by decide +kernel) ?_
  refine q_mul M dX5_giveJump_22 ?_
  refine q_iln M dX5_giveJump_23 (lv_at hl 2 rfl) ?_
  refine q_add M dX5_giveJump_24 ?_
  refine q_il M dX5_giveJump_25 (lv_at hl 4 rfl) ?_
  refine qc_iV (As := [.int (iI ((s * 8) + e)), .int (iI t)]) (rest := []) (wc := WRow cI (a 34) (a 35) 48 (μ 12)) (wc2 := WRow cI (a 34) (a 35) 48 (iU (μ 12) ((s * 8) + e) t)) (ws2 := WSn0 cI a (mset (mset μ 11 (iU (μ 11) ((s * 8) + e) g)) 12 (iU (μ 12) ((s * 8) + e) t)) f13 f14 f15 f16 f17) M w hA hl (k_replace l D cI cZ cJ _ _ _ _ ((s * 8) + e) t (by omega)) gX5_giveJump_X3_replace rfl ⟨rfl, rfl, by decide, by decide⟩ ⟨Nat.zero_le _, Nat.zero_le _⟩ 2 ⟨rfl, by decide +kernel⟩ rfl [false, false, false, false, false, false, false, false, false, true, true] rfl rfl 9 rfl rfl rfl (Nat.le_of_ble_eq_true rfl) rfl dX5_giveJump_27 (fun H locs w => ?_)
  refine q_pop M dX5_giveJump_30 rfl ?_
  refine q_aln M dX5_giveJump_31 (lv_at hl 0 rfl) ?_
  refine q_iln M dX5_giveJump_32 (lv_at hl 1 rfl) ?_
  refine qc_vV (As := [.int (iI s)]) (rest := []) (wc := WSn0 cI a (mset (mset μ 11 (iU (μ 11) ((s * 8) + e) g)) 12 (iU (μ 12) ((s * 8) + e) t)) f13 f14 f15 f16 f17) (wc2 := WSn0 cI a (mset (mset μ 11 (iU (μ 11) ((s * 8) + e) g)) 12 (iU (μ 12) ((s * 8) + e) t)) (iU f13 s (lBs (mset (mset μ 11 (iU (μ 11) ((s * 8) + e) g)) 12 (iU (μ 12) ((s * 8) + e) t)) s)) (cpF f14 (bP (mset (mset μ 11 (iU (μ 11) ((s * 8) + e) g)) 12 (iU (μ 12) ((s * 8) + e) t)) s) (s * 64) (lBs (mset (mset μ 11 (iU (μ 11) ((s * 8) + e) g)) 12 (iU (μ 12) ((s * 8) + e) t)) s)) (cpF f15 (bT (mset (mset μ 11 (iU (μ 11) ((s * 8) + e) g)) 12 (iU (μ 12) ((s * 8) + e) t)) s) (s * 64) (lBs (mset (mset μ 11 (iU (μ 11) ((s * 8) + e) g)) 12 (iU (μ 12) ((s * 8) + e) t)) s)) ((ly (mset (mset μ 11 (iU (μ 11) ((s * 8) + e) g)) 12 (iU (μ 12) ((s * 8) + e) t)) s (lBs (mset (mset μ 11 (iU (μ 11) ((s * 8) + e) g)) 12 (iU (μ 12) ((s * 8) + e) t)) s)).2.2.1) ((ly (mset (mset μ 11 (iU (μ 11) ((s * 8) + e) g)) 12 (iU (μ 12) ((s * 8) + e) t)) s (lBs (mset (mset μ 11 (iU (μ 11) ((s * 8) + e) g)) 12 (iU (μ 12) ((s * 8) + e) t)) s)).2.2.2)) (ws2 := WSn0 cI a (mset (mset μ 11 (iU (μ 11) ((s * 8) + e) g)) 12 (iU (μ 12) ((s * 8) + e) t)) (iU f13 s (lBs (mset (mset μ 11 (iU (μ 11) ((s * 8) + e) g)) 12 (iU (μ 12) ((s * 8) + e) t)) s)) (cpF f14 (bP (mset (mset μ 11 (iU (μ 11) ((s * 8) + e) g)) 12 (iU (μ 12) ((s * 8) + e) t)) s) (s * 64) (lBs (mset (mset μ 11 (iU (μ 11) ((s * 8) + e) g)) 12 (iU (μ 12) ((s * 8) + e) t)) s)) (cpF f15 (bT (mset (mset μ 11 (iU (μ 11) ((s * 8) + e) g)) 12 (iU (μ 12) ((s * 8) + e) t)) s) (s * 64) (lBs (mset (mset μ 11 (iU (μ 11) ((s * 8) + e) g)) 12 (iU (μ 12) ((s * 8) + e) t)) s)) ((ly (mset (mset μ 11 (iU (μ 11) ((s * 8) + e) g)) 12 (iU (μ 12) ((s * 8) + e) t)) s (lBs (mset (mset μ 11 (iU (μ 11) ((s * 8) + e) g)) 12 (iU (μ 12) ((s * 8) + e) t)) s)).2.2.1) ((ly (mset (mset μ 11 (iU (μ 11) ((s * 8) + e) g)) 12 (iU (μ 12) ((s * 8) + e) t)) s (lBs (mset (mset μ 11 (iU (μ 11) ((s * 8) + e) g)) 12 (iU (μ 12) ((s * 8) + e) t)) s)).2.2.2)) M w hA hl (k_layBars l D cI cZ cJ a (mset (mset μ 11 (iU (μ 11) ((s * 8) + e) g)) 12 (iU (μ 12) ((s * 8) + e) t)) f13 f14 f15 f16 f17 s hS (by omega)) gX5_giveJump_X5_layBars rfl ⟨rfl, rfl, by decide, by decide⟩ ⟨Nat.zero_le _, Nat.zero_le _⟩ 1 ⟨rfl, by decide +kernel⟩ rfl [true, true, true, true, true, true, true, true, true, true, true, true, true, true, true, true, true, true, true, true, true] rfl rfl 0 rfl rfl rfl (Nat.le_of_ble_eq_true rfl) rfl dX5_giveJump_33 (fun H locs w => ?_)
  exact kret _ _ _ _ dX5_giveJump_36 w
