/-! PATTERNS -/
def itN {σ : Type} (F : Int → σ → σ) (g : σ) : Nat → σ
  | 0 => g
  | n + 1 => F n (itN F g n)
theorem itI_ex : ∃ f : (∀ σ : Type, (Int → σ → σ) → σ → Int → σ), f = fun _ F g i => itN F g i.toNat := ⟨_, rfl⟩
/-- F 0, F 1 .. F (i - 1), one behind the other; sealed, so that nothing unfolds it by itself -/
noncomputable def itI {σ : Type} (F : Int → σ → σ) (g : σ) (i : Int) : σ := Classical.choose itI_ex σ F g i
theorem itI_eq {σ : Type} (F : Int → σ → σ) (g : σ) (i : Int) : itI F g i = itN F g i.toNat := by
  unfold itI
  rw [Classical.choose_spec itI_ex]
theorem itI_0 {σ : Type} (F : Int → σ → σ) (g : σ) : itI F g 0 = g := by rw [itI_eq]; rfl
theorem itI_s {σ : Type} (F : Int → σ → σ) (g : σ) {i : Int} (h : 0 ≤ i) : itI F g (i + 1) = F i (itI F g i) := by
  rw [itI_eq, itI_eq]
  obtain ⟨n, rfl⟩ := Int.eq_ofNat_of_zero_le h
  have e : ((n : Int) + 1).toNat = n + 1 := by omega
  have e2 : ((n : Int)).toNat = n := by omega
  rw [e, e2]
  rfl
theorem itI_ind {σ : Type} {F : Int → σ → σ} {g : σ} (P : Int → σ → Prop) (h0 : P 0 g) (hs : ∀ i x, 0 ≤ i → P i x → P (i + 1) (F i x)) {i : Int} (h : 0 ≤ i) : P i (itI F g i) := by
  obtain ⟨n, rfl⟩ := Int.eq_ofNat_of_zero_le h
  induction n with
  | zero => rw [show ((0 : Nat) : Int) = 0 from rfl, itI_0]; exact h0
  | succ n ih =>
    rw [show ((n + 1 : Nat) : Int) = (n : Int) + 1 from rfl, itI_s F g (by omega)]
    exact hs n _ (by omega) (ih (by omega))
def sm (f : Int → Int) : Nat → Int
  | 0 => 0
  | n + 1 => sm f n + f n
theorem sI_ex : ∃ g : (Int → Int) → Int → Int, g = fun f i => sm f i.toNat := ⟨_, rfl⟩
noncomputable def sI (f : Int → Int) (i : Int) : Int := Classical.choose sI_ex f i
theorem sI_eq (f : Int → Int) (i : Int) : sI f i = sm f i.toNat := by
  unfold sI
  rw [Classical.choose_spec sI_ex]
theorem sI_0 (f : Int → Int) : sI f 0 = 0 := by rw [sI_eq]; rfl
theorem sI_s (f : Int → Int) {i : Int} (h : 0 ≤ i) : sI f (i + 1) = sI f i + f i := by
  rw [sI_eq, sI_eq]
  obtain ⟨n, rfl⟩ := Int.eq_ofNat_of_zero_le h
  have e : ((n : Int) + 1).toNat = n + 1 := by omega
  have e2 : ((n : Int)).toNat = n := by omega
  rw [e, e2]
  rfl
theorem sI_bd (f : Int → Int) {c : Int} (hf : ∀ j, 0 ≤ f j ∧ f j ≤ c) {i : Int} (h : 0 ≤ i) : 0 ≤ sI f i ∧ sI f i ≤ c * i := by
  obtain ⟨n, rfl⟩ := Int.eq_ofNat_of_zero_le h
  induction n with
  | zero => rw [show ((0 : Nat) : Int) = 0 from rfl, sI_0, Int.mul_zero]; omega
  | succ n ih =>
    have h1 := ih (by omega)
    have h2 := hf n
    rw [show ((n + 1 : Nat) : Int) = (n : Int) + 1 from rfl, sI_s f (by omega), Int.mul_add, Int.mul_one]
    omega
/-- what patterns and tunes may hold -/
def IP (μ : Nat → Int → Int) : Prop := (∀ i, -1 ≤ μ 2 i ∧ μ 2 i ≤ 7) ∧ (∀ i, -1 ≤ μ 3 i ∧ μ 3 i ≤ 7) ∧ (∀ i, 0 ≤ μ 4 i ∧ μ 4 i ≤ 6) ∧ (∀ i, 0 ≤ μ 5 i ∧ μ 5 i ≤ 8) ∧ (∀ i, 0 ≤ μ 6 i ∧ μ 6 i ≤ 1) ∧ (∀ i, -12 ≤ μ 7 i ∧ μ 7 i ≤ 12) ∧ (∀ i, -12 ≤ μ 1 i ∧ μ 1 i ≤ 12)
def sA (μ : Nat → Int → Int) (c t s : Int) : Int := if c % 10 = 1 ∧ 12 ≤ s then μ 3 ((c / 10 * 4 + t) * 4 + s - 12) else μ 2 ((c / 10 * 4 + t) * 16 + s)
theorem sA_bd {μ : Nat → Int → Int} (h : IP μ) (c t s : Int) : -1 ≤ sA μ c t s ∧ sA μ c t s ≤ 7 := by
  unfold sA
  split
  · exact h.2.1 _
  · exact h.1 _
def tOf (μ : Nat → Int → Int) (c s : Int) : Int := s * 12 + (if s % 2 = 1 then μ 4 (c / 10) else 0)
theorem tOf_bd {μ : Nat → Int → Int} (h : IP μ) (c s : Int) : s * 12 ≤ tOf μ c s ∧ tOf μ c s ≤ s * 12 + 6 := by
  have := h.2.2.1 (c / 10)
  unfold tOf
  split <;> omega
def sTa (μ : Nat → Int → Int) (c t : Int) : Int := if tOf μ c (t / 12) = t then t / 12 else -1
noncomputable def cSt (μ : Nat → Int → Int) (c s : Int) : Int := sI (fun t => if sA μ c t s = -1 then 0 else 1) 4
theorem cSt_bd (μ : Nat → Int → Int) (c s : Int) : 0 ≤ cSt μ c s ∧ cSt μ c s ≤ 4 := by
  have := sI_bd (fun t => if sA μ c t s = -1 then 0 else 1) (c := 1) (fun j => by split <;> omega) (i := 4) (by omega)
  unfold cSt
  omega
noncomputable def cBs (μ : Nat → Int → Int) (c : Int) : Int := sI (fun s => cSt μ c s) 16
noncomputable def cBt (μ : Nat → Int → Int) (c : Int) : Int := sI (fun t => if sTa μ c t = -1 then 0 else cSt μ c (sTa μ c t)) 192
def cdF (μ : Nat → Int → Int) (p t : Int) : Int := 10 * p + (if 0 < μ 5 p ∧ t % μ 5 p = 0 then 1 else 0)
def tnI (μ : Nat → Int → Int) (c s : Int) : Int := if μ 6 (c / 10) = 1 then μ 7 (c / 10 * 8 + s) else μ 1 s
def cpF (h f : Int → Int) (q i : Int) : Int → Int := fun j => if q ≤ j ∧ j < q + i then f (j - q) else h j
theorem cpF_0 (h f : Int → Int) (q : Int) : cpF h f q 0 = h := by
  funext j
  unfold cpF
  rw [if_neg (by omega)]
theorem cpF_s (h f : Int → Int) (q : Int) {i : Int} (hi : 0 ≤ i) : iU (cpF h f q i) (q + i) (f i) = cpF h f q (i + 1) := by
  funext j
  unfold iU cpF
  by_cases e : j = q + i
  · rw [if_pos e, if_pos (by omega)]
    congr 1
    omega
  · rw [if_neg e]
    by_cases e2 : q ≤ j ∧ j < q + i
    · rw [if_pos e2, if_pos (by omega)]
    · rw [if_neg e2, if_neg (by omega)]
/-- the tunes that a pattern keeps, once it is frozen (b = 1) or thawed -/
def frz (μ : Nat → Int → Int) (p b : Int) : Int → Int := if b = 1 ∧ μ 6 p = 0 then cpF (μ 7) (μ 1) (p * 8) 8 else μ 7

set_option maxHeartbeats 4000000 in
set_option maxRecDepth 100000 in
/-- Patterns.stepIndex -/
theorem k_stepIndex (l : Launch) (D : va_G) (cI cZ cJ : ClassId) (p t s : Int) : Ci l D (tY cI cZ cJ) yX2_stepIndex wsX2_stepIndex rmX2_stepIndex [.int (iI p), .int (iI t), .int (iI s)] ([]) ((p * 4 + t) * 16 + s) ([]) := by
  refine qi_of (by decide +kernel) rfl (Nat.le_of_ble_eq_true rfl) ?_
  intro zp ze zs zm zargs zbelow zmeth zc A Q ls M hA w hl kret
  have hl : lv_has ls 3 [(0, .int (iI p)), (1, .int (iI t)), (2, .int (iI s))] := hl
  refine q_iln M dX2_stepIndex_0 (lv_at hl 0 rfl) ?_
  refine q_ic M dX2_stepIndex_1 ?_
  refine q_mul M dX2_stepIndex_2 ?_
  refine q_iln M dX2_stepIndex_3 (lv_at hl 1 rfl) ?_
  refine q_add M dX2_stepIndex_4 ?_
  refine q_bp M dX2_stepIndex_5 (by decide +kernel) ?_
  refine q_mul M dX2_stepIndex_7 ?_
  refine q_iln M dX2_stepIndex_8 (lv_at hl 2 rfl) ?_
  refine q_add M dX2_stepIndex_9 ?_
  exact kret _ _ _ _ _ dX2_stepIndex_10 w rfl

set_option maxHeartbeats 4000000 in
set_option maxRecDepth 100000 in
/-- Patterns.fillIndex -/
theorem k_fillIndex (l : Launch) (D : va_G) (cI cZ cJ : ClassId) (p t s : Int) : Ci l D (tY cI cZ cJ) yX2_fillIndex wsX2_fillIndex rmX2_fillIndex [.int (iI p), .int (iI t), .int (iI s)] ([]) ((p * 4 + t) * 4 + s - 12) ([]) := by
  refine qi_of (by decide +kernel) rfl (Nat.le_of_ble_eq_true rfl) ?_
  intro zp ze zs zm zargs zbelow zmeth zc A Q ls M hA w hl kret
  have hl : lv_has ls 3 [(0, .int (iI p)), (1, .int (iI t)), (2, .int (iI s))] := hl
  refine q_iln M dX2_fillIndex_0 (lv_at hl 0 rfl) ?_
  refine q_ic M dX2_fillIndex_1 ?_
  refine q_mul M dX2_fillIndex_2 ?_
  refine q_iln M dX2_fillIndex_3 (lv_at hl 1 rfl) ?_
  refine q_add M dX2_fillIndex_4 ?_
  refine q_ic M dX2_fillIndex_5 ?_
  refine q_mul M dX2_fillIndex_6 ?_
  refine q_iln M dX2_fillIndex_7 (lv_at hl 2 rfl) ?_
  refine q_add M dX2_fillIndex_8 ?_
  refine q_bp M dX2_fillIndex_9 (by decide +kernel) ?_
  refine q_sub M dX2_fillIndex_11 ?_
  exact kret _ _ _ _ _ dX2_fillIndex_12 w rfl

set_option maxHeartbeats 4000000 in
set_option maxRecDepth 100000 in
/-- Patterns.sampleAt -/
theorem k_sampleAt (l : Launch) (D : va_G) (cI cZ cJ : ClassId) (a : Nat → Nat) (μ : Nat → Int → Int) (c t s : Int) (hI : IP μ) (hc : (0 ≤ c ∧ c < 120) ∧ (0 ≤ t ∧ t < 4) ∧ 0 ≤ s ∧ s < 16) : Ci l D (tY cI cZ cJ) yX2_sampleAt wsX2_sampleAt rmX2_sampleAt [.ref (a 1), .int (iI c), .int (iI t), .int (iI s)] (WPat cI a μ) (sA μ c t s) (WPat cI a μ) := by
  have h2 := hI.1
  have h3 := hI.2.1
  have h4 := hI.2.2.1
  have h5 := hI.2.2.2.1
  have h6 := hI.2.2.2.2.1
  have h7 := hI.2.2.2.2.2.1
  have h1 := hI.2.2.2.2.2.2
  refine qi_of (by decide +kernel) rfl (Nat.le_of_ble_eq_true rfl) ?_
  intro zp ze zs zm zargs zbelow zmeth zc A Q ls M hA w hl kret
  have hl : lv_has ls 6 [(0, .ref (a 1)), (1, .int (iI c)), (2, .int (iI t)), (3, .int (iI s))] := hl
  have in2 : ∀ w ∈ u_ws RX2 TX2 6, w ∈ wsX2_sampleAt := by decide +kernel
  refine q_iln M dX2_sampleAt_0 (lv_at hl 1 rfl) ?_
  refine q_bp M dX2_sampleAt_1 (by decide +kernel) ?_
  refine q_div M dX2_sampleAt_3 (by omega) ?_
  refine q_is (lv' := [(4, .int (iI (c / 10))), (0, .ref (a 1)), (1, .int (iI c)), (2, .int (iI t)), (3, .int (iI s))]) M dX2_sampleAt_4 hl (by decide) rfl (fun ls hl => ?_)
  refine q_iln M dX2_sampleAt_6 (lv_at hl 2 rfl) ?_
  refine q_bp M dX2_sampleAt_7 (by decide +kernel) ?_
  refine q_rem M dX2_sampleAt_9 (by omega) ?_
  refine q_ic M dX2_sampleAt_10 ?_
  refine q_icmp_ne (tgt := 24) M dX2_sampleAt_11 (by decide) (by omega) (fun c11 => ?_) (fun c11 => ?_)
  · refine q_ic M dX2_sampleAt_24 ?_
    refine q_is (lv' := [(5, .int (iI 0)), (4, .int (iI (c / 10))), (0, .ref (a 1)), (1, .int (iI c)), (2, .int (iI t)), (3, .int (iI s))]) M dX2_sampleAt_25 hl (by decide) rfl (fun ls hl => ?_)
    refine q_il M dX2_sampleAt_27 (lv_at hl 0 rfl) ?_
    refine q_if_eq (tgt := 49) M dX2_sampleAt_29 (by decide) (by omega) (fun c29 => ?_) (fun c29 => ?_)
    · refine q_aln M dX2_sampleAt_49 (lv_at hl 2 rfl) ?_
      refine q_get (v := .ref (a 14)) M w in2 2 0 rfl rfl (by decide) (by decide +kernel) rfl rfl dX2_sampleAt_50 ?_
      refine q_il M dX2_sampleAt_53 (lv_at hl 1 rfl) ?_
      refine q_iln M dX2_sampleAt_55 (lv_at hl 4 rfl) ?_
      refine q_iln M dX2_sampleAt_56 (lv_at hl 5 rfl) ?_
      refine qc_iS (As := [.int (iI (c / 10)), .int (iI t), .int (iI s)]) (rest := [.ref (a 14)]) (wc := []) (wc2 := []) (ws2 := WPat cI a μ) M w hA hl (k_stepIndex l D cI cZ cJ (c / 10) t s) gX2_sampleAt_X2_stepIndex rfl ⟨rfl, rfl, by decide, by decide⟩ ⟨Nat.zero_le _, Nat.zero_le _⟩ 3 (by decide +kernel) rfl [] rfl rfl rfl (Nat.le_of_ble_eq_true rfl) rfl dX2_sampleAt_57 (fun H locs w => ?_)
      refine qc_iV (As := [.int (iI (((c / 10) * 4 + t) * 16 + s))]) (rest := []) (wc := WRow cI (a 14) (a 15) 768 (μ 2)) (wc2 := WRow cI (a 14) (a 15) 768 (μ 2)) (ws2 := WPat cI a μ) M w hA hl (k_get l D cI cZ cJ _ _ _ _ (((c / 10) * 4 + t) * 16 + s) (by omega)) gX2_sampleAt_X3_get rfl ⟨rfl, rfl, by decide, by decide⟩ ⟨Nat.zero_le _, Nat.zero_le _⟩ 1 ⟨rfl, by decide +kernel⟩ rfl [false, false, false, true, true] rfl rfl 3 rfl rfl rfl (Nat.le_of_ble_eq_true rfl) rfl dX2_sampleAt_60 (fun H locs w => ?_)
      exact kret _ _ _ _ _ dX2_sampleAt_63 w (by unfold sA; split <;> first | rfl | omega)
    · exfalso; omega
  · refine q_iln M dX2_sampleAt_14 (lv_at hl 4 rfl) ?_
    refine q_bp M dX2_sampleAt_15 (by decide +kernel) ?_
    refine q_icmp_lt (tgt := 24) M dX2_sampleAt_17 (by decide) (by omega) (fun c17 => ?_) (fun c17 => ?_)
    · refine q_ic M dX2_sampleAt_24 ?_
      refine q_is (lv' := [(5, .int (iI 0)), (4, .int (iI (c / 10))), (0, .ref (a 1)), (1, .int (iI c)), (2, .int (iI t)), (3, .int (iI s))]) M dX2_sampleAt_25 hl (by decide) rfl (fun ls hl => ?_)
      refine q_il M dX2_sampleAt_27 (lv_at hl 0 rfl) ?_
      refine q_if_eq (tgt := 49) M dX2_sampleAt_29 (by decide) (by omega) (fun c29 => ?_) (fun c29 => ?_)
      · refine q_aln M dX2_sampleAt_49 (lv_at hl 2 rfl) ?_
        refine q_get (v := .ref (a 14)) M w in2 2 0 rfl rfl (by decide) (by decide +kernel) rfl rfl dX2_sampleAt_50 ?_
        refine q_il M dX2_sampleAt_53 (lv_at hl 1 rfl) ?_
        refine q_iln M dX2_sampleAt_55 (lv_at hl 4 rfl) ?_
        refine q_iln M dX2_sampleAt_56 (lv_at hl 5 rfl) ?_
        refine qc_iS (As := [.int (iI (c / 10)), .int (iI t), .int (iI s)]) (rest := [.ref (a 14)]) (wc := []) (wc2 := []) (ws2 := WPat cI a μ) M w hA hl (k_stepIndex l D cI cZ cJ (c / 10) t s) gX2_sampleAt_X2_stepIndex rfl ⟨rfl, rfl, by decide, by decide⟩ ⟨Nat.zero_le _, Nat.zero_le _⟩ 3 (by decide +kernel) rfl [] rfl rfl rfl (Nat.le_of_ble_eq_true rfl) rfl dX2_sampleAt_57 (fun H locs w => ?_)
        refine qc_iV (As := [.int (iI (((c / 10) * 4 + t) * 16 + s))]) (rest := []) (wc := WRow cI (a 14) (a 15) 768 (μ 2)) (wc2 := WRow cI (a 14) (a 15) 768 (μ 2)) (ws2 := WPat cI a μ) M w hA hl (k_get l D cI cZ cJ _ _ _ _ (((c / 10) * 4 + t) * 16 + s) (by omega)) gX2_sampleAt_X3_get rfl ⟨rfl, rfl, by decide, by decide⟩ ⟨Nat.zero_le _, Nat.zero_le _⟩ 1 ⟨rfl, by decide +kernel⟩ rfl [false, false, false, true, true] rfl rfl 3 rfl rfl rfl (Nat.le_of_ble_eq_true rfl) rfl dX2_sampleAt_60 (fun H locs w => ?_)
        exact kret _ _ _ _ _ dX2_sampleAt_63 w (by unfold sA; split <;> first | rfl | omega)
      · exfalso; omega
    · refine q_ic M dX2_sampleAt_20 ?_
      refine q_go (tgt := 25) M dX2_sampleAt_21 (by decide) ?_
      refine q_is (lv' := [(5, .int (iI 1)), (4, .int (iI (c / 10))), (0, .ref (a 1)), (1, .int (iI c)), (2, .int (iI t)), (3, .int (iI s))]) M dX2_sampleAt_25 hl (by decide) rfl (fun ls hl => ?_)
      refine q_il M dX2_sampleAt_27 (lv_at hl 0 rfl) ?_
      refine q_if_eq (tgt := 49) M dX2_sampleAt_29 (by decide) (by omega) (fun c29 => ?_) (fun c29 => ?_)
      · exfalso; omega
      · refine q_aln M dX2_sampleAt_32 (lv_at hl 2 rfl) ?_
        refine q_get (v := .ref (a 16)) M w in2 2 1 rfl rfl (by decide) (by decide +kernel) rfl rfl dX2_sampleAt_33 ?_
        refine q_il M dX2_sampleAt_36 (lv_at hl 1 rfl) ?_
        refine q_iln M dX2_sampleAt_38 (lv_at hl 4 rfl) ?_
        refine q_iln M dX2_sampleAt_39 (lv_at hl 5 rfl) ?_
        refine qc_iS (As := [.int (iI (c / 10)), .int (iI t), .int (iI s)]) (rest := [.ref (a 16)]) (wc := []) (wc2 := []) (ws2 := WPat cI a μ) M w hA hl (k_fillIndex l D cI cZ cJ (c / 10) t s) gX2_sampleAt_X2_fillIndex rfl ⟨rfl, rfl, by decide, by decide⟩ ⟨Nat.zero_le _, Nat.zero_le _⟩ 3 (by decide +kernel) rfl [] rfl rfl rfl (Nat.le_of_ble_eq_true rfl) rfl dX2_sampleAt_40 (fun H locs w => ?_)
        refine qc_iV (As := [.int (iI (((c / 10) * 4 + t) * 4 + s - 12))]) (rest := []) (wc := WRow cI (a 16) (a 17) 192 (μ 3)) (wc2 := WRow cI (a 16) (a 17) 192 (μ 3)) (ws2 := WPat cI a μ) M w hA hl (k_get l D cI cZ cJ _ _ _ _ (((c / 10) * 4 + t) * 4 + s - 12) (by omega)) gX2_sampleAt_X3_get rfl ⟨rfl, rfl, by decide, by decide⟩ ⟨Nat.zero_le _, Nat.zero_le _⟩ 1 ⟨rfl, by decide +kernel⟩ rfl [false, false, false, false, false, true, true] rfl rfl 5 rfl rfl rfl (Nat.le_of_ble_eq_true rfl) rfl dX2_sampleAt_43 (fun H locs w => ?_)
        refine q_go (tgt := 63) M dX2_sampleAt_46 (by decide) ?_
        exact kret _ _ _ _ _ dX2_sampleAt_63 w (by unfold sA; split <;> first | rfl | omega)

set_option maxHeartbeats 4000000 in
set_option maxRecDepth 100000 in
/-- Patterns.tickOf -/
theorem k_tickOf (l : Launch) (D : va_G) (cI cZ cJ : ClassId) (a : Nat → Nat) (μ : Nat → Int → Int) (c s : Int) (hI : IP μ) (hc : (0 ≤ c ∧ c < 120) ∧ 0 ≤ s ∧ s < 16) : Ci l D (tY cI cZ cJ) yX2_tickOf wsX2_tickOf rmX2_tickOf [.ref (a 1), .int (iI c), .int (iI s)] (WPat cI a μ) (tOf μ c s) (WPat cI a μ) := by
  have h2 := hI.1
  have h3 := hI.2.1
  have h4 := hI.2.2.1
  have h5 := hI.2.2.2.1
  have h6 := hI.2.2.2.2.1
  have h7 := hI.2.2.2.2.2.1
  have h1 := hI.2.2.2.2.2.2
  refine qi_of (by decide +kernel) rfl (Nat.le_of_ble_eq_true rfl) ?_
  intro zp ze zs zm zargs zbelow zmeth zc A Q ls M hA w hl kret
  have hl : lv_has ls 4 [(0, .ref (a 1)), (1, .int (iI c)), (2, .int (iI s))] := hl
  have in2 : ∀ w ∈ u_ws RX2 TX2 6, w ∈ wsX2_tickOf := by decide +kernel
  refine q_iln M dX2_tickOf_0 (lv_at hl 2 rfl) ?_
  refine q_ic M dX2_tickOf_1 ?_
  refine q_rem M dX2_tickOf_2 (by omega) ?_
  refine q_ic M dX2_tickOf_3 ?_
  refine q_icmp_ne (tgt := 21) M dX2_tickOf_4 (by decide) (by omega) (fun c4 => ?_) (fun c4 => ?_)
  · refine q_ic M dX2_tickOf_21 ?_
    refine q_isn (lv' := [(3, .int (iI 0)), (0, .ref (a 1)), (1, .int (iI c)), (2, .int (iI s))]) M dX2_tickOf_22 rfl hl (by decide) rfl (fun ls hl => ?_)
    refine q_iln M dX2_tickOf_23 (lv_at hl 3 rfl) ?_
    refine q_bp M dX2_tickOf_24 (by decide +kernel) ?_
    refine q_mul M dX2_tickOf_26 ?_
    refine q_iln M dX2_tickOf_27 (lv_at hl 0 rfl) ?_
    refine q_add M dX2_tickOf_28 ?_
    exact kret _ _ _ _ _ dX2_tickOf_29 w (by unfold tOf; split <;> omega)
  · refine q_aln M dX2_tickOf_7 (lv_at hl 0 rfl) ?_
    refine q_get (v := .ref (a 18)) M w in2 2 2 rfl rfl (by decide) (by decide +kernel) rfl rfl dX2_tickOf_8 ?_
    refine q_iln M dX2_tickOf_11 (lv_at hl 1 rfl) ?_
    refine q_bp M dX2_tickOf_12 (by decide +kernel) ?_
    refine q_div M dX2_tickOf_14 (by omega) ?_
    refine qc_iV (As := [.int (iI (c / 10))]) (rest := []) (wc := WRow cI (a 18) (a 19) 12 (μ 4)) (wc2 := WRow cI (a 18) (a 19) 12 (μ 4)) (ws2 := WPat cI a μ) M w hA hl (k_get l D cI cZ cJ _ _ _ _ (c / 10) (by omega)) gX2_tickOf_X3_get rfl ⟨rfl, rfl, by decide, by decide⟩ ⟨Nat.zero_le _, Nat.zero_le _⟩ 1 ⟨rfl, by decide +kernel⟩ rfl [false, false, false, false, false, false, false, true, true] rfl rfl 7 rfl rfl rfl (Nat.le_of_ble_eq_true rfl) rfl dX2_tickOf_15 (fun H locs w => ?_)
    refine q_go (tgt := 22) M dX2_tickOf_18 (by decide) ?_
    refine q_isn (lv' := [(3, .int (iI ((μ 4) (c / 10)))), (0, .ref (a 1)), (1, .int (iI c)), (2, .int (iI s))]) M dX2_tickOf_22 rfl hl (by decide) rfl (fun ls hl => ?_)
    refine q_iln M dX2_tickOf_23 (lv_at hl 3 rfl) ?_
    refine q_bp M dX2_tickOf_24 (by decide +kernel) ?_
    refine q_mul M dX2_tickOf_26 ?_
    refine q_iln M dX2_tickOf_27 (lv_at hl 0 rfl) ?_
    refine q_add M dX2_tickOf_28 ?_
    exact kret _ _ _ _ _ dX2_tickOf_29 w (by unfold tOf; split <;> omega)

set_option maxHeartbeats 4000000 in
set_option maxRecDepth 100000 in
/-- Patterns.stepAt -/
theorem k_stepAt (l : Launch) (D : va_G) (cI cZ cJ : ClassId) (a : Nat → Nat) (μ : Nat → Int → Int) (c t : Int) (hI : IP μ) (hc : (0 ≤ c ∧ c < 120) ∧ 0 ≤ t ∧ t < 192) : Ci l D (tY cI cZ cJ) yX2_stepAt wsX2_stepAt rmX2_stepAt [.ref (a 1), .int (iI c), .int (iI t)] (WPat cI a μ) (sTa μ c t) (WPat cI a μ) := by
  have h2 := hI.1
  have h3 := hI.2.1
  have h4 := hI.2.2.1
  have h5 := hI.2.2.2.1
  have h6 := hI.2.2.2.2.1
  have h7 := hI.2.2.2.2.2.1
  have h1 := hI.2.2.2.2.2.2
  refine qi_of (by decide +kernel) rfl (Nat.le_of_ble_eq_true rfl) ?_
  intro zp ze zs zm zargs zbelow zmeth zc A Q ls M hA w hl kret
  have hl : lv_has ls 4 [(0, .ref (a 1)), (1, .int (iI c)), (2, .int (iI t))] := hl
  refine q_iln M dX2_stepAt_0 (lv_at hl 2 rfl) ?_
  refine q_bp M dX2_stepAt_1 (by decide +kernel) ?_
  refine q_div M dX2_stepAt_3 (by omega) ?_
  refine q_isn (lv' := [(3, .int (iI (t / 12))), (0, .ref (a 1)), (1, .int (iI c)), (2, .int (iI t))]) M dX2_stepAt_4 rfl hl (by decide) rfl (fun ls hl => ?_)
  refine q_aln M dX2_stepAt_5 (lv_at hl 1 rfl) ?_
  refine q_iln M dX2_stepAt_6 (lv_at hl 2 rfl) ?_
  refine q_iln M dX2_stepAt_7 (lv_at hl 0 rfl) ?_
  refine qc_iV (As := [.int (iI c), .int (iI (t / 12))]) (rest := []) (wc := WPat cI a μ) (wc2 := WPat cI a μ) (ws2 := WPat cI a μ) M w hA hl (k_tickOf l D cI cZ cJ a μ c (t / 12) hI (by omega)) gX2_stepAt_X2_tickOf rfl ⟨rfl, rfl, by decide, by decide⟩ ⟨Nat.zero_le _, Nat.zero_le _⟩ 2 ⟨rfl, by decide +kernel⟩ rfl [true, true, true, true, true, true, true, true, true, true, true, true, true, true, true] rfl rfl 2 rfl rfl rfl (Nat.le_of_ble_eq_true rfl) rfl dX2_stepAt_8 (fun H locs w => ?_)
  refine q_iln M dX2_stepAt_11 (lv_at hl 3 rfl) ?_
  have q4 := tOf_bd hI c (t / 12)
  refine q_icmp_ne (tgt := 19) M dX2_stepAt_12 (by decide) (by omega) (fun c12 => ?_) (fun c12 => ?_)
  · refine q_ic M dX2_stepAt_19 ?_
    exact kret _ _ _ _ _ dX2_stepAt_20 w (by unfold sTa; split <;> omega)
  · refine q_iln M dX2_stepAt_15 (lv_at hl 0 rfl) ?_
    refine q_go (tgt := 20) M dX2_stepAt_16 (by decide) ?_
    exact kret _ _ _ _ _ dX2_stepAt_20 w (by unfold sTa; split <;> omega)

set_option maxHeartbeats 4000000 in
set_option maxRecDepth 100000 in
/-- Patterns.countStep -/
theorem k_countStep (l : Launch) (D : va_G) (cI cZ cJ : ClassId) (a : Nat → Nat) (μ : Nat → Int → Int) (c s : Int) (hI : IP μ) (hc : (0 ≤ c ∧ c < 120) ∧ 0 ≤ s ∧ s < 16) : Ci l D (tY cI cZ cJ) yX2_countStep wsX2_countStep rmX2_countStep [.ref (a 1), .int (iI c), .int (iI s)] (WPat cI a μ) (cSt μ c s) (WPat cI a μ) := by
  have h2 := hI.1
  have h3 := hI.2.1
  have h4 := hI.2.2.1
  have h5 := hI.2.2.2.1
  have h6 := hI.2.2.2.2.1
  have h7 := hI.2.2.2.2.2.1
  have h1 := hI.2.2.2.2.2.2
  refine qi_of (by decide +kernel) rfl (Nat.le_of_ble_eq_true rfl) ?_
  intro zp ze zs zm zargs zbelow zmeth zc A Q ls M hA w hl kret
  have hl : lv_has ls 5 [(0, .ref (a 1)), (1, .int (iI c)), (2, .int (iI s))] := hl
  refine q_ic M dX2_countStep_0 ?_
  refine q_isn (lv' := [(3, .int (iI 0)), (0, .ref (a 1)), (1, .int (iI c)), (2, .int (iI s))]) M dX2_countStep_1 rfl hl (by decide) rfl (fun ls hl => ?_)
  refine q_ic M dX2_countStep_2 ?_
  refine q_is (lv' := [(4, .int (iI 0)), (3, .int (iI 0)), (0, .ref (a 1)), (1, .int (iI c)), (2, .int (iI s))]) M dX2_countStep_3 hl (by decide) rfl (fun ls hl => ?_)
  have lp5 : ∀ (n5 : Nat) (t : Int), (0 ≤ t ∧ t ≤ 4) → (4 - t : Int) < (n5 : Int) → ∀ (H : Heap) (locs : List Loc) (ls : Array Slot), wW D A zs.heap (WPat cI a μ) H locs → lv_has ls 5 [(0, .ref (a 1)), (1, .int (iI c)), (2, .int (iI s)), (3, .int (iI (sI (fun t => if sA μ c t s = -1 then 0 else 1) t))), (4, .int (iI t))] → W zp l ze rmX2_countStep zs zm zargs zbelow zmeth zc H locs 0 0 Q (F0 zm 5 ls []) := by
    intro n5
    induction n5 with
    | zero => intro t hj hm H locs ls w hl; exfalso; omega
    | succ n5 ih5 =>
      intro t hj hm5 H locs ls w hl
      have hs := sI_s (fun t => if sA μ c t s = -1 then 0 else 1) (i := t) hj.1
      refine q_il M dX2_countStep_5 (lv_at hl 4 rfl) ?_
      refine q_ic M dX2_countStep_7 ?_
      refine q_icmp_ge (tgt := 32) M dX2_countStep_8 (by decide) (by omega) (fun c8 => ?_) (fun c8 => ?_)
      · refine q_iln M dX2_countStep_32 (lv_at hl 3 rfl) ?_
        exact kret _ _ _ _ _ dX2_countStep_33 w (by rw [show t = 4 by omega]; rfl)
      · refine q_aln M dX2_countStep_11 (lv_at hl 0 rfl) ?_
        refine q_iln M dX2_countStep_12 (lv_at hl 1 rfl) ?_
        refine q_il M dX2_countStep_13 (lv_at hl 4 rfl) ?_
        refine q_iln M dX2_countStep_15 (lv_at hl 2 rfl) ?_
        refine qc_iV (As := [.int (iI c), .int (iI t), .int (iI s)]) (rest := []) (wc := WPat cI a μ) (wc2 := WPat cI a μ) (ws2 := WPat cI a μ) M w hA hl (k_sampleAt l D cI cZ cJ a μ c t s hI (by omega)) gX2_countStep_X2_sampleAt rfl ⟨rfl, rfl, by decide, by decide⟩ ⟨Nat.zero_le _, Nat.zero_le _⟩ 3 ⟨rfl, by decide +kernel⟩ rfl [true, true, true, true, true, true, true, true, true, true, true, true, true, true, true] rfl rfl 2 rfl rfl rfl (Nat.le_of_ble_eq_true rfl) rfl dX2_countStep_16 (fun H locs w => ?_)
        have q4 := sA_bd hI c t s
        refine q_ic M dX2_countStep_19 ?_
        refine q_icmp_eq (tgt := 26) M dX2_countStep_20 (by decide) (by omega) (fun c20 => ?_) (fun c20 => ?_)
        · have e26 : sI (fun t => if sA μ c t s = -1 then 0 else 1) t = sI (fun t => if sA μ c t s = -1 then 0 else 1) (t + 1) := by rw [hs]; simp [c20]
          have hl : lv_has ls 5 [(0, .ref (a 1)), (1, .int (iI c)), (2, .int (iI s)), (3, .int (iI (sI (fun t => if sA μ c t s = -1 then 0 else 1) (t + 1)))), (4, .int (iI t))] := by rw [← e26]; exact hl
          refine q_inc (z := t) (lv' := [(4, .int (iI (t + 1))), (0, .ref (a 1)), (1, .int (iI c)), (2, .int (iI s)), (3, .int (iI (sI (fun t => if sA μ c t s = -1 then 0 else 1) (t + 1))))]) M dX2_countStep_26 hl (k := 4) rfl (by decide) rfl (fun ls hl => ?_)
          refine q_go (tgt := 5) M dX2_countStep_29 (by decide) ?_
          exact ih5 (t + 1) (by omega) (by omega) _ _ _ w (lv_sub hl [1, 2, 3, 4, 0] rfl)
        · refine q_inc (z := sI (fun t => if sA μ c t s = -1 then 0 else 1) t) (lv' := [(3, .int (iI ((sI (fun t => if sA μ c t s = -1 then 0 else 1) t) + 1))), (0, .ref (a 1)), (1, .int (iI c)), (2, .int (iI s)), (4, .int (iI t))]) M dX2_countStep_23 hl (k := 3) rfl (by decide) rfl (fun ls hl => ?_)
          have e26 : (sI (fun t => if sA μ c t s = -1 then 0 else 1) t) + 1 = sI (fun t => if sA μ c t s = -1 then 0 else 1) (t + 1) := by rw [hs]; simp [c20]
          have hl : lv_has ls 5 [(3, .int (iI (sI (fun t => if sA μ c t s = -1 then 0 else 1) (t + 1)))), (0, .ref (a 1)), (1, .int (iI c)), (2, .int (iI s)), (4, .int (iI t))] := by rw [← e26]; exact hl
          refine q_inc (z := t) (lv' := [(4, .int (iI (t + 1))), (3, .int (iI (sI (fun t => if sA μ c t s = -1 then 0 else 1) (t + 1)))), (0, .ref (a 1)), (1, .int (iI c)), (2, .int (iI s))]) M dX2_countStep_26 hl (k := 4) rfl (by decide) rfl (fun ls hl => ?_)
          refine q_go (tgt := 5) M dX2_countStep_29 (by decide) ?_
          exact ih5 (t + 1) (by omega) (by omega) _ _ _ w (lv_sub hl [2, 3, 4, 1, 0] rfl)
  have er : 0 = sI (fun t => if sA μ c t s = -1 then 0 else 1) 0 := by rw [sI_0]
  have hl : lv_has ls 5 [(4, .int (iI 0)), (3, .int (iI (sI (fun t => if sA μ c t s = -1 then 0 else 1) 0))), (0, .ref (a 1)), (1, .int (iI c)), (2, .int (iI s))] := by rw [← er]; exact hl
  exact lp5 5 0 (by omega) (by omega) _ _ _ w (lv_sub hl [2, 3, 4, 1, 0] rfl)

set_option maxHeartbeats 4000000 in
set_option maxRecDepth 100000 in
/-- Patterns.countBySteps -/
theorem k_countBySteps (l : Launch) (D : va_G) (cI cZ cJ : ClassId) (a : Nat → Nat) (μ : Nat → Int → Int) (c : Int) (hI : IP μ) (hc : 0 ≤ c ∧ c < 120) : Ci l D (tY cI cZ cJ) yX2_countBySteps wsX2_countBySteps rmX2_countBySteps [.ref (a 1), .int (iI c)] (WPat cI a μ) (cBs μ c) (WPat cI a μ) := by
  have h2 := hI.1
  have h3 := hI.2.1
  have h4 := hI.2.2.1
  have h5 := hI.2.2.2.1
  have h6 := hI.2.2.2.2.1
  have h7 := hI.2.2.2.2.2.1
  have h1 := hI.2.2.2.2.2.2
  refine qi_of (by decide +kernel) rfl (Nat.le_of_ble_eq_true rfl) ?_
  intro zp ze zs zm zargs zbelow zmeth zc A Q ls M hA w hl kret
  have hl : lv_has ls 4 [(0, .ref (a 1)), (1, .int (iI c))] := hl
  refine q_ic M dX2_countBySteps_0 ?_
  refine q_isn (lv' := [(2, .int (iI 0)), (0, .ref (a 1)), (1, .int (iI c))]) M dX2_countBySteps_1 rfl hl (by decide) rfl (fun ls hl => ?_)
  refine q_ic M dX2_countBySteps_2 ?_
  refine q_isn (lv' := [(3, .int (iI 0)), (2, .int (iI 0)), (0, .ref (a 1)), (1, .int (iI c))]) M dX2_countBySteps_3 rfl hl (by decide) rfl (fun ls hl => ?_)
  have lp4 : ∀ (n4 : Nat) (s : Int), (0 ≤ s ∧ s ≤ 16) → (16 - s : Int) < (n4 : Int) → ∀ (H : Heap) (locs : List Loc) (ls : Array Slot), wW D A zs.heap (WPat cI a μ) H locs → lv_has ls 4 [(0, .ref (a 1)), (1, .int (iI c)), (2, .int (iI (sI (fun s => cSt μ c s) s))), (3, .int (iI s))] → W zp l ze rmX2_countBySteps zs zm zargs zbelow zmeth zc H locs 0 0 Q (F0 zm 4 ls []) := by
    intro n4
    induction n4 with
    | zero => intro s hj hm H locs ls w hl; exfalso; omega
    | succ n4 ih4 =>
      intro s hj hm4 H locs ls w hl
      have hs := sI_s (fun s => cSt μ c s) (i := s) hj.1
      refine q_iln M dX2_countBySteps_4 (lv_at hl 3 rfl) ?_
      refine q_bp M dX2_countBySteps_5 (by decide +kernel) ?_
      refine q_icmp_ge (tgt := 25) M dX2_countBySteps_7 (by decide) (by omega) (fun c7 => ?_) (fun c7 => ?_)
      · refine q_iln M dX2_countBySteps_25 (lv_at hl 2 rfl) ?_
        exact kret _ _ _ _ _ dX2_countBySteps_26 w (by rw [show s = 16 by omega]; rfl)
      · refine q_iln M dX2_countBySteps_10 (lv_at hl 2 rfl) ?_
        refine q_aln M dX2_countBySteps_11 (lv_at hl 0 rfl) ?_
        refine q_iln M dX2_countBySteps_12 (lv_at hl 1 rfl) ?_
        refine q_iln M dX2_countBySteps_13 (lv_at hl 3 rfl) ?_
        refine qc_iV (As := [.int (iI c), .int (iI s)]) (rest := [.int (iI (sI (fun s => cSt μ c s) s))]) (wc := WPat cI a μ) (wc2 := WPat cI a μ) (ws2 := WPat cI a μ) M w hA hl (k_countStep l D cI cZ cJ a μ c s hI (by omega)) gX2_countBySteps_X2_countStep rfl ⟨rfl, rfl, by decide, by decide⟩ ⟨Nat.zero_le _, Nat.zero_le _⟩ 2 ⟨rfl, by decide +kernel⟩ rfl [true, true, true, true, true, true, true, true, true, true, true, true, true, true, true] rfl rfl 2 rfl rfl rfl (Nat.le_of_ble_eq_true rfl) rfl dX2_countBySteps_14 (fun H locs w => ?_)
        refine q_add M dX2_countBySteps_17 ?_
        refine q_isn (lv' := [(2, .int (iI ((sI (fun s => cSt μ c s) s) + (cSt μ c s)))), (0, .ref (a 1)), (1, .int (iI c)), (3, .int (iI s))]) M dX2_countBySteps_18 rfl hl (by decide) rfl (fun ls hl => ?_)
        have er : (sI (fun s => cSt μ c s) s) + (cSt μ c s) = sI (fun s => cSt μ c s) (s + 1) := by rw [hs]
        have hl : lv_has ls 4 [(2, .int (iI (sI (fun s => cSt μ c s) (s + 1)))), (0, .ref (a 1)), (1, .int (iI c)), (3, .int (iI s))] := by rw [← er]; exact hl
        refine q_inc (z := s) (lv' := [(3, .int (iI (s + 1))), (2, .int (iI (sI (fun s => cSt μ c s) (s + 1)))), (0, .ref (a 1)), (1, .int (iI c))]) M dX2_countBySteps_19 hl (k := 3) rfl (by decide) rfl (fun ls hl => ?_)
        refine q_go (tgt := 4) M dX2_countBySteps_22 (by decide) ?_
        exact ih4 (s + 1) (by omega) (by omega) _ _ _ w (lv_sub hl [2, 3, 1, 0] rfl)
  have er : 0 = sI (fun s => cSt μ c s) 0 := by rw [sI_0]
  have hl : lv_has ls 4 [(3, .int (iI 0)), (2, .int (iI (sI (fun s => cSt μ c s) 0))), (0, .ref (a 1)), (1, .int (iI c))] := by rw [← er]; exact hl
  exact lp4 17 0 (by omega) (by omega) _ _ _ w (lv_sub hl [2, 3, 1, 0] rfl)

set_option maxHeartbeats 4000000 in
set_option maxRecDepth 100000 in
/-- Patterns.countByTicks -/
theorem k_countByTicks (l : Launch) (D : va_G) (cI cZ cJ : ClassId) (a : Nat → Nat) (μ : Nat → Int → Int) (c : Int) (hI : IP μ) (hc : 0 ≤ c ∧ c < 120) : Ci l D (tY cI cZ cJ) yX2_countByTicks wsX2_countByTicks rmX2_countByTicks [.ref (a 1), .int (iI c)] (WPat cI a μ) (cBt μ c) (WPat cI a μ) := by
  have h2 := hI.1
  have h3 := hI.2.1
  have h4 := hI.2.2.1
  have h5 := hI.2.2.2.1
  have h6 := hI.2.2.2.2.1
  have h7 := hI.2.2.2.2.2.1
  have h1 := hI.2.2.2.2.2.2
  refine qi_of (by decide +kernel) rfl (Nat.le_of_ble_eq_true rfl) ?_
  intro zp ze zs zm zargs zbelow zmeth zc A Q ls M hA w hl kret
  have hl : lv_has ls 5 [(0, .ref (a 1)), (1, .int (iI c))] := hl
  refine q_ic M dX2_countByTicks_0 ?_
  refine q_isn (lv' := [(2, .int (iI 0)), (0, .ref (a 1)), (1, .int (iI c))]) M dX2_countByTicks_1 rfl hl (by decide) rfl (fun ls hl => ?_)
  refine q_ic M dX2_countByTicks_2 ?_
  refine q_isn (lv' := [(3, .int (iI 0)), (2, .int (iI 0)), (0, .ref (a 1)), (1, .int (iI c))]) M dX2_countByTicks_3 rfl hl (by decide) rfl (fun ls hl => ?_)
  have lp4 : ∀ (n4 : Nat) (t : Int), (0 ≤ t ∧ t ≤ 192) → (192 - t : Int) < (n4 : Int) → ∀ (H : Heap) (locs : List Loc) (ls : Array Slot), wW D A zs.heap (WPat cI a μ) H locs → lv_has ls 5 [(0, .ref (a 1)), (1, .int (iI c)), (2, .int (iI (sI (fun t => if sTa μ c t = -1 then 0 else cSt μ c (sTa μ c t)) t))), (3, .int (iI t))] → W zp l ze rmX2_countByTicks zs zm zargs zbelow zmeth zc H locs 0 0 Q (F0 zm 4 ls []) := by
    intro n4
    induction n4 with
    | zero => intro t hj hm H locs ls w hl; exfalso; omega
    | succ n4 ih4 =>
      intro t hj hm4 H locs ls w hl
      have hs := sI_s (fun t => if sTa μ c t = -1 then 0 else cSt μ c (sTa μ c t)) (i := t) hj.1
      refine q_iln M dX2_countByTicks_4 (lv_at hl 3 rfl) ?_
      refine q_sp M dX2_countByTicks_5 (by decide +kernel) ?_
      refine q_icmp_ge (tgt := 41) M dX2_countByTicks_8 (by decide) (by omega) (fun c8 => ?_) (fun c8 => ?_)
      · refine q_iln M dX2_countByTicks_41 (lv_at hl 2 rfl) ?_
        exact kret _ _ _ _ _ dX2_countByTicks_42 w (by rw [show t = 192 by omega]; rfl)
      · refine q_aln M dX2_countByTicks_11 (lv_at hl 0 rfl) ?_
        refine q_iln M dX2_countByTicks_12 (lv_at hl 1 rfl) ?_
        refine q_iln M dX2_countByTicks_13 (lv_at hl 3 rfl) ?_
        refine qc_iV (As := [.int (iI c), .int (iI t)]) (rest := []) (wc := WPat cI a μ) (wc2 := WPat cI a μ) (ws2 := WPat cI a μ) M w hA hl (k_stepAt l D cI cZ cJ a μ c t hI (by omega)) gX2_countByTicks_X2_stepAt rfl ⟨rfl, rfl, by decide, by decide⟩ ⟨Nat.zero_le _, Nat.zero_le _⟩ 2 ⟨rfl, by decide +kernel⟩ rfl [true, true, true, true, true, true, true, true, true, true, true, true, true, true, true] rfl rfl 2 rfl rfl rfl (Nat.le_of_ble_eq_true rfl) rfl dX2_countByTicks_14 (fun H locs w => ?_)
        refine q_is (lv' := [(4, .int (iI (sTa μ c t))), (0, .ref (a 1)), (1, .int (iI c)), (2, .int (iI (sI (fun t => if sTa μ c t = -1 then 0 else cSt μ c (sTa μ c t)) t))), (3, .int (iI t))]) M dX2_countByTicks_17 hl (by decide) rfl (fun ls hl => ?_)
        have q5 : sTa μ c t = -1 ∨ sTa μ c t = t / 12 := by unfold sTa; split <;> omega
        refine q_il M dX2_countByTicks_19 (lv_at hl 0 rfl) ?_
        refine q_ic M dX2_countByTicks_21 ?_
        refine q_icmp_eq (tgt := 35) M dX2_countByTicks_22 (by decide) (by omega) (fun c22 => ?_) (fun c22 => ?_)
        · have er : sI (fun t => if sTa μ c t = -1 then 0 else cSt μ c (sTa μ c t)) t = sI (fun t => if sTa μ c t = -1 then 0 else cSt μ c (sTa μ c t)) (t + 1) := by rw [hs]; simp [c22]
          have hl : lv_has ls 5 [(4, .int (iI (sTa μ c t))), (0, .ref (a 1)), (1, .int (iI c)), (2, .int (iI (sI (fun t => if sTa μ c t = -1 then 0 else cSt μ c (sTa μ c t)) (t + 1)))), (3, .int (iI t))] := by rw [← er]; exact hl
          refine q_inc (z := t) (lv' := [(3, .int (iI (t + 1))), (4, .int (iI (sTa μ c t))), (0, .ref (a 1)), (1, .int (iI c)), (2, .int (iI (sI (fun t => if sTa μ c t = -1 then 0 else cSt μ c (sTa μ c t)) (t + 1))))]) M dX2_countByTicks_35 hl (k := 4) rfl (by decide) rfl (fun ls hl => ?_)
          refine q_go (tgt := 4) M dX2_countByTicks_38 (by decide) ?_
          exact ih4 (t + 1) (by omega) (by omega) _ _ _ w (lv_sub hl [2, 3, 4, 0] rfl)
        · refine q_iln M dX2_countByTicks_25 (lv_at hl 3 rfl) ?_
          refine q_aln M dX2_countByTicks_26 (lv_at hl 1 rfl) ?_
          refine q_iln M dX2_countByTicks_27 (lv_at hl 2 rfl) ?_
          refine q_il M dX2_countByTicks_28 (lv_at hl 0 rfl) ?_
          refine qc_iV (As := [.int (iI c), .int (iI (sTa μ c t))]) (rest := [.int (iI (sI (fun t => if sTa μ c t = -1 then 0 else cSt μ c (sTa μ c t)) t))]) (wc := WPat cI a μ) (wc2 := WPat cI a μ) (ws2 := WPat cI a μ) M w hA hl (k_countStep l D cI cZ cJ a μ c (sTa μ c t) hI (by omega)) gX2_countByTicks_X2_countStep rfl ⟨rfl, rfl, by decide, by decide⟩ ⟨Nat.zero_le _, Nat.zero_le _⟩ 2 ⟨rfl, by decide +kernel⟩ rfl [true, true, true, true, true, true, true, true, true, true, true, true, true, true, true] rfl rfl 2 rfl rfl rfl (Nat.le_of_ble_eq_true rfl) rfl dX2_countByTicks_30 (fun H locs w => ?_)
          refine q_add M dX2_countByTicks_33 ?_
          refine q_isn (lv' := [(2, .int (iI ((sI (fun t => if sTa μ c t = -1 then 0 else cSt μ c (sTa μ c t)) t) + (cSt μ c (sTa μ c t))))), (4, .int (iI (sTa μ c t))), (0, .ref (a 1)), (1, .int (iI c)), (3, .int (iI t))]) M dX2_countByTicks_34 rfl hl (by decide) rfl (fun ls hl => ?_)
          have er : (sI (fun t => if sTa μ c t = -1 then 0 else cSt μ c (sTa μ c t)) t) + (cSt μ c (sTa μ c t)) = sI (fun t => if sTa μ c t = -1 then 0 else cSt μ c (sTa μ c t)) (t + 1) := by rw [hs]; simp [c22]
          have hl : lv_has ls 5 [(2, .int (iI (sI (fun t => if sTa μ c t = -1 then 0 else cSt μ c (sTa μ c t)) (t + 1)))), (4, .int (iI (sTa μ c t))), (0, .ref (a 1)), (1, .int (iI c)), (3, .int (iI t))] := by rw [← er]; exact hl
          refine q_inc (z := t) (lv' := [(3, .int (iI (t + 1))), (2, .int (iI (sI (fun t => if sTa μ c t = -1 then 0 else cSt μ c (sTa μ c t)) (t + 1)))), (4, .int (iI (sTa μ c t))), (0, .ref (a 1)), (1, .int (iI c))]) M dX2_countByTicks_35 hl (k := 4) rfl (by decide) rfl (fun ls hl => ?_)
          refine q_go (tgt := 4) M dX2_countByTicks_38 (by decide) ?_
          exact ih4 (t + 1) (by omega) (by omega) _ _ _ w (lv_sub hl [3, 4, 1, 0] rfl)
  have er : 0 = sI (fun t => if sTa μ c t = -1 then 0 else cSt μ c (sTa μ c t)) 0 := by rw [sI_0]
  have hl : lv_has ls 5 [(3, .int (iI 0)), (2, .int (iI (sI (fun t => if sTa μ c t = -1 then 0 else cSt μ c (sTa μ c t)) 0))), (0, .ref (a 1)), (1, .int (iI c))] := by rw [← er]; exact hl
  exact lp4 193 0 (by omega) (by omega) _ _ _ w (lv_sub hl [2, 3, 1, 0] rfl)

set_option maxHeartbeats 4000000 in
set_option maxRecDepth 100000 in
/-- Patterns.codeFor -/
theorem k_codeFor (l : Launch) (D : va_G) (cI cZ cJ : ClassId) (a : Nat → Nat) (μ : Nat → Int → Int) (p t : Int) (hI : IP μ) (hc : (0 ≤ p ∧ p < 12) ∧ 0 ≤ t ∧ t < 1000) : Ci l D (tY cI cZ cJ) yX2_codeFor wsX2_codeFor rmX2_codeFor [.ref (a 1), .int (iI p), .int (iI t)] (WPat cI a μ) (cdF μ p t) (WPat cI a μ) := by
  have h2 := hI.1
  have h3 := hI.2.1
  have h4 := hI.2.2.1
  have h5 := hI.2.2.2.1
  have h6 := hI.2.2.2.2.1
  have h7 := hI.2.2.2.2.2.1
  have h1 := hI.2.2.2.2.2.2
  refine qi_of (by decide +kernel) rfl (Nat.le_of_ble_eq_true rfl) ?_
  intro zp ze zs zm zargs zbelow zmeth zc A Q ls M hA w hl kret
  have hl : lv_has ls 5 [(0, .ref (a 1)), (1, .int (iI p)), (2, .int (iI t))] := hl
  have in2 : ∀ w ∈ u_ws RX2 TX2 6, w ∈ wsX2_codeFor := by decide +kernel
  refine q_aln M dX2_codeFor_0 (lv_at hl 0 rfl) ?_
  refine q_get (v := .ref (a 20)) M w in2 2 3 rfl rfl (by decide) (by decide +kernel) rfl rfl dX2_codeFor_1 ?_
  refine q_iln M dX2_codeFor_4 (lv_at hl 1 rfl) ?_
  refine qc_iV (As := [.int (iI p)]) (rest := []) (wc := WRow cI (a 20) (a 21) 12 (μ 5)) (wc2 := WRow cI (a 20) (a 21) 12 (μ 5)) (ws2 := WPat cI a μ) M w hA hl (k_get l D cI cZ cJ _ _ _ _ p (by omega)) gX2_codeFor_X3_get rfl ⟨rfl, rfl, by decide, by decide⟩ ⟨Nat.zero_le _, Nat.zero_le _⟩ 1 ⟨rfl, by decide +kernel⟩ rfl [false, false, false, false, false, false, false, false, false, true, true] rfl rfl 9 rfl rfl rfl (Nat.le_of_ble_eq_true rfl) rfl dX2_codeFor_5 (fun H locs w => ?_)
  have q5 := h5 p
  refine q_isn (lv' := [(3, .int (iI ((μ 5) p))), (0, .ref (a 1)), (1, .int (iI p)), (2, .int (iI t))]) M dX2_codeFor_8 rfl hl (by decide) rfl (fun ls hl => ?_)
  refine q_iln M dX2_codeFor_9 (lv_at hl 0 rfl) ?_
  refine q_if_le (tgt := 23) M dX2_codeFor_10 (by decide) (by omega) (fun c10 => ?_) (fun c10 => ?_)
  · refine q_ic M dX2_codeFor_23 ?_
    refine q_is (lv' := [(4, .int (iI 0)), (3, .int (iI ((μ 5) p))), (0, .ref (a 1)), (1, .int (iI p)), (2, .int (iI t))]) M dX2_codeFor_24 hl (by decide) rfl (fun ls hl => ?_)
    refine q_bp M dX2_codeFor_26 (by decide +kernel) ?_
    refine q_iln M dX2_codeFor_28 (lv_at hl 3 rfl) ?_
    refine q_mul M dX2_codeFor_29 ?_
    refine q_il M dX2_codeFor_30 (lv_at hl 0 rfl) ?_
    refine q_if_eq (tgt := 39) M dX2_codeFor_32 (by decide) (by omega) (fun c32 => ?_) (fun c32 => ?_)
    · refine q_ic M dX2_codeFor_39 ?_
      refine q_add M dX2_codeFor_40 ?_
      exact kret _ _ _ _ _ dX2_codeFor_41 w (by unfold cdF; split <;> omega)
    · exfalso; omega
  · refine q_iln M dX2_codeFor_13 (lv_at hl 3 rfl) ?_
    refine q_iln M dX2_codeFor_14 (lv_at hl 0 rfl) ?_
    refine q_rem M dX2_codeFor_15 (by omega) ?_
    have m1 := Int.emod_nonneg t (show μ 5 p ≠ 0 by omega)
    have m2 := Int.emod_lt_of_pos t (show 0 < μ 5 p by omega)
    refine q_if_ne (tgt := 23) M dX2_codeFor_16 (by decide) (by omega) (fun c16 => ?_) (fun c16 => ?_)
    · refine q_ic M dX2_codeFor_23 ?_
      refine q_is (lv' := [(4, .int (iI 0)), (3, .int (iI ((μ 5) p))), (0, .ref (a 1)), (1, .int (iI p)), (2, .int (iI t))]) M dX2_codeFor_24 hl (by decide) rfl (fun ls hl => ?_)
      refine q_bp M dX2_codeFor_26 (by decide +kernel) ?_
      refine q_iln M dX2_codeFor_28 (lv_at hl 3 rfl) ?_
      refine q_mul M dX2_codeFor_29 ?_
      refine q_il M dX2_codeFor_30 (lv_at hl 0 rfl) ?_
      refine q_if_eq (tgt := 39) M dX2_codeFor_32 (by decide) (by omega) (fun c32 => ?_) (fun c32 => ?_)
      · refine q_ic M dX2_codeFor_39 ?_
        refine q_add M dX2_codeFor_40 ?_
        exact kret _ _ _ _ _ dX2_codeFor_41 w (by unfold cdF; split <;> omega)
      · exfalso; omega
    · refine q_ic M dX2_codeFor_19 ?_
      refine q_go (tgt := 24) M dX2_codeFor_20 (by decide) ?_
      refine q_is (lv' := [(4, .int (iI 1)), (3, .int (iI ((μ 5) p))), (0, .ref (a 1)), (1, .int (iI p)), (2, .int (iI t))]) M dX2_codeFor_24 hl (by decide) rfl (fun ls hl => ?_)
      refine q_bp M dX2_codeFor_26 (by decide +kernel) ?_
      refine q_iln M dX2_codeFor_28 (lv_at hl 3 rfl) ?_
      refine q_mul M dX2_codeFor_29 ?_
      refine q_il M dX2_codeFor_30 (lv_at hl 0 rfl) ?_
      refine q_if_eq (tgt := 39) M dX2_codeFor_32 (by decide) (by omega) (fun c32 => ?_) (fun c32 => ?_)
      · exfalso; omega
      · refine q_ic M dX2_codeFor_35 ?_
        refine q_go (tgt := 40) M dX2_codeFor_36 (by decide) ?_
        refine q_add M dX2_codeFor_40 ?_
        exact kret _ _ _ _ _ dX2_codeFor_41 w (by unfold cdF; split <;> omega)

set_option maxHeartbeats 4000000 in
set_option maxRecDepth 100000 in
/-- Patterns.tuneIn -/
theorem k_tuneIn (l : Launch) (D : va_G) (cI cZ cJ : ClassId) (a : Nat → Nat) (μ : Nat → Int → Int) (c s : Int) (hI : IP μ) (hc : (0 ≤ c ∧ c < 120) ∧ 0 ≤ s ∧ s < 8) : Ci l D (tY cI cZ cJ) yX2_tuneIn wsX2_tuneIn rmX2_tuneIn [.ref (a 1), .int (iI c), .int (iI s), .ref (a 12)] (WPat cI a μ) (tnI μ c s) (WPat cI a μ) := by
  have h2 := hI.1
  have h3 := hI.2.1
  have h4 := hI.2.2.1
  have h5 := hI.2.2.2.1
  have h6 := hI.2.2.2.2.1
  have h7 := hI.2.2.2.2.2.1
  have h1 := hI.2.2.2.2.2.2
  refine qi_of (by decide +kernel) rfl (Nat.le_of_ble_eq_true rfl) ?_
  intro zp ze zs zm zargs zbelow zmeth zc A Q ls M hA w hl kret
  have hl : lv_has ls 6 [(0, .ref (a 1)), (1, .int (iI c)), (2, .int (iI s)), (3, .ref (a 12))] := hl
  have in2 : ∀ w ∈ u_ws RX2 TX2 6, w ∈ wsX2_tuneIn := by decide +kernel
  refine q_iln M dX2_tuneIn_0 (lv_at hl 1 rfl) ?_
  refine q_bp M dX2_tuneIn_1 (by decide +kernel) ?_
  refine q_div M dX2_tuneIn_3 (by omega) ?_
  refine q_is (lv' := [(4, .int (iI (c / 10))), (0, .ref (a 1)), (1, .int (iI c)), (2, .int (iI s)), (3, .ref (a 12))]) M dX2_tuneIn_4 hl (by decide) rfl (fun ls hl => ?_)
  refine q_aln M dX2_tuneIn_6 (lv_at hl 1 rfl) ?_
  refine q_get (v := .ref (a 22)) M w in2 2 4 rfl rfl (by decide) (by decide +kernel) rfl rfl dX2_tuneIn_7 ?_
  refine q_il M dX2_tuneIn_10 (lv_at hl 0 rfl) ?_
  refine qc_iV (As := [.int (iI (c / 10))]) (rest := []) (wc := WRow cI (a 22) (a 23) 12 (μ 6)) (wc2 := WRow cI (a 22) (a 23) 12 (μ 6)) (ws2 := WPat cI a μ) M w hA hl (k_get l D cI cZ cJ _ _ _ _ (c / 10) (by omega)) gX2_tuneIn_X3_get rfl ⟨rfl, rfl, by decide, by decide⟩ ⟨Nat.zero_le _, Nat.zero_le _⟩ 1 ⟨rfl, by decide +kernel⟩ rfl [false, false, false, false, false, false, false, false, false, false, false, true, true] rfl rfl 11 rfl rfl rfl (Nat.le_of_ble_eq_true rfl) rfl dX2_tuneIn_12 (fun H locs w => ?_)
  have q6 := h6 (c / 10)
  refine q_ic M dX2_tuneIn_15 ?_
  refine q_icmp_ne (tgt := 23) M dX2_tuneIn_16 (by decide) (by omega) (fun c16 => ?_) (fun c16 => ?_)
  · refine q_ic M dX2_tuneIn_23 ?_
    refine q_is (lv' := [(5, .int (iI 0)), (4, .int (iI (c / 10))), (0, .ref (a 1)), (1, .int (iI c)), (2, .int (iI s)), (3, .ref (a 12))]) M dX2_tuneIn_24 hl (by decide) rfl (fun ls hl => ?_)
    refine q_il M dX2_tuneIn_26 (lv_at hl 0 rfl) ?_
    refine q_if_eq (tgt := 48) M dX2_tuneIn_28 (by decide) (by omega) (fun c28 => ?_) (fun c28 => ?_)
    · refine q_aln M dX2_tuneIn_48 (lv_at hl 5 rfl) ?_
      refine q_iln M dX2_tuneIn_49 (lv_at hl 4 rfl) ?_
      refine qc_iV (As := [.int (iI s)]) (rest := []) (wc := WRow cI (a 12) (a 13) 8 (μ 1)) (wc2 := WRow cI (a 12) (a 13) 8 (μ 1)) (ws2 := WPat cI a μ) M w hA hl (k_get l D cI cZ cJ _ _ _ _ s (by omega)) gX2_tuneIn_X3_get rfl ⟨rfl, rfl, by decide, by decide⟩ ⟨Nat.zero_le _, Nat.zero_le _⟩ 1 ⟨rfl, by decide +kernel⟩ rfl [true, true] rfl rfl 0 rfl rfl rfl (Nat.le_of_ble_eq_true rfl) rfl dX2_tuneIn_50 (fun H locs w => ?_)
      exact kret _ _ _ _ _ dX2_tuneIn_53 w (by unfold tnI; split <;> first | rfl | omega)
    · exfalso; omega
  · refine q_ic M dX2_tuneIn_19 ?_
    refine q_go (tgt := 24) M dX2_tuneIn_20 (by decide) ?_
    refine q_is (lv' := [(5, .int (iI 1)), (4, .int (iI (c / 10))), (0, .ref (a 1)), (1, .int (iI c)), (2, .int (iI s)), (3, .ref (a 12))]) M dX2_tuneIn_24 hl (by decide) rfl (fun ls hl => ?_)
    refine q_il M dX2_tuneIn_26 (lv_at hl 0 rfl) ?_
    refine q_if_eq (tgt := 48) M dX2_tuneIn_28 (by decide) (by omega) (fun c28 => ?_) (fun c28 => ?_)
    · exfalso; omega
    · refine q_aln M dX2_tuneIn_31 (lv_at hl 2 rfl) ?_
      refine q_get (v := .ref (a 24)) M w in2 2 5 rfl rfl (by decide) (by decide +kernel) rfl rfl dX2_tuneIn_32 ?_
      refine q_il M dX2_tuneIn_35 (lv_at hl 1 rfl) ?_
      refine q_bp M dX2_tuneIn_37 (by decide +kernel) ?_
      refine q_mul M dX2_tuneIn_39 ?_
      refine q_iln M dX2_tuneIn_40 (lv_at hl 4 rfl) ?_
      refine q_add M dX2_tuneIn_41 ?_
      refine qc_iV (As := [.int (iI (((c / 10) * 8) + s))]) (rest := []) (wc := WRow cI (a 24) (a 25) 96 (μ 7)) (wc2 := WRow cI (a 24) (a 25) 96 (μ 7)) (ws2 := WPat cI a μ) M w hA hl (k_get l D cI cZ cJ _ _ _ _ (((c / 10) * 8) + s) (by omega)) gX2_tuneIn_X3_get rfl ⟨rfl, rfl, by decide, by decide⟩ ⟨Nat.zero_le _, Nat.zero_le _⟩ 1 ⟨rfl, by decide +kernel⟩ rfl [false, false, false, false, false, false, false, false, false, false, false, false, false, true, true] rfl rfl 13 rfl rfl rfl (Nat.le_of_ble_eq_true rfl) rfl dX2_tuneIn_42 (fun H locs w => ?_)
      refine q_go (tgt := 53) M dX2_tuneIn_45 (by decide) ?_
      exact kret _ _ _ _ _ dX2_tuneIn_53 w (by unfold tnI; split <;> first | rfl | omega)

set_option maxHeartbeats 4000000 in
set_option maxRecDepth 100000 in
/-- Patterns.replaceStep -/
theorem k_replaceStep (l : Launch) (D : va_G) (cI cZ cJ : ClassId) (a : Nat → Nat) (μ : Nat → Int → Int) (p t s v : Int) (hc : (0 ≤ p ∧ p < 12) ∧ (0 ≤ t ∧ t < 4) ∧ 0 ≤ s ∧ s < 16) : Ci l D (tY cI cZ cJ) yX2_replaceStep wsX2_replaceStep rmX2_replaceStep [.ref (a 1), .int (iI p), .int (iI t), .int (iI s), .int (iI v)] (WPat cI a μ) (μ 2 ((p * 4 + t) * 16 + s)) (WPat cI a (mset μ 2 (iU (μ 2) ((p * 4 + t) * 16 + s) v))) := by
  refine qi_of (by decide +kernel) rfl (Nat.le_of_ble_eq_true rfl) ?_
  intro zp ze zs zm zargs zbelow zmeth zc A Q ls M hA w hl kret
  have hl : lv_has ls 5 [(0, .ref (a 1)), (1, .int (iI p)), (2, .int (iI t)), (3, .int (iI s)), (4, .int (iI v))] := hl
  have in2 : ∀ w ∈ u_ws RX2 TX2 6, w ∈ wsX2_replaceStep := by decide +kernel
  refine q_aln M dX2_replaceStep_0 (lv_at hl 0 rfl) ?_
  refine q_get (v := .ref (a 14)) M w in2 2 0 rfl rfl (by decide) (by decide +kernel) rfl rfl dX2_replaceStep_1 ?_
  refine q_iln M dX2_replaceStep_4 (lv_at hl 1 rfl) ?_
  refine q_iln M dX2_replaceStep_5 (lv_at hl 2 rfl) ?_
  refine q_iln M dX2_replaceStep_6 (lv_at hl 3 rfl) ?_
  refine qc_iS (As := [.int (iI p), .int (iI t), .int (iI s)]) (rest := [.ref (a 14)]) (wc := []) (wc2 := []) (ws2 := WPat cI a μ) M w hA hl (k_stepIndex l D cI cZ cJ p t s) gX2_replaceStep_X2_stepIndex rfl ⟨rfl, rfl, by decide, by decide⟩ ⟨Nat.zero_le _, Nat.zero_le _⟩ 3 (by decide +kernel) rfl [] rfl rfl rfl (Nat.le_of_ble_eq_true rfl) rfl dX2_replaceStep_7 (fun H locs w => ?_)
  refine q_il M dX2_replaceStep_10 (lv_at hl 4 rfl) ?_
  refine qc_iV (As := [.int (iI ((p * 4 + t) * 16 + s)), .int (iI v)]) (rest := []) (wc := WRow cI (a 14) (a 15) 768 (μ 2)) (wc2 := WRow cI (a 14) (a 15) 768 (iU (μ 2) ((p * 4 + t) * 16 + s) v)) (ws2 := WPat cI a (mset μ 2 (iU (μ 2) ((p * 4 + t) * 16 + s) v))) M w hA hl (k_replace l D cI cZ cJ _ _ _ _ ((p * 4 + t) * 16 + s) v (by omega)) gX2_replaceStep_X3_replace rfl ⟨rfl, rfl, by decide, by decide⟩ ⟨Nat.zero_le _, Nat.zero_le _⟩ 2 ⟨rfl, by decide +kernel⟩ rfl [false, false, false, true, true] rfl rfl 3 rfl rfl rfl (Nat.le_of_ble_eq_true rfl) rfl dX2_replaceStep_12 (fun H locs w => ?_)
  exact kret _ _ _ _ _ dX2_replaceStep_15 w rfl

set_option maxHeartbeats 4000000 in
set_option maxRecDepth 100000 in
/-- Patterns.replaceFill -/
theorem k_replaceFill (l : Launch) (D : va_G) (cI cZ cJ : ClassId) (a : Nat → Nat) (μ : Nat → Int → Int) (p t s v : Int) (hc : (0 ≤ p ∧ p < 12) ∧ (0 ≤ t ∧ t < 4) ∧ 12 ≤ s ∧ s < 16) : Ci l D (tY cI cZ cJ) yX2_replaceFill wsX2_replaceFill rmX2_replaceFill [.ref (a 1), .int (iI p), .int (iI t), .int (iI s), .int (iI v)] (WPat cI a μ) (μ 3 ((p * 4 + t) * 4 + s - 12)) (WPat cI a (mset μ 3 (iU (μ 3) ((p * 4 + t) * 4 + s - 12) v))) := by
  refine qi_of (by decide +kernel) rfl (Nat.le_of_ble_eq_true rfl) ?_
  intro zp ze zs zm zargs zbelow zmeth zc A Q ls M hA w hl kret
  have hl : lv_has ls 5 [(0, .ref (a 1)), (1, .int (iI p)), (2, .int (iI t)), (3, .int (iI s)), (4, .int (iI v))] := hl
  have in2 : ∀ w ∈ u_ws RX2 TX2 6, w ∈ wsX2_replaceFill := by decide +kernel
  refine q_aln M dX2_replaceFill_0 (lv_at hl 0 rfl) ?_
  refine q_get (v := .ref (a 16)) M w in2 2 1 rfl rfl (by decide) (by decide +kernel) rfl rfl dX2_replaceFill_1 ?_
  refine q_iln M dX2_replaceFill_4 (lv_at hl 1 rfl) ?_
  refine q_iln M dX2_replaceFill_5 (lv_at hl 2 rfl) ?_
  refine q_iln M dX2_replaceFill_6 (lv_at hl 3 rfl) ?_
  refine qc_iS (As := [.int (iI p), .int (iI t), .int (iI s)]) (rest := [.ref (a 16)]) (wc := []) (wc2 := []) (ws2 := WPat cI a μ) M w hA hl (k_fillIndex l D cI cZ cJ p t s) gX2_replaceFill_X2_fillIndex rfl ⟨rfl, rfl, by decide, by decide⟩ ⟨Nat.zero_le _, Nat.zero_le _⟩ 3 (by decide +kernel) rfl [] rfl rfl rfl (Nat.le_of_ble_eq_true rfl) rfl dX2_replaceFill_7 (fun H locs w => ?_)
  refine q_il M dX2_replaceFill_10 (lv_at hl 4 rfl) ?_
  refine qc_iV (As := [.int (iI ((p * 4 + t) * 4 + s - 12)), .int (iI v)]) (rest := []) (wc := WRow cI (a 16) (a 17) 192 (μ 3)) (wc2 := WRow cI (a 16) (a 17) 192 (iU (μ 3) ((p * 4 + t) * 4 + s - 12) v)) (ws2 := WPat cI a (mset μ 3 (iU (μ 3) ((p * 4 + t) * 4 + s - 12) v))) M w hA hl (k_replace l D cI cZ cJ _ _ _ _ ((p * 4 + t) * 4 + s - 12) v (by omega)) gX2_replaceFill_X3_replace rfl ⟨rfl, rfl, by decide, by decide⟩ ⟨Nat.zero_le _, Nat.zero_le _⟩ 2 ⟨rfl, by decide +kernel⟩ rfl [false, false, false, false, false, true, true] rfl rfl 5 rfl rfl rfl (Nat.le_of_ble_eq_true rfl) rfl dX2_replaceFill_12 (fun H locs w => ?_)
  exact kret _ _ _ _ _ dX2_replaceFill_15 w rfl

set_option maxHeartbeats 4000000 in
set_option maxRecDepth 100000 in
/-- Patterns.replaceFeel -/
theorem k_replaceFeel (l : Launch) (D : va_G) (cI cZ cJ : ClassId) (a : Nat → Nat) (μ : Nat → Int → Int) (p v u : Int) (hc : 0 ≤ p ∧ p < 12) : Ci l D (tY cI cZ cJ) yX2_replaceFeel wsX2_replaceFeel rmX2_replaceFeel [.ref (a 1), .int (iI p), .int (iI v), .int (iI u)] (WPat cI a μ) (μ 4 p) (WPat cI a (mset (mset μ 4 (iU (μ 4) p v)) 5 (iU (μ 5) p u))) := by
  refine qi_of (by decide +kernel) rfl (Nat.le_of_ble_eq_true rfl) ?_
  intro zp ze zs zm zargs zbelow zmeth zc A Q ls M hA w hl kret
  have hl : lv_has ls 4 [(0, .ref (a 1)), (1, .int (iI p)), (2, .int (iI v)), (3, .int (iI u))] := hl
  have in2 : ∀ w ∈ u_ws RX2 TX2 6, w ∈ wsX2_replaceFeel := by decide +kernel
  refine q_aln M dX2_replaceFeel_0 (lv_at hl 0 rfl) ?_
  refine q_get (v := .ref (a 20)) M w in2 2 3 rfl rfl (by decide) (by decide +kernel) rfl rfl dX2_replaceFeel_1 ?_
  refine q_iln M dX2_replaceFeel_4 (lv_at hl 1 rfl) ?_
  refine q_iln M dX2_replaceFeel_5 (lv_at hl 3 rfl) ?_
  refine qc_iV (As := [.int (iI p), .int (iI u)]) (rest := []) (wc := WRow cI (a 20) (a 21) 12 (μ 5)) (wc2 := WRow cI (a 20) (a 21) 12 (iU (μ 5) p u)) (ws2 := WPat cI a (mset μ 5 (iU (μ 5) p u))) M w hA hl (k_replace l D cI cZ cJ _ _ _ _ p u (by omega)) gX2_replaceFeel_X3_replace rfl ⟨rfl, rfl, by decide, by decide⟩ ⟨Nat.zero_le _, Nat.zero_le _⟩ 2 ⟨rfl, by decide +kernel⟩ rfl [false, false, false, false, false, false, false, false, false, true, true] rfl rfl 9 rfl rfl rfl (Nat.le_of_ble_eq_true rfl) rfl dX2_replaceFeel_6 (fun H locs w => ?_)
  refine q_pop M dX2_replaceFeel_9 rfl ?_
  refine q_aln M dX2_replaceFeel_10 (lv_at hl 0 rfl) ?_
  refine q_get (v := .ref (a 18)) M w in2 2 2 rfl rfl (by decide) (by decide +kernel) rfl rfl dX2_replaceFeel_11 ?_
  refine q_iln M dX2_replaceFeel_14 (lv_at hl 1 rfl) ?_
  refine q_iln M dX2_replaceFeel_15 (lv_at hl 2 rfl) ?_
  refine qc_iV (As := [.int (iI p), .int (iI v)]) (rest := []) (wc := WRow cI (a 18) (a 19) 12 (μ 4)) (wc2 := WRow cI (a 18) (a 19) 12 (iU (μ 4) p v)) (ws2 := WPat cI a (mset (mset μ 4 (iU (μ 4) p v)) 5 (iU (μ 5) p u))) M w hA hl (k_replace l D cI cZ cJ _ _ _ _ p v (by omega)) gX2_replaceFeel_X3_replace rfl ⟨rfl, rfl, by decide, by decide⟩ ⟨Nat.zero_le _, Nat.zero_le _⟩ 2 ⟨rfl, by decide +kernel⟩ rfl [false, false, false, false, false, false, false, true, true] rfl rfl 7 rfl rfl rfl (Nat.le_of_ble_eq_true rfl) rfl dX2_replaceFeel_16 (fun H locs w => ?_)
  exact kret _ _ _ _ _ dX2_replaceFeel_19 w rfl

set_option maxHeartbeats 4000000 in
set_option maxRecDepth 100000 in
/-- Patterns.replaceFrozen -/
theorem k_replaceFrozen (l : Launch) (D : va_G) (cI cZ cJ : ClassId) (a : Nat → Nat) (μ : Nat → Int → Int) (p b : Int) (hI : IP μ) (hc : (0 ≤ p ∧ p < 12) ∧ 0 ≤ b ∧ b ≤ 1) : Ci l D (tY cI cZ cJ) yX2_replaceFrozen wsX2_replaceFrozen rmX2_replaceFrozen [.ref (a 1), .int (iI p), .int (iI b), .ref (a 12)] (WPat cI a μ) (μ 6 p) (WPat cI a (mset (mset μ 6 (iU (μ 6) p b)) 7 (frz μ p b))) := by
  have h2 := hI.1
  have h3 := hI.2.1
  have h4 := hI.2.2.1
  have h5 := hI.2.2.2.1
  have h6 := hI.2.2.2.2.1
  have h7 := hI.2.2.2.2.2.1
  have h1 := hI.2.2.2.2.2.2
  refine qz_of (by decide +kernel) rfl (Nat.le_of_ble_eq_true rfl) (by have := h6 p; omega) ?_
  intro zp ze zs zm zargs zbelow zmeth zc A Q ls M hA w hl kret
  have hl : lv_has ls 6 [(0, .ref (a 1)), (1, .int (iI p)), (2, .int (iI b)), (3, .ref (a 12))] := hl
  have in2 : ∀ w ∈ u_ws RX2 TX2 6, w ∈ wsX2_replaceFrozen := by decide +kernel
  refine q_aln M dX2_replaceFrozen_0 (lv_at hl 0 rfl) ?_
  refine q_get (v := .ref (a 22)) M w in2 2 4 rfl rfl (by decide) (by decide +kernel) rfl rfl dX2_replaceFrozen_1 ?_
  refine q_iln M dX2_replaceFrozen_4 (lv_at hl 1 rfl) ?_
  refine q_iln M dX2_replaceFrozen_5 (lv_at hl 2 rfl) ?_
  refine q_if_eq (tgt := 13) M dX2_replaceFrozen_6 (by decide) (by omega) (fun c6 => ?_) (fun c6 => ?_)
  · refine q_ic M dX2_replaceFrozen_13 ?_
    refine q_top (y := b) (by omega) ?_
    refine qc_iV (As := [.int (iI p), .int (iI b)]) (rest := []) (wc := WRow cI (a 22) (a 23) 12 (μ 6)) (wc2 := WRow cI (a 22) (a 23) 12 (iU (μ 6) p b)) (ws2 := WPat cI a (mset μ 6 (iU (μ 6) p b))) M w hA hl (k_replace l D cI cZ cJ _ _ _ _ p b (by omega)) gX2_replaceFrozen_X3_replace rfl ⟨rfl, rfl, by decide, by decide⟩ ⟨Nat.zero_le _, Nat.zero_le _⟩ 2 ⟨rfl, by decide +kernel⟩ rfl [false, false, false, false, false, false, false, false, false, false, false, true, true] rfl rfl 11 rfl rfl rfl (Nat.le_of_ble_eq_true rfl) rfl dX2_replaceFrozen_14 (fun H locs w => ?_)
    have q6 := h6 p
    refine q_ic M dX2_replaceFrozen_17 ?_
    refine q_icmp_ne (tgt := 25) M dX2_replaceFrozen_18 (by decide) (by omega) (fun c18 => ?_) (fun c18 => ?_)
    · refine q_ic M dX2_replaceFrozen_25 ?_
      refine q_is (lv' := [(4, .int (iI 0)), (0, .ref (a 1)), (1, .int (iI p)), (2, .int (iI b)), (3, .ref (a 12))]) M dX2_replaceFrozen_26 hl (by decide) rfl (fun ls hl => ?_)
      refine q_iln M dX2_replaceFrozen_28 (lv_at hl 3 rfl) ?_
      refine q_if_eq (tgt := 74) M dX2_replaceFrozen_29 (by decide) (by omega) (fun c29 => ?_) (fun c29 => ?_)
      · refine q_il M dX2_replaceFrozen_74 (lv_at hl 0 rfl) ?_
        have e : frz μ p b = μ 7 := by unfold frz; rw [if_neg (by omega)]
        have w : wW D A zs.heap (WPat cI a (mset (mset μ 6 (iU (μ 6) p b)) 7 (frz μ p b))) H locs := by rw [e]; exact w
        exact kret _ _ _ _ _ dX2_replaceFrozen_76 w (by omega)
      · refine q_il M dX2_replaceFrozen_32 (lv_at hl 0 rfl) ?_
        refine q_if_ne (tgt := 74) M dX2_replaceFrozen_34 (by decide) (by omega) (fun c34 => ?_) (fun c34 => ?_)
        · exfalso; omega
        · refine q_ic M dX2_replaceFrozen_37 ?_
          refine q_is (lv' := [(5, .int (iI 0)), (4, .int (iI 0)), (0, .ref (a 1)), (1, .int (iI p)), (2, .int (iI b)), (3, .ref (a 12))]) M dX2_replaceFrozen_38 hl (by decide) rfl (fun ls hl => ?_)
          have lp40 : ∀ (n40 : Nat) (i : Int), (0 ≤ i ∧ i ≤ 8) → (8 - i : Int) < (n40 : Int) → ∀ (H : Heap) (locs : List Loc) (ls : Array Slot), wW D A zs.heap (WPat cI a (mset (mset μ 6 (iU (μ 6) p b)) 7 (cpF (μ 7) (μ 1) (p * 8) i))) H locs → lv_has ls 6 [(0, .ref (a 1)), (1, .int (iI p)), (2, .int (iI b)), (3, .ref (a 12)), (4, .int (iI 0)), (5, .int (iI i))] → W zp l ze rmX2_replaceFrozen zs zm zargs zbelow zmeth zc H locs 0 0 Q (F0 zm 40 ls []) := by
            intro n40
            induction n40 with
            | zero => intro i hj hm H locs ls w hl; exfalso; omega
            | succ n40 ih40 =>
              intro i hj hm40 H locs ls w hl
              refine q_il M dX2_replaceFrozen_40 (lv_at hl 5 rfl) ?_
              refine q_bp M dX2_replaceFrozen_42 (by decide +kernel) ?_
              refine q_icmp_ge (tgt := 74) M dX2_replaceFrozen_44 (by decide) (by omega) (fun c44 => ?_) (fun c44 => ?_)
              · refine q_il M dX2_replaceFrozen_74 (lv_at hl 4 rfl) ?_
                have e : frz μ p b = cpF (μ 7) (μ 1) (p * 8) 8 := by unfold frz; rw [if_pos (by omega)]
                rw [show i = 8 by omega, ← e] at w
                exact kret _ _ _ _ _ dX2_replaceFrozen_76 w (by omega)
              · refine q_aln M dX2_replaceFrozen_47 (lv_at hl 0 rfl) ?_
                refine q_get (v := .ref (a 24)) M w in2 2 5 rfl rfl (by decide) (by decide +kernel) rfl rfl dX2_replaceFrozen_48 ?_
                refine q_iln M dX2_replaceFrozen_51 (lv_at hl 1 rfl) ?_
                refine q_bp M dX2_replaceFrozen_52 (by decide +kernel) ?_
                refine q_mul M dX2_replaceFrozen_54 ?_
                refine q_il M dX2_replaceFrozen_55 (lv_at hl 5 rfl) ?_
                refine q_add M dX2_replaceFrozen_57 ?_
                refine q_aln M dX2_replaceFrozen_58 (lv_at hl 3 rfl) ?_
                refine q_il M dX2_replaceFrozen_59 (lv_at hl 5 rfl) ?_
                refine qc_iV (As := [.int (iI i)]) (rest := [.int (iI ((p * 8) + i)), .ref (a 24)]) (wc := WRow cI (a 12) (a 13) 8 (μ 1)) (wc2 := WRow cI (a 12) (a 13) 8 (μ 1)) (ws2 := WPat cI a (mset (mset μ 6 (iU (μ 6) p b)) 7 (cpF (μ 7) (μ 1) (p * 8) i))) M w hA hl (k_get l D cI cZ cJ _ _ _ _ i (by omega)) gX2_replaceFrozen_X3_get rfl ⟨rfl, rfl, by decide, by decide⟩ ⟨Nat.zero_le _, Nat.zero_le _⟩ 1 ⟨rfl, by decide +kernel⟩ rfl [true, true] rfl rfl 0 rfl rfl rfl (Nat.le_of_ble_eq_true rfl) rfl dX2_replaceFrozen_61 (fun H locs w => ?_)
                refine qc_iV (As := [.int (iI ((p * 8) + i)), .int (iI ((μ 1) i))]) (rest := []) (wc := WRow cI (a 24) (a 25) 96 (cpF (μ 7) (μ 1) (p * 8) i)) (wc2 := WRow cI (a 24) (a 25) 96 (iU (cpF (μ 7) (μ 1) (p * 8) i) ((p * 8) + i) ((μ 1) i))) (ws2 := WPat cI a (mset (mset μ 6 (iU (μ 6) p b)) 7 (iU (cpF (μ 7) (μ 1) (p * 8) i) ((p * 8) + i) ((μ 1) i)))) M w hA hl (k_replace l D cI cZ cJ _ _ _ _ ((p * 8) + i) ((μ 1) i) (by omega)) gX2_replaceFrozen_X3_replace rfl ⟨rfl, rfl, by decide, by decide⟩ ⟨Nat.zero_le _, Nat.zero_le _⟩ 2 ⟨rfl, by decide +kernel⟩ rfl [false, false, false, false, false, false, false, false, false, false, false, false, false, true, true] rfl rfl 13 rfl rfl rfl (Nat.le_of_ble_eq_true rfl) rfl dX2_replaceFrozen_64 (fun H locs w => ?_)
                refine q_pop M dX2_replaceFrozen_67 rfl ?_
                refine q_inc (z := i) (lv' := [(5, .int (iI (i + 1))), (0, .ref (a 1)), (1, .int (iI p)), (2, .int (iI b)), (3, .ref (a 12)), (4, .int (iI 0))]) M dX2_replaceFrozen_68 hl (k := 5) rfl (by decide) rfl (fun ls hl => ?_)
                refine q_go (tgt := 40) M dX2_replaceFrozen_71 (by decide) ?_
                rw [cpF_s _ _ _ hj.1] at w
                exact ih40 (i + 1) (by omega) (by omega) _ _ _ w (lv_sub hl [1, 2, 3, 4, 5, 0] rfl)
          have w : wW D A zs.heap (WPat cI a (mset (mset μ 6 (iU (μ 6) p b)) 7 (cpF (μ 7) (μ 1) (p * 8) 0))) H locs := by rw [cpF_0]; exact w
          exact lp40 9 0 (by omega) (by omega) _ _ _ w (lv_sub hl [2, 3, 4, 5, 1, 0] rfl)
    · refine q_ic M dX2_replaceFrozen_21 ?_
      refine q_go (tgt := 26) M dX2_replaceFrozen_22 (by decide) ?_
      refine q_is (lv' := [(4, .int (iI 1)), (0, .ref (a 1)), (1, .int (iI p)), (2, .int (iI b)), (3, .ref (a 12))]) M dX2_replaceFrozen_26 hl (by decide) rfl (fun ls hl => ?_)
      refine q_iln M dX2_replaceFrozen_28 (lv_at hl 3 rfl) ?_
      refine q_if_eq (tgt := 74) M dX2_replaceFrozen_29 (by decide) (by omega) (fun c29 => ?_) (fun c29 => ?_)
      · refine q_il M dX2_replaceFrozen_74 (lv_at hl 0 rfl) ?_
        have e : frz μ p b = μ 7 := by unfold frz; rw [if_neg (by omega)]
        have w : wW D A zs.heap (WPat cI a (mset (mset μ 6 (iU (μ 6) p b)) 7 (frz μ p b))) H locs := by rw [e]; exact w
        exact kret _ _ _ _ _ dX2_replaceFrozen_76 w (by omega)
      · refine q_il M dX2_replaceFrozen_32 (lv_at hl 0 rfl) ?_
        refine q_if_ne (tgt := 74) M dX2_replaceFrozen_34 (by decide) (by omega) (fun c34 => ?_) (fun c34 => ?_)
        · refine q_il M dX2_replaceFrozen_74 (lv_at hl 0 rfl) ?_
          have e : frz μ p b = μ 7 := by unfold frz; rw [if_neg (by omega)]
          have w : wW D A zs.heap (WPat cI a (mset (mset μ 6 (iU (μ 6) p b)) 7 (frz μ p b))) H locs := by rw [e]; exact w
          exact kret _ _ _ _ _ dX2_replaceFrozen_76 w (by omega)
        · exfalso; omega
  · refine q_ic M dX2_replaceFrozen_9 ?_
    refine q_go (tgt := 14) M dX2_replaceFrozen_10 (by decide) ?_
    refine q_top (y := b) (by omega) ?_
    refine qc_iV (As := [.int (iI p), .int (iI b)]) (rest := []) (wc := WRow cI (a 22) (a 23) 12 (μ 6)) (wc2 := WRow cI (a 22) (a 23) 12 (iU (μ 6) p b)) (ws2 := WPat cI a (mset μ 6 (iU (μ 6) p b))) M w hA hl (k_replace l D cI cZ cJ _ _ _ _ p b (by omega)) gX2_replaceFrozen_X3_replace rfl ⟨rfl, rfl, by decide, by decide⟩ ⟨Nat.zero_le _, Nat.zero_le _⟩ 2 ⟨rfl, by decide +kernel⟩ rfl [false, false, false, false, false, false, false, false, false, false, false, true, true] rfl rfl 11 rfl rfl rfl (Nat.le_of_ble_eq_true rfl) rfl dX2_replaceFrozen_14 (fun H locs w => ?_)
    have q6 := h6 p
    refine q_ic M dX2_replaceFrozen_17 ?_
    refine q_icmp_ne (tgt := 25) M dX2_replaceFrozen_18 (by decide) (by omega) (fun c18 => ?_) (fun c18 => ?_)
    · refine q_ic M dX2_replaceFrozen_25 ?_
      refine q_is (lv' := [(4, .int (iI 0)), (0, .ref (a 1)), (1, .int (iI p)), (2, .int (iI b)), (3, .ref (a 12))]) M dX2_replaceFrozen_26 hl (by decide) rfl (fun ls hl => ?_)
      refine q_iln M dX2_replaceFrozen_28 (lv_at hl 3 rfl) ?_
      refine q_if_eq (tgt := 74) M dX2_replaceFrozen_29 (by decide) (by omega) (fun c29 => ?_) (fun c29 => ?_)
      · refine q_il M dX2_replaceFrozen_74 (lv_at hl 0 rfl) ?_
        have e : frz μ p b = μ 7 := by unfold frz; rw [if_neg (by omega)]
        have w : wW D A zs.heap (WPat cI a (mset (mset μ 6 (iU (μ 6) p b)) 7 (frz μ p b))) H locs := by rw [e]; exact w
        exact kret _ _ _ _ _ dX2_replaceFrozen_76 w (by omega)
      · refine q_il M dX2_replaceFrozen_32 (lv_at hl 0 rfl) ?_
        refine q_if_ne (tgt := 74) M dX2_replaceFrozen_34 (by decide) (by omega) (fun c34 => ?_) (fun c34 => ?_)
        · exfalso; omega
        · refine q_ic M dX2_replaceFrozen_37 ?_
          refine q_is (lv' := [(5, .int (iI 0)), (4, .int (iI 0)), (0, .ref (a 1)), (1, .int (iI p)), (2, .int (iI b)), (3, .ref (a 12))]) M dX2_replaceFrozen_38 hl (by decide) rfl (fun ls hl => ?_)
          have lp40 : ∀ (n40 : Nat) (i : Int), (0 ≤ i ∧ i ≤ 8) → (8 - i : Int) < (n40 : Int) → ∀ (H : Heap) (locs : List Loc) (ls : Array Slot), wW D A zs.heap (WPat cI a (mset (mset μ 6 (iU (μ 6) p b)) 7 (cpF (μ 7) (μ 1) (p * 8) i))) H locs → lv_has ls 6 [(0, .ref (a 1)), (1, .int (iI p)), (2, .int (iI b)), (3, .ref (a 12)), (4, .int (iI 0)), (5, .int (iI i))] → W zp l ze rmX2_replaceFrozen zs zm zargs zbelow zmeth zc H locs 0 0 Q (F0 zm 40 ls []) := by
            intro n40
            induction n40 with
            | zero => intro i hj hm H locs ls w hl; exfalso; omega
            | succ n40 ih40 =>
              intro i hj hm40 H locs ls w hl
              refine q_il M dX2_replaceFrozen_40 (lv_at hl 5 rfl) ?_
              refine q_bp M dX2_replaceFrozen_42 (by decide +kernel) ?_
              refine q_icmp_ge (tgt := 74) M dX2_replaceFrozen_44 (by decide) (by omega) (fun c44 => ?_) (fun c44 => ?_)
              · refine q_il M dX2_replaceFrozen_74 (lv_at hl 4 rfl) ?_
                have e : frz μ p b = cpF (μ 7) (μ 1) (p * 8) 8 := by unfold frz; rw [if_pos (by omega)]
                rw [show i = 8 by omega, ← e] at w
                exact kret _ _ _ _ _ dX2_replaceFrozen_76 w (by omega)
              · refine q_aln M dX2_replaceFrozen_47 (lv_at hl 0 rfl) ?_
                refine q_get (v := .ref (a 24)) M w in2 2 5 rfl rfl (by decide) (by decide +kernel) rfl rfl dX2_replaceFrozen_48 ?_
                refine q_iln M dX2_replaceFrozen_51 (lv_at hl 1 rfl) ?_
                refine q_bp M dX2_replaceFrozen_52 (by decide +kernel) ?_
                refine q_mul M dX2_replaceFrozen_54 ?_
                refine q_il M dX2_replaceFrozen_55 (lv_at hl 5 rfl) ?_
                refine q_add M dX2_replaceFrozen_57 ?_
                refine q_aln M dX2_replaceFrozen_58 (lv_at hl 3 rfl) ?_
                refine q_il M dX2_replaceFrozen_59 (lv_at hl 5 rfl) ?_
                refine qc_iV (As := [.int (iI i)]) (rest := [.int (iI ((p * 8) + i)), .ref (a 24)]) (wc := WRow cI (a 12) (a 13) 8 (μ 1)) (wc2 := WRow cI (a 12) (a 13) 8 (μ 1)) (ws2 := WPat cI a (mset (mset μ 6 (iU (μ 6) p b)) 7 (cpF (μ 7) (μ 1) (p * 8) i))) M w hA hl (k_get l D cI cZ cJ _ _ _ _ i (by omega)) gX2_replaceFrozen_X3_get rfl ⟨rfl, rfl, by decide, by decide⟩ ⟨Nat.zero_le _, Nat.zero_le _⟩ 1 ⟨rfl, by decide +kernel⟩ rfl [true, true] rfl rfl 0 rfl rfl rfl (Nat.le_of_ble_eq_true rfl) rfl dX2_replaceFrozen_61 (fun H locs w => ?_)
                refine qc_iV (As := [.int (iI ((p * 8) + i)), .int (iI ((μ 1) i))]) (rest := []) (wc := WRow cI (a 24) (a 25) 96 (cpF (μ 7) (μ 1) (p * 8) i)) (wc2 := WRow cI (a 24) (a 25) 96 (iU (cpF (μ 7) (μ 1) (p * 8) i) ((p * 8) + i) ((μ 1) i))) (ws2 := WPat cI a (mset (mset μ 6 (iU (μ 6) p b)) 7 (iU (cpF (μ 7) (μ 1) (p * 8) i) ((p * 8) + i) ((μ 1) i)))) M w hA hl (k_replace l D cI cZ cJ _ _ _ _ ((p * 8) + i) ((μ 1) i) (by omega)) gX2_replaceFrozen_X3_replace rfl ⟨rfl, rfl, by decide, by decide⟩ ⟨Nat.zero_le _, Nat.zero_le _⟩ 2 ⟨rfl, by decide +kernel⟩ rfl [false, false, false, false, false, false, false, false, false, false, false, false, false, true, true] rfl rfl 13 rfl rfl rfl (Nat.le_of_ble_eq_true rfl) rfl dX2_replaceFrozen_64 (fun H locs w => ?_)
                refine q_pop M dX2_replaceFrozen_67 rfl ?_
                refine q_inc (z := i) (lv' := [(5, .int (iI (i + 1))), (0, .ref (a 1)), (1, .int (iI p)), (2, .int (iI b)), (3, .ref (a 12)), (4, .int (iI 0))]) M dX2_replaceFrozen_68 hl (k := 5) rfl (by decide) rfl (fun ls hl => ?_)
                refine q_go (tgt := 40) M dX2_replaceFrozen_71 (by decide) ?_
                rw [cpF_s _ _ _ hj.1] at w
                exact ih40 (i + 1) (by omega) (by omega) _ _ _ w (lv_sub hl [1, 2, 3, 4, 5, 0] rfl)
          have w : wW D A zs.heap (WPat cI a (mset (mset μ 6 (iU (μ 6) p b)) 7 (cpF (μ 7) (μ 1) (p * 8) 0))) H locs := by rw [cpF_0]; exact w
          exact lp40 9 0 (by omega) (by omega) _ _ _ w (lv_sub hl [2, 3, 4, 5, 1, 0] rfl)
    · refine q_ic M dX2_replaceFrozen_21 ?_
      refine q_go (tgt := 26) M dX2_replaceFrozen_22 (by decide) ?_
      refine q_is (lv' := [(4, .int (iI 1)), (0, .ref (a 1)), (1, .int (iI p)), (2, .int (iI b)), (3, .ref (a 12))]) M dX2_replaceFrozen_26 hl (by decide) rfl (fun ls hl => ?_)
      refine q_iln M dX2_replaceFrozen_28 (lv_at hl 3 rfl) ?_
      refine q_if_eq (tgt := 74) M dX2_replaceFrozen_29 (by decide) (by omega) (fun c29 => ?_) (fun c29 => ?_)
      · refine q_il M dX2_replaceFrozen_74 (lv_at hl 0 rfl) ?_
        have e : frz μ p b = μ 7 := by unfold frz; rw [if_neg (by omega)]
        have w : wW D A zs.heap (WPat cI a (mset (mset μ 6 (iU (μ 6) p b)) 7 (frz μ p b))) H locs := by rw [e]; exact w
        exact kret _ _ _ _ _ dX2_replaceFrozen_76 w (by omega)
      · refine q_il M dX2_replaceFrozen_32 (lv_at hl 0 rfl) ?_
        refine q_if_ne (tgt := 74) M dX2_replaceFrozen_34 (by decide) (by omega) (fun c34 => ?_) (fun c34 => ?_)
        · refine q_il M dX2_replaceFrozen_74 (lv_at hl 0 rfl) ?_
          have e : frz μ p b = μ 7 := by unfold frz; rw [if_neg (by omega)]
          have w : wW D A zs.heap (WPat cI a (mset (mset μ 6 (iU (μ 6) p b)) 7 (frz μ p b))) H locs := by rw [e]; exact w
          exact kret _ _ _ _ _ dX2_replaceFrozen_76 w (by omega)
        · exfalso; omega
