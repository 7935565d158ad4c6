set_option maxHeartbeats 4000000 in
set_option maxRecDepth 100000 in
/-- setSize -/
theorem k_setSize (l : Launch) (hfl : l.stackTraces = false) (D : va_G) (cI cZ cJ : ClassId) (a : Nat → Nat) (μ : Nat → Int → Int) (s v : Int) (hs : -2147483648 ≤ s ∧ s < 2147483648) (hv : -2147483648 ≤ v ∧ v < 2147483648) (h23 : μ 23 0 = 0 ∨ μ 23 0 = 1) : Xi l D (tY cI cZ cJ) yX6_setSize wsX6_setSize rmX6_setSize [.ref (a 0), .int (iI s), .int (iI v)] (WAll cI a μ) (sq (chk (0 ≤ s ∧ s ≤ 7) eIOB) (sq (chk (1 ≤ v ∧ v ≤ 6) eIAE) (chk (μ 23 0 = 0) eISE))) (μ 0 s) (WAll cI a (mset μ 0 (iU (μ 0) s v))) := by
  refine xi_of hfl (by decide +kernel) rfl (Nat.le_of_ble_eq_true rfl) (Or.inl rfl) ?_
  intro zp ze zs zm zargs zbelow zmeth zc A Q ls M hA w hl hT kret kout kthr
  have hl : lv_has ls 3 [(0, .ref (a 0)), (1, .int (iI s)), (2, .int (iI v))] := hl
  have in6 : ∀ w ∈ u_ws RX6 TX6 11, w ∈ wsX6_setSize := by decide +kernel
  refine q_iln M dX6_setSize_0 (lv_at hl 1 rfl) ?_
  refine qx_vS (As := [.int (iI s)]) (rest := []) (wc := []) (wc2 := []) (ws2 := WAll cI a μ) M w hA hT hl (k_needSample l hfl D cI cZ cJ s (by omega)) gX6_setSize_X6_needSample rfl ⟨by decide, by decide⟩ ⟨by decide, by decide⟩ 1 (by decide +kernel) rfl [] rfl rfl rfl (Nat.le_of_ble_eq_true rfl) rfl dX6_setSize_1 (fun E ce q9 H1 locs1 hE w h1 h2 h3 => ?_) (fun H locs x1 w => ?_)
  · obtain ⟨hq, rfl⟩ := chk_e hE
    exact kout _ _ _ _ _ _ _ _ _ _ (by decide) (by decide) w h1 h2 h3 (by rw [chk_f (show ¬ (0 ≤ s ∧ s ≤ 7) by omega)]; rfl)
  have y1 := chk_n x1
  refine q_iln M dX6_setSize_4 (lv_at hl 2 rfl) ?_
  refine q_ic M dX6_setSize_5 ?_
  refine q_bp M dX6_setSize_6 (by decide +kernel) ?_
  refine qx_vS (As := [.int (iI v), .int (iI 1), .int (iI 6)]) (rest := []) (wc := []) (wc2 := []) (ws2 := WAll cI a μ) M w hA hT hl (k_needRange l hfl D cI cZ cJ v 1 6 (by omega)) gX6_setSize_X6_needRange rfl ⟨by decide, by decide⟩ ⟨by decide, by decide⟩ 3 (by decide +kernel) rfl [] rfl rfl rfl (Nat.le_of_ble_eq_true rfl) rfl dX6_setSize_8 (fun E ce q9 H1 locs1 hE w h1 h2 h3 => ?_) (fun H locs x8 w => ?_)
  · obtain ⟨hq, rfl⟩ := chk_e hE
    exact kout _ _ _ _ _ _ _ _ _ _ (by decide) (by decide) w h1 h2 h3 (by rw [chk_t (show 0 ≤ s ∧ s ≤ 7 by omega), chk_f (show ¬ (1 ≤ v ∧ v ≤ 6) by omega)]; rfl)
  have y8 := chk_n x8
  refine q_aln M dX6_setSize_11 (lv_at hl 0 rfl) ?_
  refine qx_vV (As := []) (rest := []) (wc := WXH cI a μ) (wc2 := WXH cI a μ) (ws2 := WAll cI a μ) M w hA hT hl (k_needNotPlayed l hfl D cI cZ cJ a μ h23) gX6_setSize_X6_needNotPlayed rfl ⟨by decide, by decide⟩ ⟨by decide, by decide⟩ 0 ⟨rfl, by decide +kernel⟩ rfl [true, false, false, false, false, false, false, false, false, false, false, false, false, false, false, false, false, false, false, false, false, false, false, false, false, false, false, false, false, false, false, false, false, false, false, false, false, true] rfl rfl 0 rfl rfl rfl (Nat.le_of_ble_eq_true rfl) rfl dX6_setSize_12 (fun E ce q9 H1 locs1 hE w h1 h2 h3 => ?_) (fun H locs x12 w => ?_)
  · obtain ⟨hq, rfl⟩ := chk_e hE
    exact kout _ _ _ _ _ _ _ _ _ _ (by decide) (by decide) w h1 h2 h3 (by rw [chk_t (show 0 ≤ s ∧ s ≤ 7 by omega), chk_t (show 1 ≤ v ∧ v ≤ 6 by omega), chk_f (show ¬ (μ 23 0 = 0) by omega)]; rfl)
  have y12 := chk_n x12
  refine q_aln M dX6_setSize_15 (lv_at hl 0 rfl) ?_
  refine q_get (v := .ref (a 10)) M w in6 0 0 rfl rfl (by decide) (by decide +kernel) rfl rfl dX6_setSize_16 ?_
  refine q_iln M dX6_setSize_19 (lv_at hl 1 rfl) ?_
  refine q_iln M dX6_setSize_20 (lv_at hl 2 rfl) ?_
  refine qc_iV (As := [.int (iI s), .int (iI v)]) (rest := []) (wc := WRow cI (a 10) (a 11) 8 (μ 0)) (wc2 := WRow cI (a 10) (a 11) 8 (iU (μ 0) s v)) (ws2 := WAll cI a (mset μ 0 (iU (μ 0) s v))) M w hA hl (k_replace l D cI cZ cJ _ _ _ _ s v (by omega)) gX6_setSize_X3_replace rfl ⟨rfl, rfl, by decide, by decide⟩ ⟨by decide, by decide⟩ 2 ⟨rfl, by decide +kernel⟩ rfl [false, false, false, false, false, false, false, false, false, false, false, false, false, false, false, false, false, false, false, false, false, false, false, false, false, false, false, false, false, false, false, false, false, false, false, false, false, false, false, false, false, false, false, false, false, false, false, false, true, true] rfl rfl 48 rfl rfl rfl (Nat.le_of_ble_eq_true rfl) rfl dX6_setSize_21 (fun H locs w => ?_)
  exact kret _ _ _ _ _ _ _ (by decide) (by decide) dX6_setSize_24 w (by rw [chk_t (show 0 ≤ s ∧ s ≤ 7 by omega), chk_t (show 1 ≤ v ∧ v ≤ 6 by omega), chk_t (show μ 23 0 = 0 by omega)]; rfl) rfl

set_option maxHeartbeats 4000000 in
set_option maxRecDepth 100000 in
/-- tune -/
theorem k_tune (l : Launch) (hfl : l.stackTraces = false) (D : va_G) (cI cZ cJ : ClassId) (a : Nat → Nat) (μ : Nat → Int → Int) (s v : Int) (hs : -2147483648 ≤ s ∧ s < 2147483648) (hv : -2147483648 ≤ v ∧ v < 2147483648) : Xi l D (tY cI cZ cJ) yX6_tune wsX6_tune rmX6_tune [.ref (a 0), .int (iI s), .int (iI v)] (WAll cI a μ) (sq (chk (0 ≤ s ∧ s ≤ 7) eIOB) (chk (-12 ≤ v ∧ v ≤ 12) eIAE)) (μ 1 s) (WAll cI a (mset μ 1 (iU (μ 1) s v))) := by
  refine xi_of hfl (by decide +kernel) rfl (Nat.le_of_ble_eq_true rfl) (Or.inl rfl) ?_
  intro zp ze zs zm zargs zbelow zmeth zc A Q ls M hA w hl hT kret kout kthr
  have hl : lv_has ls 3 [(0, .ref (a 0)), (1, .int (iI s)), (2, .int (iI v))] := hl
  have in6 : ∀ w ∈ u_ws RX6 TX6 11, w ∈ wsX6_tune := by decide +kernel
  refine q_iln M dX6_tune_0 (lv_at hl 1 rfl) ?_
  refine qx_vS (As := [.int (iI s)]) (rest := []) (wc := []) (wc2 := []) (ws2 := WAll cI a μ) M w hA hT hl (k_needSample l hfl D cI cZ cJ s (by omega)) gX6_tune_X6_needSample rfl ⟨by decide, by decide⟩ ⟨by decide, by decide⟩ 1 (by decide +kernel) rfl [] rfl rfl rfl (Nat.le_of_ble_eq_true rfl) rfl dX6_tune_1 (fun E ce q9 H1 locs1 hE w h1 h2 h3 => ?_) (fun H locs x1 w => ?_)
  · obtain ⟨hq, rfl⟩ := chk_e hE
    exact kout _ _ _ _ _ _ _ _ _ _ (by decide) (by decide) w h1 h2 h3 (by rw [chk_f (show ¬ (0 ≤ s ∧ s ≤ 7) by omega)]; rfl)
  have y1 := chk_n x1
  refine q_iln M dX6_tune_4 (lv_at hl 2 rfl) ?_
  refine q_bp M dX6_tune_5 (by decide +kernel) ?_
  refine q_bp M dX6_tune_7 (by decide +kernel) ?_
  refine qx_vS (As := [.int (iI v), .int (iI (-12)), .int (iI 12)]) (rest := []) (wc := []) (wc2 := []) (ws2 := WAll cI a μ) M w hA hT hl (k_needRange l hfl D cI cZ cJ v (-12) 12 (by omega)) gX6_tune_X6_needRange rfl ⟨by decide, by decide⟩ ⟨by decide, by decide⟩ 3 (by decide +kernel) rfl [] rfl rfl rfl (Nat.le_of_ble_eq_true rfl) rfl dX6_tune_9 (fun E ce q9 H1 locs1 hE w h1 h2 h3 => ?_) (fun H locs x9 w => ?_)
  · obtain ⟨hq, rfl⟩ := chk_e hE
    exact kout _ _ _ _ _ _ _ _ _ _ (by decide) (by decide) w h1 h2 h3 (by rw [chk_t (show 0 ≤ s ∧ s ≤ 7 by omega), chk_f (show ¬ (-12 ≤ v ∧ v ≤ 12) by omega)]; rfl)
  have y9 := chk_n x9
  refine q_aln M dX6_tune_12 (lv_at hl 0 rfl) ?_
  refine q_get (v := .ref (a 12)) M w in6 0 1 rfl rfl (by decide) (by decide +kernel) rfl rfl dX6_tune_13 ?_
  refine q_iln M dX6_tune_16 (lv_at hl 1 rfl) ?_
  refine q_iln M dX6_tune_17 (lv_at hl 2 rfl) ?_
  refine qc_iV (As := [.int (iI s), .int (iI v)]) (rest := []) (wc := WRow cI (a 12) (a 13) 8 (μ 1)) (wc2 := WRow cI (a 12) (a 13) 8 (iU (μ 1) s v)) (ws2 := WAll cI a (mset μ 1 (iU (μ 1) s v))) M w hA hl (k_replace l D cI cZ cJ _ _ _ _ s v (by omega)) gX6_tune_X3_replace rfl ⟨rfl, rfl, by decide, by decide⟩ ⟨by decide, by decide⟩ 2 ⟨rfl, by decide +kernel⟩ rfl [false, true, true] rfl rfl 1 rfl rfl rfl (Nat.le_of_ble_eq_true rfl) rfl dX6_tune_18 (fun H locs w => ?_)
  exact kret _ _ _ _ _ _ _ (by decide) (by decide) dX6_tune_21 w (by rw [chk_t (show 0 ≤ s ∧ s ≤ 7 by omega), chk_t (show -12 ≤ v ∧ v ≤ 12 by omega)]; rfl) rfl

set_option maxHeartbeats 4000000 in
set_option maxRecDepth 100000 in
/-- setStep -/
theorem k_setStep (l : Launch) (hfl : l.stackTraces = false) (D : va_G) (cI cZ cJ : ClassId) (a : Nat → Nat) (μ : Nat → Int → Int) (p t s x : Int) (hp : -2147483648 ≤ p ∧ p < 2147483648) (ht : -2147483648 ≤ t ∧ t < 2147483648) (hs : -2147483648 ≤ s ∧ s < 2147483648) (hx : -2147483648 ≤ x ∧ x < 2147483648) (h23 : μ 23 0 = 0 ∨ μ 23 0 = 1) : Xi l D (tY cI cZ cJ) yX6_setStep wsX6_setStep rmX6_setStep [.ref (a 0), .int (iI p), .int (iI t), .int (iI s), .int (iI x)] (WAll cI a μ) (sq (chk (0 ≤ p ∧ p ≤ 11) eIOB) (sq (chk (0 ≤ t ∧ t ≤ 3) eIOB) (sq (chk (0 ≤ s ∧ s ≤ 15) eIOB) (sq (chk (-1 ≤ x ∧ x ≤ 7) eIOB) (chk (μ 23 0 = 0) eISE))))) (μ 2 ((p * 4 + t) * 16 + s)) (WAll cI a (mset μ 2 (iU (μ 2) ((p * 4 + t) * 16 + s) x))) := by
  refine xi_of hfl (by decide +kernel) rfl (Nat.le_of_ble_eq_true rfl) (Or.inl rfl) ?_
  intro zp ze zs zm zargs zbelow zmeth zc A Q ls M hA w hl hT kret kout kthr
  have hl : lv_has ls 5 [(0, .ref (a 0)), (1, .int (iI p)), (2, .int (iI t)), (3, .int (iI s)), (4, .int (iI x))] := hl
  have in6 : ∀ w ∈ u_ws RX6 TX6 11, w ∈ wsX6_setStep := by decide +kernel
  refine q_iln M dX6_setStep_0 (lv_at hl 1 rfl) ?_
  refine qx_vS (As := [.int (iI p)]) (rest := []) (wc := []) (wc2 := []) (ws2 := WAll cI a μ) M w hA hT hl (k_needPattern l hfl D cI cZ cJ p (by omega)) gX6_setStep_X6_needPattern rfl ⟨by decide, by decide⟩ ⟨by decide, by decide⟩ 1 (by decide +kernel) rfl [] rfl rfl rfl (Nat.le_of_ble_eq_true rfl) rfl dX6_setStep_1 (fun E ce q9 H1 locs1 hE w h1 h2 h3 => ?_) (fun H locs x1 w => ?_)
  · obtain ⟨hq, rfl⟩ := chk_e hE
    exact kout _ _ _ _ _ _ _ _ _ _ (by decide) (by decide) w h1 h2 h3 (by rw [chk_f (show ¬ (0 ≤ p ∧ p ≤ 11) by omega)]; rfl)
  have y1 := chk_n x1
  refine q_iln M dX6_setStep_4 (lv_at hl 2 rfl) ?_
  refine q_ic M dX6_setStep_5 ?_
  refine q_ic M dX6_setStep_6 ?_
  refine qx_vS (As := [.int (iI t), .int (iI 0), .int (iI 3)]) (rest := []) (wc := []) (wc2 := []) (ws2 := WAll cI a μ) M w hA hT hl (k_needIndex l hfl D cI cZ cJ t 0 3 (by omega)) gX6_setStep_X6_needIndex rfl ⟨by decide, by decide⟩ ⟨by decide, by decide⟩ 3 (by decide +kernel) rfl [] rfl rfl rfl (Nat.le_of_ble_eq_true rfl) rfl dX6_setStep_7 (fun E ce q9 H1 locs1 hE w h1 h2 h3 => ?_) (fun H locs x7 w => ?_)
  · obtain ⟨hq, rfl⟩ := chk_e hE
    exact kout _ _ _ _ _ _ _ _ _ _ (by decide) (by decide) w h1 h2 h3 (by rw [chk_t (show 0 ≤ p ∧ p ≤ 11 by omega), chk_f (show ¬ (0 ≤ t ∧ t ≤ 3) by omega)]; rfl)
  have y7 := chk_n x7
  refine q_iln M dX6_setStep_10 (lv_at hl 3 rfl) ?_
  refine q_ic M dX6_setStep_11 ?_
  refine q_bp M dX6_setStep_12 (by decide +kernel) ?_
  refine qx_vS (As := [.int (iI s), .int (iI 0), .int (iI 15)]) (rest := []) (wc := []) (wc2 := []) (ws2 := WAll cI a μ) M w hA hT hl (k_needIndex l hfl D cI cZ cJ s 0 15 (by omega)) gX6_setStep_X6_needIndex rfl ⟨by decide, by decide⟩ ⟨by decide, by decide⟩ 3 (by decide +kernel) rfl [] rfl rfl rfl (Nat.le_of_ble_eq_true rfl) rfl dX6_setStep_14 (fun E ce q9 H1 locs1 hE w h1 h2 h3 => ?_) (fun H locs x14 w => ?_)
  · obtain ⟨hq, rfl⟩ := chk_e hE
    exact kout _ _ _ _ _ _ _ _ _ _ (by decide) (by decide) w h1 h2 h3 (by rw [chk_t (show 0 ≤ p ∧ p ≤ 11 by omega), chk_t (show 0 ≤ t ∧ t ≤ 3 by omega), chk_f (show ¬ (0 ≤ s ∧ s ≤ 15) by omega)]; rfl)
  have y14 := chk_n x14
  refine q_il M dX6_setStep_17 (lv_at hl 4 rfl) ?_
  refine q_ic M dX6_setStep_19 ?_
  refine q_bp M dX6_setStep_20 (by decide +kernel) ?_
  refine qx_vS (As := [.int (iI x), .int (iI (-1)), .int (iI 7)]) (rest := []) (wc := []) (wc2 := []) (ws2 := WAll cI a μ) M w hA hT hl (k_needIndex l hfl D cI cZ cJ x (-1) 7 (by omega)) gX6_setStep_X6_needIndex rfl ⟨by decide, by decide⟩ ⟨by decide, by decide⟩ 3 (by decide +kernel) rfl [] rfl rfl rfl (Nat.le_of_ble_eq_true rfl) rfl dX6_setStep_22 (fun E ce q9 H1 locs1 hE w h1 h2 h3 => ?_) (fun H locs x22 w => ?_)
  · obtain ⟨hq, rfl⟩ := chk_e hE
    exact kout _ _ _ _ _ _ _ _ _ _ (by decide) (by decide) w h1 h2 h3 (by rw [chk_t (show 0 ≤ p ∧ p ≤ 11 by omega), chk_t (show 0 ≤ t ∧ t ≤ 3 by omega), chk_t (show 0 ≤ s ∧ s ≤ 15 by omega), chk_f (show ¬ (-1 ≤ x ∧ x ≤ 7) by omega)]; rfl)
  have y22 := chk_n x22
  refine q_aln M dX6_setStep_25 (lv_at hl 0 rfl) ?_
  refine qx_vV (As := []) (rest := []) (wc := WXH cI a μ) (wc2 := WXH cI a μ) (ws2 := WAll cI a μ) M w hA hT hl (k_needNotPlayed l hfl D cI cZ cJ a μ h23) gX6_setStep_X6_needNotPlayed rfl ⟨by decide, by decide⟩ ⟨by decide, by decide⟩ 0 ⟨rfl, by decide +kernel⟩ rfl [true, false, false, false, false, false, false, false, false, false, false, false, false, false, false, false, false, false, false, false, false, false, false, false, false, false, false, false, false, false, false, false, false, false, false, false, false, true] rfl rfl 0 rfl rfl rfl (Nat.le_of_ble_eq_true rfl) rfl dX6_setStep_26 (fun E ce q9 H1 locs1 hE w h1 h2 h3 => ?_) (fun H locs x26 w => ?_)
  · obtain ⟨hq, rfl⟩ := chk_e hE
    exact kout _ _ _ _ _ _ _ _ _ _ (by decide) (by decide) w h1 h2 h3 (by rw [chk_t (show 0 ≤ p ∧ p ≤ 11 by omega), chk_t (show 0 ≤ t ∧ t ≤ 3 by omega), chk_t (show 0 ≤ s ∧ s ≤ 15 by omega), chk_t (show -1 ≤ x ∧ x ≤ 7 by omega), chk_f (show ¬ (μ 23 0 = 0) by omega)]; rfl)
  have y26 := chk_n x26
  refine q_aln M dX6_setStep_29 (lv_at hl 0 rfl) ?_
  refine q_get (v := .ref (a 1)) M w in6 0 2 rfl rfl (by decide) (by decide +kernel) rfl rfl dX6_setStep_30 ?_
  refine q_iln M dX6_setStep_33 (lv_at hl 1 rfl) ?_
  refine q_iln M dX6_setStep_34 (lv_at hl 2 rfl) ?_
  refine q_iln M dX6_setStep_35 (lv_at hl 3 rfl) ?_
  refine q_il M dX6_setStep_36 (lv_at hl 4 rfl) ?_
  refine qc_iV (As := [.int (iI p), .int (iI t), .int (iI s), .int (iI x)]) (rest := []) (wc := WPat cI a μ) (wc2 := WPat cI a (mset μ 2 (iU (μ 2) ((p * 4 + t) * 16 + s) x))) (ws2 := WAll cI a (mset μ 2 (iU (μ 2) ((p * 4 + t) * 16 + s) x))) M w hA hl (k_replaceStep l D cI cZ cJ a μ p t s x (by omega)) gX6_setStep_X2_replaceStep rfl ⟨rfl, rfl, by decide, by decide⟩ ⟨by decide, by decide⟩ 4 ⟨rfl, by decide +kernel⟩ rfl [false, true, true, true, true, true, true, true, true, true, true, true, true, true, true, true] rfl rfl 3 rfl rfl rfl (Nat.le_of_ble_eq_true rfl) rfl dX6_setStep_38 (fun H locs w => ?_)
  exact kret _ _ _ _ _ _ _ (by decide) (by decide) dX6_setStep_41 w (by rw [chk_t (show 0 ≤ p ∧ p ≤ 11 by omega), chk_t (show 0 ≤ t ∧ t ≤ 3 by omega), chk_t (show 0 ≤ s ∧ s ≤ 15 by omega), chk_t (show -1 ≤ x ∧ x ≤ 7 by omega), chk_t (show μ 23 0 = 0 by omega)]; rfl) rfl

set_option maxHeartbeats 4000000 in
set_option maxRecDepth 100000 in
/-- setFill -/
theorem k_setFill (l : Launch) (hfl : l.stackTraces = false) (D : va_G) (cI cZ cJ : ClassId) (a : Nat → Nat) (μ : Nat → Int → Int) (p t s x : Int) (hp : -2147483648 ≤ p ∧ p < 2147483648) (ht : -2147483648 ≤ t ∧ t < 2147483648) (hs : -2147483648 ≤ s ∧ s < 2147483648) (hx : -2147483648 ≤ x ∧ x < 2147483648) (h23 : μ 23 0 = 0 ∨ μ 23 0 = 1) : Xi l D (tY cI cZ cJ) yX6_setFill wsX6_setFill rmX6_setFill [.ref (a 0), .int (iI p), .int (iI t), .int (iI s), .int (iI x)] (WAll cI a μ) (sq (chk (0 ≤ p ∧ p ≤ 11) eIOB) (sq (chk (0 ≤ t ∧ t ≤ 3) eIOB) (sq (chk (12 ≤ s ∧ s ≤ 15) eIOB) (sq (chk (-1 ≤ x ∧ x ≤ 7) eIOB) (chk (μ 23 0 = 0) eISE))))) (μ 3 ((p * 4 + t) * 4 + s - 12)) (WAll cI a (mset μ 3 (iU (μ 3) ((p * 4 + t) * 4 + s - 12) x))) := by
  refine xi_of hfl (by decide +kernel) rfl (Nat.le_of_ble_eq_true rfl) (Or.inl rfl) ?_
  intro zp ze zs zm zargs zbelow zmeth zc A Q ls M hA w hl hT kret kout kthr
  have hl : lv_has ls 5 [(0, .ref (a 0)), (1, .int (iI p)), (2, .int (iI t)), (3, .int (iI s)), (4, .int (iI x))] := hl
  have in6 : ∀ w ∈ u_ws RX6 TX6 11, w ∈ wsX6_setFill := by decide +kernel
  refine q_iln M dX6_setFill_0 (lv_at hl 1 rfl) ?_
  refine qx_vS (As := [.int (iI p)]) (rest := []) (wc := []) (wc2 := []) (ws2 := WAll cI a μ) M w hA hT hl (k_needPattern l hfl D cI cZ cJ p (by omega)) gX6_setFill_X6_needPattern rfl ⟨by decide, by decide⟩ ⟨by decide, by decide⟩ 1 (by decide +kernel) rfl [] rfl rfl rfl (Nat.le_of_ble_eq_true rfl) rfl dX6_setFill_1 (fun E ce q9 H1 locs1 hE w h1 h2 h3 => ?_) (fun H locs x1 w => ?_)
  · obtain ⟨hq, rfl⟩ := chk_e hE
    exact kout _ _ _ _ _ _ _ _ _ _ (by decide) (by decide) w h1 h2 h3 (by rw [chk_f (show ¬ (0 ≤ p ∧ p ≤ 11) by omega)]; rfl)
  have y1 := chk_n x1
  refine q_iln M dX6_setFill_4 (lv_at hl 2 rfl) ?_
  refine q_ic M dX6_setFill_5 ?_
  refine q_ic M dX6_setFill_6 ?_
  refine qx_vS (As := [.int (iI t), .int (iI 0), .int (iI 3)]) (rest := []) (wc := []) (wc2 := []) (ws2 := WAll cI a μ) M w hA hT hl (k_needIndex l hfl D cI cZ cJ t 0 3 (by omega)) gX6_setFill_X6_needIndex rfl ⟨by decide, by decide⟩ ⟨by decide, by decide⟩ 3 (by decide +kernel) rfl [] rfl rfl rfl (Nat.le_of_ble_eq_true rfl) rfl dX6_setFill_7 (fun E ce q9 H1 locs1 hE w h1 h2 h3 => ?_) (fun H locs x7 w => ?_)
  · obtain ⟨hq, rfl⟩ := chk_e hE
    exact kout _ _ _ _ _ _ _ _ _ _ (by decide) (by decide) w h1 h2 h3 (by rw [chk_t (show 0 ≤ p ∧ p ≤ 11 by omega), chk_f (show ¬ (0 ≤ t ∧ t ≤ 3) by omega)]; rfl)
  have y7 := chk_n x7
  refine q_iln M dX6_setFill_10 (lv_at hl 3 rfl) ?_
  refine q_bp M dX6_setFill_11 (by decide +kernel) ?_
  refine q_bp M dX6_setFill_13 (by decide +kernel) ?_
  refine qx_vS (As := [.int (iI s), .int (iI 12), .int (iI 15)]) (rest := []) (wc := []) (wc2 := []) (ws2 := WAll cI a μ) M w hA hT hl (k_needIndex l hfl D cI cZ cJ s 12 15 (by omega)) gX6_setFill_X6_needIndex rfl ⟨by decide, by decide⟩ ⟨by decide, by decide⟩ 3 (by decide +kernel) rfl [] rfl rfl rfl (Nat.le_of_ble_eq_true rfl) rfl dX6_setFill_15 (fun E ce q9 H1 locs1 hE w h1 h2 h3 => ?_) (fun H locs x15 w => ?_)
  · obtain ⟨hq, rfl⟩ := chk_e hE
    exact kout _ _ _ _ _ _ _ _ _ _ (by decide) (by decide) w h1 h2 h3 (by rw [chk_t (show 0 ≤ p ∧ p ≤ 11 by omega), chk_t (show 0 ≤ t ∧ t ≤ 3 by omega), chk_f (show ¬ (12 ≤ s ∧ s ≤ 15) by omega)]; rfl)
  have y15 := chk_n x15
  refine q_il M dX6_setFill_18 (lv_at hl 4 rfl) ?_
  refine q_ic M dX6_setFill_20 ?_
  refine q_bp M dX6_setFill_21 (by decide +kernel) ?_
  refine qx_vS (As := [.int (iI x), .int (iI (-1)), .int (iI 7)]) (rest := []) (wc := []) (wc2 := []) (ws2 := WAll cI a μ) M w hA hT hl (k_needIndex l hfl D cI cZ cJ x (-1) 7 (by omega)) gX6_setFill_X6_needIndex rfl ⟨by decide, by decide⟩ ⟨by decide, by decide⟩ 3 (by decide +kernel) rfl [] rfl rfl rfl (Nat.le_of_ble_eq_true rfl) rfl dX6_setFill_23 (fun E ce q9 H1 locs1 hE w h1 h2 h3 => ?_) (fun H locs x23 w => ?_)
  · obtain ⟨hq, rfl⟩ := chk_e hE
    exact kout _ _ _ _ _ _ _ _ _ _ (by decide) (by decide) w h1 h2 h3 (by rw [chk_t (show 0 ≤ p ∧ p ≤ 11 by omega), chk_t (show 0 ≤ t ∧ t ≤ 3 by omega), chk_t (show 12 ≤ s ∧ s ≤ 15 by omega), chk_f (show ¬ (-1 ≤ x ∧ x ≤ 7) by omega)]; rfl)
  have y23 := chk_n x23
  refine q_aln M dX6_setFill_26 (lv_at hl 0 rfl) ?_
  refine qx_vV (As := []) (rest := []) (wc := WXH cI a μ) (wc2 := WXH cI a μ) (ws2 := WAll cI a μ) M w hA hT hl (k_needNotPlayed l hfl D cI cZ cJ a μ h23) gX6_setFill_X6_needNotPlayed rfl ⟨by decide, by decide⟩ ⟨by decide, by decide⟩ 0 ⟨rfl, by decide +kernel⟩ rfl [true, false, false, false, false, false, false, false, false, false, false, false, false, false, false, false, false, false, false, false, false, false, false, false, false, false, false, false, false, false, false, false, false, false, false, false, false, true] rfl rfl 0 rfl rfl rfl (Nat.le_of_ble_eq_true rfl) rfl dX6_setFill_27 (fun E ce q9 H1 locs1 hE w h1 h2 h3 => ?_) (fun H locs x27 w => ?_)
  · obtain ⟨hq, rfl⟩ := chk_e hE
    exact kout _ _ _ _ _ _ _ _ _ _ (by decide) (by decide) w h1 h2 h3 (by rw [chk_t (show 0 ≤ p ∧ p ≤ 11 by omega), chk_t (show 0 ≤ t ∧ t ≤ 3 by omega), chk_t (show 12 ≤ s ∧ s ≤ 15 by omega), chk_t (show -1 ≤ x ∧ x ≤ 7 by omega), chk_f (show ¬ (μ 23 0 = 0) by omega)]; rfl)
  have y27 := chk_n x27
  refine q_aln M dX6_setFill_30 (lv_at hl 0 rfl) ?_
  refine q_get (v := .ref (a 1)) M w in6 0 2 rfl rfl (by decide) (by decide +kernel) rfl rfl dX6_setFill_31 ?_
  refine q_iln M dX6_setFill_34 (lv_at hl 1 rfl) ?_
  refine q_iln M dX6_setFill_35 (lv_at hl 2 rfl) ?_
  refine q_iln M dX6_setFill_36 (lv_at hl 3 rfl) ?_
  refine q_il M dX6_setFill_37 (lv_at hl 4 rfl) ?_
  refine qc_iV (As := [.int (iI p), .int (iI t), .int (iI s), .int (iI x)]) (rest := []) (wc := WPat cI a μ) (wc2 := WPat cI a (mset μ 3 (iU (μ 3) ((p * 4 + t) * 4 + s - 12) x))) (ws2 := WAll cI a (mset μ 3 (iU (μ 3) ((p * 4 + t) * 4 + s - 12) x))) M w hA hl (k_replaceFill l D cI cZ cJ a μ p t s x (by omega)) gX6_setFill_X2_replaceFill rfl ⟨rfl, rfl, by decide, by decide⟩ ⟨by decide, by decide⟩ 4 ⟨rfl, by decide +kernel⟩ rfl [false, true, true, true, true, true, true, true, true, true, true, true, true, true, true, true] rfl rfl 3 rfl rfl rfl (Nat.le_of_ble_eq_true rfl) rfl dX6_setFill_39 (fun H locs w => ?_)
  exact kret _ _ _ _ _ _ _ (by decide) (by decide) dX6_setFill_42 w (by rw [chk_t (show 0 ≤ p ∧ p ≤ 11 by omega), chk_t (show 0 ≤ t ∧ t ≤ 3 by omega), chk_t (show 12 ≤ s ∧ s ≤ 15 by omega), chk_t (show -1 ≤ x ∧ x ≤ 7 by omega), chk_t (show μ 23 0 = 0 by omega)]; rfl) rfl

set_option maxHeartbeats 4000000 in
set_option maxRecDepth 100000 in
/-- setFeel -/
theorem k_setFeel (l : Launch) (hfl : l.stackTraces = false) (D : va_G) (cI cZ cJ : ClassId) (a : Nat → Nat) (μ : Nat → Int → Int) (p x u : Int) (hp : -2147483648 ≤ p ∧ p < 2147483648) (hx : -2147483648 ≤ x ∧ x < 2147483648) (hu : -2147483648 ≤ u ∧ u < 2147483648) (h23 : μ 23 0 = 0 ∨ μ 23 0 = 1) : Xi l D (tY cI cZ cJ) yX6_setFeel wsX6_setFeel rmX6_setFeel [.ref (a 0), .int (iI p), .int (iI x), .int (iI u)] (WAll cI a μ) (sq (chk (0 ≤ p ∧ p ≤ 11) eIOB) (sq (chk (0 ≤ x ∧ x ≤ 6) eIAE) (sq (chk (u = 0 ∨ 2 ≤ u ∧ u ≤ 8) eIAE) (chk (μ 23 0 = 0) eISE)))) (μ 4 p) (WAll cI a (mset (mset μ 4 (iU (μ 4) p x)) 5 (iU (μ 5) p u))) := by
  refine xi_of hfl (by decide +kernel) rfl (Nat.le_of_ble_eq_true rfl) (Or.inl rfl) ?_
  intro zp ze zs zm zargs zbelow zmeth zc A Q ls M hA w hl hT kret kout kthr
  have hl : lv_has ls 4 [(0, .ref (a 0)), (1, .int (iI p)), (2, .int (iI x)), (3, .int (iI u))] := hl
  have in6 : ∀ w ∈ u_ws RX6 TX6 11, w ∈ wsX6_setFeel := by decide +kernel
  refine q_iln M dX6_setFeel_0 (lv_at hl 1 rfl) ?_
  refine qx_vS (As := [.int (iI p)]) (rest := []) (wc := []) (wc2 := []) (ws2 := WAll cI a μ) M w hA hT hl (k_needPattern l hfl D cI cZ cJ p (by omega)) gX6_setFeel_X6_needPattern rfl ⟨by decide, by decide⟩ ⟨by decide, by decide⟩ 1 (by decide +kernel) rfl [] rfl rfl rfl (Nat.le_of_ble_eq_true rfl) rfl dX6_setFeel_1 (fun E ce q9 H1 locs1 hE w h1 h2 h3 => ?_) (fun H locs x1 w => ?_)
  · obtain ⟨hq, rfl⟩ := chk_e hE
    exact kout _ _ _ _ _ _ _ _ _ _ (by decide) (by decide) w h1 h2 h3 (by rw [chk_f (show ¬ (0 ≤ p ∧ p ≤ 11) by omega)]; rfl)
  have y1 := chk_n x1
  refine q_iln M dX6_setFeel_4 (lv_at hl 2 rfl) ?_
  refine q_ic M dX6_setFeel_5 ?_
  refine q_bp M dX6_setFeel_6 (by decide +kernel) ?_
  refine qx_vS (As := [.int (iI x), .int (iI 0), .int (iI 6)]) (rest := []) (wc := []) (wc2 := []) (ws2 := WAll cI a μ) M w hA hT hl (k_needRange l hfl D cI cZ cJ x 0 6 (by omega)) gX6_setFeel_X6_needRange rfl ⟨by decide, by decide⟩ ⟨by decide, by decide⟩ 3 (by decide +kernel) rfl [] rfl rfl rfl (Nat.le_of_ble_eq_true rfl) rfl dX6_setFeel_8 (fun E ce q9 H1 locs1 hE w h1 h2 h3 => ?_) (fun H locs x8 w => ?_)
  · obtain ⟨hq, rfl⟩ := chk_e hE
    exact kout _ _ _ _ _ _ _ _ _ _ (by decide) (by decide) w h1 h2 h3 (by rw [chk_t (show 0 ≤ p ∧ p ≤ 11 by omega), chk_f (show ¬ (0 ≤ x ∧ x ≤ 6) by omega)]; rfl)
  have y8 := chk_n x8
  refine q_iln M dX6_setFeel_11 (lv_at hl 3 rfl) ?_
  refine q_if_eq (tgt := 22) M dX6_setFeel_12 (by decide) (by omega) (fun c12 => ?_) (fun c12 => ?_)
  · refine q_aln M dX6_setFeel_22 (lv_at hl 0 rfl) ?_
    refine qx_vV (As := []) (rest := []) (wc := WXH cI a μ) (wc2 := WXH cI a μ) (ws2 := WAll cI a μ) M w hA hT hl (k_needNotPlayed l hfl D cI cZ cJ a μ h23) gX6_setFeel_X6_needNotPlayed rfl ⟨by decide, by decide⟩ ⟨by decide, by decide⟩ 0 ⟨rfl, by decide +kernel⟩ rfl [true, false, false, false, false, false, false, false, false, false, false, false, false, false, false, false, false, false, false, false, false, false, false, false, false, false, false, false, false, false, false, false, false, false, false, false, false, true] rfl rfl 0 rfl rfl rfl (Nat.le_of_ble_eq_true rfl) rfl dX6_setFeel_23 (fun E ce q9 H1 locs1 hE w h1 h2 h3 => ?_) (fun H locs x23 w => ?_)
    · obtain ⟨hq, rfl⟩ := chk_e hE
      exact kout _ _ _ _ _ _ _ _ _ _ (by decide) (by decide) w h1 h2 h3 (by rw [chk_t (show 0 ≤ p ∧ p ≤ 11 by omega), chk_t (show 0 ≤ x ∧ x ≤ 6 by omega), chk_t (show u = 0 ∨ 2 ≤ u ∧ u ≤ 8 by omega), chk_f (show ¬ (μ 23 0 = 0) by omega)]; rfl)
    have y23 := chk_n x23
    refine q_aln M dX6_setFeel_26 (lv_at hl 0 rfl) ?_
    refine q_get (v := .ref (a 1)) M w in6 0 2 rfl rfl (by decide) (by decide +kernel) rfl rfl dX6_setFeel_27 ?_
    refine q_iln M dX6_setFeel_30 (lv_at hl 1 rfl) ?_
    refine q_iln M dX6_setFeel_31 (lv_at hl 2 rfl) ?_
    refine q_iln M dX6_setFeel_32 (lv_at hl 3 rfl) ?_
    refine qc_iV (As := [.int (iI p), .int (iI x), .int (iI u)]) (rest := []) (wc := WPat cI a μ) (wc2 := WPat cI a (mset (mset μ 4 (iU (μ 4) p x)) 5 (iU (μ 5) p u))) (ws2 := WAll cI a (mset (mset μ 4 (iU (μ 4) p x)) 5 (iU (μ 5) p u))) M w hA hl (k_replaceFeel l D cI cZ cJ a μ p x u (by omega)) gX6_setFeel_X2_replaceFeel rfl ⟨rfl, rfl, by decide, by decide⟩ ⟨by decide, by decide⟩ 3 ⟨rfl, by decide +kernel⟩ rfl [false, true, true, true, true, true, true, true, true, true, true, true, true, true, true, true] rfl rfl 3 rfl rfl rfl (Nat.le_of_ble_eq_true rfl) rfl dX6_setFeel_33 (fun H locs w => ?_)
    exact kret _ _ _ _ _ _ _ (by decide) (by decide) dX6_setFeel_36 w (by rw [chk_t (show 0 ≤ p ∧ p ≤ 11 by omega), chk_t (show 0 ≤ x ∧ x ≤ 6 by omega), chk_t (show u = 0 ∨ 2 ≤ u ∧ u ≤ 8 by omega), chk_t (show μ 23 0 = 0 by omega)]; rfl) rfl
  · refine q_iln M dX6_setFeel_15 (lv_at hl 3 rfl) ?_
    refine q_ic M dX6_setFeel_16 ?_
    refine q_bp M dX6_setFeel_17 (by decide +kernel) ?_
    refine qx_vS (As := [.int (iI u), .int (iI 2), .int (iI 8)]) (rest := []) (wc := []) (wc2 := []) (ws2 := WAll cI a μ) M w hA hT hl (k_needRange l hfl D cI cZ cJ u 2 8 (by omega)) gX6_setFeel_X6_needRange rfl ⟨by decide, by decide⟩ ⟨by decide, by decide⟩ 3 (by decide +kernel) rfl [] rfl rfl rfl (Nat.le_of_ble_eq_true rfl) rfl dX6_setFeel_19 (fun E ce q9 H1 locs1 hE w h1 h2 h3 => ?_) (fun H locs x19 w => ?_)
    · obtain ⟨hq, rfl⟩ := chk_e hE
      exact kout _ _ _ _ _ _ _ _ _ _ (by decide) (by decide) w h1 h2 h3 (by rw [chk_t (show 0 ≤ p ∧ p ≤ 11 by omega), chk_t (show 0 ≤ x ∧ x ≤ 6 by omega), chk_f (show ¬ (u = 0 ∨ 2 ≤ u ∧ u ≤ 8) by omega)]; rfl)
    have y19 := chk_n x19
    refine q_aln M dX6_setFeel_22 (lv_at hl 0 rfl) ?_
    refine qx_vV (As := []) (rest := []) (wc := WXH cI a μ) (wc2 := WXH cI a μ) (ws2 := WAll cI a μ) M w hA hT hl (k_needNotPlayed l hfl D cI cZ cJ a μ h23) gX6_setFeel_X6_needNotPlayed rfl ⟨by decide, by decide⟩ ⟨by decide, by decide⟩ 0 ⟨rfl, by decide +kernel⟩ rfl [true, false, false, false, false, false, false, false, false, false, false, false, false, false, false, false, false, false, false, false, false, false, false, false, false, false, false, false, false, false, false, false, false, false, false, false, false, true] rfl rfl 0 rfl rfl rfl (Nat.le_of_ble_eq_true rfl) rfl dX6_setFeel_23 (fun E ce q9 H1 locs1 hE w h1 h2 h3 => ?_) (fun H locs x23 w => ?_)
    · obtain ⟨hq, rfl⟩ := chk_e hE
      exact kout _ _ _ _ _ _ _ _ _ _ (by decide) (by decide) w h1 h2 h3 (by rw [chk_t (show 0 ≤ p ∧ p ≤ 11 by omega), chk_t (show 0 ≤ x ∧ x ≤ 6 by omega), chk_t (show u = 0 ∨ 2 ≤ u ∧ u ≤ 8 by omega), chk_f (show ¬ (μ 23 0 = 0) by omega)]; rfl)
    have y23 := chk_n x23
    refine q_aln M dX6_setFeel_26 (lv_at hl 0 rfl) ?_
    refine q_get (v := .ref (a 1)) M w in6 0 2 rfl rfl (by decide) (by decide +kernel) rfl rfl dX6_setFeel_27 ?_
    refine q_iln M dX6_setFeel_30 (lv_at hl 1 rfl) ?_
    refine q_iln M dX6_setFeel_31 (lv_at hl 2 rfl) ?_
    refine q_iln M dX6_setFeel_32 (lv_at hl 3 rfl) ?_
    refine qc_iV (As := [.int (iI p), .int (iI x), .int (iI u)]) (rest := []) (wc := WPat cI a μ) (wc2 := WPat cI a (mset (mset μ 4 (iU (μ 4) p x)) 5 (iU (μ 5) p u))) (ws2 := WAll cI a (mset (mset μ 4 (iU (μ 4) p x)) 5 (iU (μ 5) p u))) M w hA hl (k_replaceFeel l D cI cZ cJ a μ p x u (by omega)) gX6_setFeel_X2_replaceFeel rfl ⟨rfl, rfl, by decide, by decide⟩ ⟨by decide, by decide⟩ 3 ⟨rfl, by decide +kernel⟩ rfl [false, true, true, true, true, true, true, true, true, true, true, true, true, true, true, true] rfl rfl 3 rfl rfl rfl (Nat.le_of_ble_eq_true rfl) rfl dX6_setFeel_33 (fun H locs w => ?_)
    exact kret _ _ _ _ _ _ _ (by decide) (by decide) dX6_setFeel_36 w (by rw [chk_t (show 0 ≤ p ∧ p ≤ 11 by omega), chk_t (show 0 ≤ x ∧ x ≤ 6 by omega), chk_t (show u = 0 ∨ 2 ≤ u ∧ u ≤ 8 by omega), chk_t (show μ 23 0 = 0 by omega)]; rfl) rfl

set_option maxHeartbeats 4000000 in
set_option maxRecDepth 100000 in
/-- freeze -/
theorem k_freeze (l : Launch) (hfl : l.stackTraces = false) (D : va_G) (cI cZ cJ : ClassId) (a : Nat → Nat) (μ : Nat → Int → Int) (p x : Int) (hp : -2147483648 ≤ p ∧ p < 2147483648) (hx : -2147483648 ≤ x ∧ x < 2147483648) (hI : IP μ) (hx1 : 0 ≤ x ∧ x ≤ 1) : Xi l D (tY cI cZ cJ) yX6_freeze wsX6_freeze rmX6_freeze [.ref (a 0), .int (iI p), .int (iI x)] (WAll cI a μ) (chk (0 ≤ p ∧ p ≤ 11) eIOB) (μ 6 p) (WAll cI a (mset (mset μ 6 (iU (μ 6) p x)) 7 (frz μ p x))) := by
  refine xi_of hfl (by decide +kernel) rfl (Nat.le_of_ble_eq_true rfl) (Or.inr ⟨rfl, by have := hI.2.2.2.2.1 p; omega⟩) ?_
  intro zp ze zs zm zargs zbelow zmeth zc A Q ls M hA w hl hT kret kout kthr
  have hl : lv_has ls 3 [(0, .ref (a 0)), (1, .int (iI p)), (2, .int (iI x))] := hl
  have in6 : ∀ w ∈ u_ws RX6 TX6 11, w ∈ wsX6_freeze := by decide +kernel
  refine q_iln M dX6_freeze_0 (lv_at hl 1 rfl) ?_
  refine qx_vS (As := [.int (iI p)]) (rest := []) (wc := []) (wc2 := []) (ws2 := WAll cI a μ) M w hA hT hl (k_needPattern l hfl D cI cZ cJ p (by omega)) gX6_freeze_X6_needPattern rfl ⟨by decide, by decide⟩ ⟨by decide, by decide⟩ 1 (by decide +kernel) rfl [] rfl rfl rfl (Nat.le_of_ble_eq_true rfl) rfl dX6_freeze_1 (fun E ce q9 H1 locs1 hE w h1 h2 h3 => ?_) (fun H locs x1 w => ?_)
  · obtain ⟨hq, rfl⟩ := chk_e hE
    exact kout _ _ _ _ _ _ _ _ _ _ (by decide) (by decide) w h1 h2 h3 (by rw [chk_f (show ¬ (0 ≤ p ∧ p ≤ 11) by omega)])
  have y1 := chk_n x1
  refine q_aln M dX6_freeze_4 (lv_at hl 0 rfl) ?_
  refine q_get (v := .ref (a 1)) M w in6 0 2 rfl rfl (by decide) (by decide +kernel) rfl rfl dX6_freeze_5 ?_
  refine q_iln M dX6_freeze_8 (lv_at hl 1 rfl) ?_
  refine q_iln M dX6_freeze_9 (lv_at hl 2 rfl) ?_
  refine q_aln M dX6_freeze_10 (lv_at hl 0 rfl) ?_
  refine q_get (v := .ref (a 12)) M w in6 0 1 rfl rfl (by decide) (by decide +kernel) rfl rfl dX6_freeze_11 ?_
  refine qc_iV (As := [.int (iI p), .int (iI x), .ref (a 12)]) (rest := []) (wc := WPat cI a μ) (wc2 := WPat cI a (mset (mset μ 6 (iU (μ 6) p x)) 7 (frz μ p x))) (ws2 := WAll cI a (mset (mset μ 6 (iU (μ 6) p x)) 7 (frz μ p x))) M w hA hl (k_replaceFrozen l D cI cZ cJ a μ p x hI (by omega)) gX6_freeze_X2_replaceFrozen rfl ⟨rfl, rfl, by decide, by decide⟩ ⟨by decide, by decide⟩ 3 ⟨rfl, by decide +kernel⟩ rfl [false, true, true, true, true, true, true, true, true, true, true, true, true, true, true, true] rfl rfl 3 rfl rfl rfl (Nat.le_of_ble_eq_true rfl) rfl dX6_freeze_14 (fun H locs w => ?_)
  exact kret _ _ _ _ _ _ _ (by decide) (by decide) dX6_freeze_17 w (by rw [chk_t (show 0 ≤ p ∧ p ≤ 11 by omega)]) rfl

def apM (μ : Nat → Int → Int) (s p r : Int) : Nat → Int → Int := mset (mset (mset μ 8 (iU (μ 8) s (μ 8 s + 1))) 9 (iU (μ 9) (s * 8 + μ 8 s) p)) 10 (iU (μ 10) (s * 8 + μ 8 s) r)
def juM (μ : Nat → Int → Int) (s e g t : Int) : Nat → Int → Int := mset (mset μ 11 (iU (μ 11) (s * 8 + e) g)) 12 (iU (μ 12) (s * 8 + e) t)
noncomputable def laM (m : Nat → Int → Int) (s : Int) : Nat → Int → Int := mset (mset (mset (mset (mset m 13 (iU (m 13) s (lBs m s))) 14 (cpF (m 14) (bP m s) (s * 64) (lBs m s))) 15 (cpF (m 15) (bT m s) (s * 64) (lBs m s))) 16 (ly m s (lBs m s)).2.2.1) 17 (ly m s (lBs m s)).2.2.2

set_option maxHeartbeats 4000000 in
set_option maxRecDepth 100000 in
/-- addEntry -/
theorem k_addEntry (l : Launch) (hfl : l.stackTraces = false) (D : va_G) (cI cZ cJ : ClassId) (a : Nat → Nat) (μ : Nat → Int → Int) (s p r : Int) (hs : -2147483648 ≤ s ∧ s < 2147483648) (hp : -2147483648 ≤ p ∧ p < 2147483648) (hr : -2147483648 ≤ r ∧ r < 2147483648) (h23 : μ 23 0 = 0 ∨ μ 23 0 = 1) (h8 : ∀ i, 0 ≤ i → i < 6 → 0 ≤ μ 8 i ∧ μ 8 i ≤ 8) (hS : (0 ≤ s ∧ s < 6) ∧ (0 ≤ p ∧ p < 12) ∧ (1 ≤ r ∧ r ≤ 4) ∧ μ 8 s < 8 → SDs (apM μ s p r) s) : Xi l D (tY cI cZ cJ) yX6_addEntry wsX6_addEntry rmX6_addEntry [.ref (a 0), .int (iI s), .int (iI p), .int (iI r)] (WAll cI a μ) (sq (chk (0 ≤ s ∧ s ≤ 5) eIOB) (sq (chk (0 ≤ p ∧ p ≤ 11) eIOB) (sq (chk (1 ≤ r ∧ r ≤ 4) eIAE) (sq (chk (μ 23 0 = 0) eISE) (chk (μ 8 s < 8) eISE))))) (μ 8 s) (WAll cI a (laM (apM μ s p r) s)) := by
  refine xi_of hfl (by decide +kernel) rfl (Nat.le_of_ble_eq_true rfl) (Or.inl rfl) ?_
  intro zp ze zs zm zargs zbelow zmeth zc A Q ls M hA w hl hT kret kout kthr
  have hl : lv_has ls 4 [(0, .ref (a 0)), (1, .int (iI s)), (2, .int (iI p)), (3, .int (iI r))] := hl
  have in6 : ∀ w ∈ u_ws RX6 TX6 11, w ∈ wsX6_addEntry := by decide +kernel
  refine q_iln M dX6_addEntry_0 (lv_at hl 1 rfl) ?_
  refine qx_vS (As := [.int (iI s)]) (rest := []) (wc := []) (wc2 := []) (ws2 := WAll cI a μ) M w hA hT hl (k_needSong l hfl D cI cZ cJ s (by omega)) gX6_addEntry_X6_needSong rfl ⟨by decide, by decide⟩ ⟨by decide, by decide⟩ 1 (by decide +kernel) rfl [] rfl rfl rfl (Nat.le_of_ble_eq_true rfl) rfl dX6_addEntry_1 (fun E ce q9 H1 locs1 hE w h1 h2 h3 => ?_) (fun H locs x1 w => ?_)
  · obtain ⟨hq, rfl⟩ := chk_e hE
    exact kout _ _ _ _ _ _ _ _ _ _ (by decide) (by decide) w h1 h2 h3 (by rw [chk_f (show ¬ (0 ≤ s ∧ s ≤ 5) by omega)]; rfl)
  have y1 := chk_n x1
  refine q_iln M dX6_addEntry_4 (lv_at hl 2 rfl) ?_
  refine qx_vS (As := [.int (iI p)]) (rest := []) (wc := []) (wc2 := []) (ws2 := WAll cI a μ) M w hA hT hl (k_needPattern l hfl D cI cZ cJ p (by omega)) gX6_addEntry_X6_needPattern rfl ⟨by decide, by decide⟩ ⟨by decide, by decide⟩ 1 (by decide +kernel) rfl [] rfl rfl rfl (Nat.le_of_ble_eq_true rfl) rfl dX6_addEntry_5 (fun E ce q9 H1 locs1 hE w h1 h2 h3 => ?_) (fun H locs x5 w => ?_)
  · obtain ⟨hq, rfl⟩ := chk_e hE
    exact kout _ _ _ _ _ _ _ _ _ _ (by decide) (by decide) w h1 h2 h3 (by rw [chk_t (show 0 ≤ s ∧ s ≤ 5 by omega), chk_f (show ¬ (0 ≤ p ∧ p ≤ 11) by omega)]; rfl)
  have y5 := chk_n x5
  refine q_iln M dX6_addEntry_8 (lv_at hl 3 rfl) ?_
  refine q_ic M dX6_addEntry_9 ?_
  refine q_ic M dX6_addEntry_10 ?_
  refine qx_vS (As := [.int (iI r), .int (iI 1), .int (iI 4)]) (rest := []) (wc := []) (wc2 := []) (ws2 := WAll cI a μ) M w hA hT hl (k_needRange l hfl D cI cZ cJ r 1 4 (by omega)) gX6_addEntry_X6_needRange rfl ⟨by decide, by decide⟩ ⟨by decide, by decide⟩ 3 (by decide +kernel) rfl [] rfl rfl rfl (Nat.le_of_ble_eq_true rfl) rfl dX6_addEntry_11 (fun E ce q9 H1 locs1 hE w h1 h2 h3 => ?_) (fun H locs x11 w => ?_)
  · obtain ⟨hq, rfl⟩ := chk_e hE
    exact kout _ _ _ _ _ _ _ _ _ _ (by decide) (by decide) w h1 h2 h3 (by rw [chk_t (show 0 ≤ s ∧ s ≤ 5 by omega), chk_t (show 0 ≤ p ∧ p ≤ 11 by omega), chk_f (show ¬ (1 ≤ r ∧ r ≤ 4) by omega)]; rfl)
  have y11 := chk_n x11
  refine q_aln M dX6_addEntry_14 (lv_at hl 0 rfl) ?_
  refine qx_vV (As := []) (rest := []) (wc := WXH cI a μ) (wc2 := WXH cI a μ) (ws2 := WAll cI a μ) M w hA hT hl (k_needNotPlayed l hfl D cI cZ cJ a μ h23) gX6_addEntry_X6_needNotPlayed rfl ⟨by decide, by decide⟩ ⟨by decide, by decide⟩ 0 ⟨rfl, by decide +kernel⟩ rfl [true, false, false, false, false, false, false, false, false, false, false, false, false, false, false, false, false, false, false, false, false, false, false, false, false, false, false, false, false, false, false, false, false, false, false, false, false, true] rfl rfl 0 rfl rfl rfl (Nat.le_of_ble_eq_true rfl) rfl dX6_addEntry_15 (fun E ce q9 H1 locs1 hE w h1 h2 h3 => ?_) (fun H locs x15 w => ?_)
  · obtain ⟨hq, rfl⟩ := chk_e hE
    exact kout _ _ _ _ _ _ _ _ _ _ (by decide) (by decide) w h1 h2 h3 (by rw [chk_t (show 0 ≤ s ∧ s ≤ 5 by omega), chk_t (show 0 ≤ p ∧ p ≤ 11 by omega), chk_t (show 1 ≤ r ∧ r ≤ 4 by omega), chk_f (show ¬ (μ 23 0 = 0) by omega)]; rfl)
  have y15 := chk_n x15
  refine q_aln M dX6_addEntry_18 (lv_at hl 0 rfl) ?_
  refine q_get (v := .ref (a 2)) M w in6 0 3 rfl rfl (by decide) (by decide +kernel) rfl rfl dX6_addEntry_19 ?_
  refine q_iln M dX6_addEntry_22 (lv_at hl 1 rfl) ?_
  refine qc_iV (As := [.int (iI s)]) (rest := []) (wc := WSn8 cI a μ) (wc2 := WSn8 cI a μ) (ws2 := WAll cI a μ) M w hA hl (k_countEntries l D cI cZ cJ a μ s (by omega)) gX6_addEntry_X5_countEntries rfl ⟨rfl, rfl, by decide, by decide⟩ ⟨by decide, by decide⟩ 1 ⟨rfl, by decide +kernel⟩ rfl [false, false, false, false, false, false, false, false, false, false, false, false, false, false, false, false, true, true, true] rfl rfl 16 rfl rfl rfl (Nat.le_of_ble_eq_true rfl) rfl dX6_addEntry_23 (fun H locs w => ?_)
  have q8 := h8 s (by omega) (by omega)
  refine q_bp M dX6_addEntry_26 (by decide +kernel) ?_
  refine q_icmp_lt (tgt := 41) M dX6_addEntry_28 (by decide) (by omega) (fun c28 => ?_) (fun c28 => ?_)
  · refine q_aln M dX6_addEntry_41 (lv_at hl 0 rfl) ?_
    refine q_get (v := .ref (a 2)) M w in6 0 3 rfl rfl (by decide) (by decide +kernel) rfl rfl dX6_addEntry_42 ?_
    refine q_iln M dX6_addEntry_45 (lv_at hl 1 rfl) ?_
    refine q_iln M dX6_addEntry_46 (lv_at hl 2 rfl) ?_
    refine q_iln M dX6_addEntry_47 (lv_at hl 3 rfl) ?_
    refine qc_iV (As := [.int (iI s), .int (iI p), .int (iI r)]) (rest := []) (wc := WSn0 cI a μ (μ 13) (μ 14) (μ 15) (μ 16) (μ 17)) (wc2 := WSn0 cI a (apM μ s p r) (iU (μ 13) s (lBs (apM μ s p r) s)) (cpF (μ 14) (bP (apM μ s p r) s) (s * 64) (lBs (apM μ s p r) s)) (cpF (μ 15) (bT (apM μ s p r) s) (s * 64) (lBs (apM μ s p r) s)) ((ly (apM μ s p r) s (lBs (apM μ s p r) s)).2.2.1) ((ly (apM μ s p r) s (lBs (apM μ s p r) s)).2.2.2)) (ws2 := WAll cI a (mset (mset (mset (mset (mset (mset (mset (mset μ 8 (iU (μ 8) s (μ 8 s + 1))) 9 (iU (μ 9) (s * 8 + μ 8 s) p)) 10 (iU (μ 10) (s * 8 + μ 8 s) r)) 13 (iU (μ 13) s (lBs (apM μ s p r) s))) 14 (cpF (μ 14) (bP (apM μ s p r) s) (s * 64) (lBs (apM μ s p r) s))) 15 (cpF (μ 15) (bT (apM μ s p r) s) (s * 64) (lBs (apM μ s p r) s))) 16 ((ly (apM μ s p r) s (lBs (apM μ s p r) s)).2.2.1)) 17 ((ly (apM μ s p r) s (lBs (apM μ s p r) s)).2.2.2))) M w hA hl (k_append l D cI cZ cJ a μ (μ 13) (μ 14) (μ 15) (μ 16) (μ 17) s p r (by omega) (hS ⟨by omega, by omega, by omega, by omega⟩)) gX6_addEntry_X5_append rfl ⟨rfl, rfl, by decide, by decide⟩ ⟨by decide, by decide⟩ 3 ⟨rfl, by decide +kernel⟩ rfl [false, false, false, false, false, false, false, false, false, false, false, false, false, false, false, false, true, true, true, true, true, true, true, true, true, true, true, true, true, true, true, true, true, true, true, true, true] rfl rfl 16 rfl rfl rfl (Nat.le_of_ble_eq_true rfl) rfl dX6_addEntry_48 (fun H locs w => ?_)
    exact kret _ _ _ _ _ _ _ (by decide) (by decide) dX6_addEntry_51 w (by rw [chk_t (show 0 ≤ s ∧ s ≤ 5 by omega), chk_t (show 0 ≤ p ∧ p ≤ 11 by omega), chk_t (show 1 ≤ r ∧ r ≤ 4 by omega), chk_t (show μ 23 0 = 0 by omega), chk_t (show μ 8 s < 8 by omega)]; rfl) rfl
  · exact kthr eISE "the song has 8 entries" 118 120 122 31 _ _ _ _ _ _ _ (by decide +kernel) (by decide +kernel) (by decide +kernel) hT.2.2.2.2.2.1 (by decide +kernel) (by decide +kernel) hT.2.2.2.1.2.2 (by decide +kernel) hl w dX6_addEntry_31 dX6_addEntry_34 dX6_addEntry_35 dX6_addEntry_37 dX6_addEntry_40 (by decide) (Nat.le_of_ble_eq_true rfl) (by decide) (by decide) (by rw [chk_t (show 0 ≤ s ∧ s ≤ 5 by omega), chk_t (show 0 ≤ p ∧ p ≤ 11 by omega), chk_t (show 1 ≤ r ∧ r ≤ 4 by omega), chk_t (show μ 23 0 = 0 by omega), chk_f (show ¬ (μ 8 s < 8) by omega)]; rfl)

set_option maxHeartbeats 4000000 in
set_option maxRecDepth 100000 in
/-- jump -/
theorem k_jump (l : Launch) (hfl : l.stackTraces = false) (D : va_G) (cI cZ cJ : ClassId) (a : Nat → Nat) (μ : Nat → Int → Int) (s e g t : Int) (hs : -2147483648 ≤ s ∧ s < 2147483648) (he : -2147483648 ≤ e ∧ e < 2147483648) (hg : -2147483648 ≤ g ∧ g < 2147483648) (ht : -2147483648 ≤ t ∧ t < 2147483648) (h23 : μ 23 0 = 0 ∨ μ 23 0 = 1) (h8 : ∀ i, 0 ≤ i → i < 6 → 0 ≤ μ 8 i ∧ μ 8 i ≤ 8) (hS : (0 ≤ s ∧ s < 6) ∧ (0 ≤ e ∧ e < μ 8 s) ∧ (0 ≤ g ∧ g < μ 8 s) ∧ (0 ≤ t ∧ t ≤ 3) → SDs (juM μ s e g t) s) : Xi l D (tY cI cZ cJ) yX6_jump wsX6_jump rmX6_jump [.ref (a 0), .int (iI s), .int (iI e), .int (iI g), .int (iI t)] (WAll cI a μ) (sq (chk (0 ≤ s ∧ s ≤ 5) eIOB) (sq (chk (0 ≤ e ∧ e ≤ μ 8 s - 1) eIOB) (sq (chk (0 ≤ g ∧ g ≤ μ 8 s - 1) eIOB) (sq (chk (0 ≤ t ∧ t ≤ 3) eIAE) (chk (μ 23 0 = 0) eISE))))) (lBs (juM μ s e g t) s) (WAll cI a (laM (juM μ s e g t) s)) := by
  refine xi_of hfl (by decide +kernel) rfl (Nat.le_of_ble_eq_true rfl) (Or.inl rfl) ?_
  intro zp ze zs zm zargs zbelow zmeth zc A Q ls M hA w hl hT kret kout kthr
  have hl : lv_has ls 5 [(0, .ref (a 0)), (1, .int (iI s)), (2, .int (iI e)), (3, .int (iI g)), (4, .int (iI t))] := hl
  have in6 : ∀ w ∈ u_ws RX6 TX6 11, w ∈ wsX6_jump := by decide +kernel
  refine q_iln M dX6_jump_0 (lv_at hl 1 rfl) ?_
  refine qx_vS (As := [.int (iI s)]) (rest := []) (wc := []) (wc2 := []) (ws2 := WAll cI a μ) M w hA hT hl (k_needSong l hfl D cI cZ cJ s (by omega)) gX6_jump_X6_needSong rfl ⟨by decide, by decide⟩ ⟨by decide, by decide⟩ 1 (by decide +kernel) rfl [] rfl rfl rfl (Nat.le_of_ble_eq_true rfl) rfl dX6_jump_1 (fun E ce q9 H1 locs1 hE w h1 h2 h3 => ?_) (fun H locs x1 w => ?_)
  · obtain ⟨hq, rfl⟩ := chk_e hE
    exact kout _ _ _ _ _ _ _ _ _ _ (by decide) (by decide) w h1 h2 h3 (by rw [chk_f (show ¬ (0 ≤ s ∧ s ≤ 5) by omega)]; rfl)
  have y1 := chk_n x1
  have q8 := h8 s (by omega) (by omega)
  refine q_iln M dX6_jump_4 (lv_at hl 2 rfl) ?_
  refine q_ic M dX6_jump_5 ?_
  refine q_aln M dX6_jump_6 (lv_at hl 0 rfl) ?_
  refine q_get (v := .ref (a 2)) M w in6 0 3 rfl rfl (by decide) (by decide +kernel) rfl rfl dX6_jump_7 ?_
  refine q_iln M dX6_jump_10 (lv_at hl 1 rfl) ?_
  refine qc_iV (As := [.int (iI s)]) (rest := [.int (iI 0), .int (iI e)]) (wc := WSn8 cI a μ) (wc2 := WSn8 cI a μ) (ws2 := WAll cI a μ) M w hA hl (k_countEntries l D cI cZ cJ a μ s (by omega)) gX6_jump_X5_countEntries rfl ⟨rfl, rfl, by decide, by decide⟩ ⟨by decide, by decide⟩ 1 ⟨rfl, by decide +kernel⟩ rfl [false, false, false, false, false, false, false, false, false, false, false, false, false, false, false, false, true, true, true] rfl rfl 16 rfl rfl rfl (Nat.le_of_ble_eq_true rfl) rfl dX6_jump_11 (fun H locs w => ?_)
  refine q_ic M dX6_jump_14 ?_
  refine q_sub M dX6_jump_15 ?_
  refine qx_vS (As := [.int (iI e), .int (iI 0), .int (iI ((μ 8 s) - 1))]) (rest := []) (wc := []) (wc2 := []) (ws2 := WAll cI a μ) M w hA hT hl (k_needIndex l hfl D cI cZ cJ e 0 ((μ 8 s) - 1) (by omega)) gX6_jump_X6_needIndex rfl ⟨by decide, by decide⟩ ⟨by decide, by decide⟩ 3 (by decide +kernel) rfl [] rfl rfl rfl (Nat.le_of_ble_eq_true rfl) rfl dX6_jump_16 (fun E ce q9 H1 locs1 hE w h1 h2 h3 => ?_) (fun H locs x16 w => ?_)
  · obtain ⟨hq, rfl⟩ := chk_e hE
    exact kout _ _ _ _ _ _ _ _ _ _ (by decide) (by decide) w h1 h2 h3 (by rw [chk_t (show 0 ≤ s ∧ s ≤ 5 by omega), chk_f (show ¬ (0 ≤ e ∧ e ≤ μ 8 s - 1) by omega)]; rfl)
  have y16 := chk_n x16
  refine q_iln M dX6_jump_19 (lv_at hl 3 rfl) ?_
  refine q_ic M dX6_jump_20 ?_
  refine q_aln M dX6_jump_21 (lv_at hl 0 rfl) ?_
  refine q_get (v := .ref (a 2)) M w in6 0 3 rfl rfl (by decide) (by decide +kernel) rfl rfl dX6_jump_22 ?_
  refine q_iln M dX6_jump_25 (lv_at hl 1 rfl) ?_
  refine qc_iV (As := [.int (iI s)]) (rest := [.int (iI 0), .int (iI g)]) (wc := WSn8 cI a μ) (wc2 := WSn8 cI a μ) (ws2 := WAll cI a μ) M w hA hl (k_countEntries l D cI cZ cJ a μ s (by omega)) gX6_jump_X5_countEntries rfl ⟨rfl, rfl, by decide, by decide⟩ ⟨by decide, by decide⟩ 1 ⟨rfl, by decide +kernel⟩ rfl [false, false, false, false, false, false, false, false, false, false, false, false, false, false, false, false, true, true, true] rfl rfl 16 rfl rfl rfl (Nat.le_of_ble_eq_true rfl) rfl dX6_jump_26 (fun H locs w => ?_)
  refine q_ic M dX6_jump_29 ?_
  refine q_sub M dX6_jump_30 ?_
  refine qx_vS (As := [.int (iI g), .int (iI 0), .int (iI ((μ 8 s) - 1))]) (rest := []) (wc := []) (wc2 := []) (ws2 := WAll cI a μ) M w hA hT hl (k_needIndex l hfl D cI cZ cJ g 0 ((μ 8 s) - 1) (by omega)) gX6_jump_X6_needIndex rfl ⟨by decide, by decide⟩ ⟨by decide, by decide⟩ 3 (by decide +kernel) rfl [] rfl rfl rfl (Nat.le_of_ble_eq_true rfl) rfl dX6_jump_31 (fun E ce q9 H1 locs1 hE w h1 h2 h3 => ?_) (fun H locs x31 w => ?_)
  · obtain ⟨hq, rfl⟩ := chk_e hE
    exact kout _ _ _ _ _ _ _ _ _ _ (by decide) (by decide) w h1 h2 h3 (by rw [chk_t (show 0 ≤ s ∧ s ≤ 5 by omega), chk_t (show 0 ≤ e ∧ e ≤ μ 8 s - 1 by omega), chk_f (show ¬ (0 ≤ g ∧ g ≤ μ 8 s - 1) by omega)]; rfl)
  have y31 := chk_n x31
  refine q_il M dX6_jump_34 (lv_at hl 4 rfl) ?_
  refine q_ic M dX6_jump_36 ?_
  refine q_ic M dX6_jump_37 ?_
  refine qx_vS (As := [.int (iI t), .int (iI 0), .int (iI 3)]) (rest := []) (wc := []) (wc2 := []) (ws2 := WAll cI a μ) M w hA hT hl (k_needRange l hfl D cI cZ cJ t 0 3 (by omega)) gX6_jump_X6_needRange rfl ⟨by decide, by decide⟩ ⟨by decide, by decide⟩ 3 (by decide +kernel) rfl [] rfl rfl rfl (Nat.le_of_ble_eq_true rfl) rfl dX6_jump_38 (fun E ce q9 H1 locs1 hE w h1 h2 h3 => ?_) (fun H locs x38 w => ?_)
  · obtain ⟨hq, rfl⟩ := chk_e hE
    exact kout _ _ _ _ _ _ _ _ _ _ (by decide) (by decide) w h1 h2 h3 (by rw [chk_t (show 0 ≤ s ∧ s ≤ 5 by omega), chk_t (show 0 ≤ e ∧ e ≤ μ 8 s - 1 by omega), chk_t (show 0 ≤ g ∧ g ≤ μ 8 s - 1 by omega), chk_f (show ¬ (0 ≤ t ∧ t ≤ 3) by omega)]; rfl)
  have y38 := chk_n x38
  refine q_aln M dX6_jump_41 (lv_at hl 0 rfl) ?_
  refine qx_vV (As := []) (rest := []) (wc := WXH cI a μ) (wc2 := WXH cI a μ) (ws2 := WAll cI a μ) M w hA hT hl (k_needNotPlayed l hfl D cI cZ cJ a μ h23) gX6_jump_X6_needNotPlayed rfl ⟨by decide, by decide⟩ ⟨by decide, by decide⟩ 0 ⟨rfl, by decide +kernel⟩ rfl [true, false, false, false, false, false, false, false, false, false, false, false, false, false, false, false, false, false, false, false, false, false, false, false, false, false, false, false, false, false, false, false, false, false, false, false, false, true] rfl rfl 0 rfl rfl rfl (Nat.le_of_ble_eq_true rfl) rfl dX6_jump_42 (fun E ce q9 H1 locs1 hE w h1 h2 h3 => ?_) (fun H locs x42 w => ?_)
  · obtain ⟨hq, rfl⟩ := chk_e hE
    exact kout _ _ _ _ _ _ _ _ _ _ (by decide) (by decide) w h1 h2 h3 (by rw [chk_t (show 0 ≤ s ∧ s ≤ 5 by omega), chk_t (show 0 ≤ e ∧ e ≤ μ 8 s - 1 by omega), chk_t (show 0 ≤ g ∧ g ≤ μ 8 s - 1 by omega), chk_t (show 0 ≤ t ∧ t ≤ 3 by omega), chk_f (show ¬ (μ 23 0 = 0) by omega)]; rfl)
  have y42 := chk_n x42
  refine q_aln M dX6_jump_45 (lv_at hl 0 rfl) ?_
  refine q_get (v := .ref (a 2)) M w in6 0 3 rfl rfl (by decide) (by decide +kernel) rfl rfl dX6_jump_46 ?_
  refine q_iln M dX6_jump_49 (lv_at hl 1 rfl) ?_
  refine q_iln M dX6_jump_50 (lv_at hl 2 rfl) ?_
  refine q_iln M dX6_jump_51 (lv_at hl 3 rfl) ?_
  refine q_il M dX6_jump_52 (lv_at hl 4 rfl) ?_
  refine qc_vV (As := [.int (iI s), .int (iI e), .int (iI g), .int (iI t)]) (rest := []) (wc := WSn0 cI a μ (μ 13) (μ 14) (μ 15) (μ 16) (μ 17)) (wc2 := WSn0 cI a (juM μ s e g t) (iU (μ 13) s (lBs (juM μ s e g t) s)) (cpF (μ 14) (bP (juM μ s e g t) s) (s * 64) (lBs (juM μ s e g t) s)) (cpF (μ 15) (bT (juM μ s e g t) s) (s * 64) (lBs (juM μ s e g t) s)) ((ly (juM μ s e g t) s (lBs (juM μ s e g t) s)).2.2.1) ((ly (juM μ s e g t) s (lBs (juM μ s e g t) s)).2.2.2)) (ws2 := WAll cI a (mset (mset (mset (mset (mset (mset (mset μ 11 (iU (μ 11) (s * 8 + e) g)) 12 (iU (μ 12) (s * 8 + e) t)) 13 (iU (μ 13) s (lBs (juM μ s e g t) s))) 14 (cpF (μ 14) (bP (juM μ s e g t) s) (s * 64) (lBs (juM μ s e g t) s))) 15 (cpF (μ 15) (bT (juM μ s e g t) s) (s * 64) (lBs (juM μ s e g t) s))) 16 ((ly (juM μ s e g t) s (lBs (juM μ s e g t) s)).2.2.1)) 17 ((ly (juM μ s e g t) s (lBs (juM μ s e g t) s)).2.2.2))) M w hA hl (k_giveJump l D cI cZ cJ a μ (μ 13) (μ 14) (μ 15) (μ 16) (μ 17) s e g t (by omega) (hS ⟨by omega, by omega, by omega, by omega⟩)) gX6_jump_X5_giveJump rfl ⟨rfl, rfl, by decide, by decide⟩ ⟨by decide, by decide⟩ 4 ⟨rfl, by decide +kernel⟩ rfl [false, false, false, false, false, false, false, false, false, false, false, false, false, false, false, false, true, true, true, true, true, true, true, true, true, true, true, true, true, true, true, true, true, true, true, true, true] rfl rfl 16 rfl rfl rfl (Nat.le_of_ble_eq_true rfl) rfl dX6_jump_54 (fun H locs w => ?_)
  refine q_aln M dX6_jump_57 (lv_at hl 0 rfl) ?_
  refine q_get (v := .ref (a 2)) M w in6 0 3 rfl rfl (by decide) (by decide +kernel) rfl rfl dX6_jump_58 ?_
  refine q_iln M dX6_jump_61 (lv_at hl 1 rfl) ?_
  refine qc_iV (As := [.int (iI s)]) (rest := []) (wc := WSn1 cI a μ (iU (μ 13) s (lBs (juM μ s e g t) s))) (wc2 := WSn1 cI a μ (iU (μ 13) s (lBs (juM μ s e g t) s))) (ws2 := WAll cI a (mset (mset (mset (mset (mset (mset (mset μ 11 (iU (μ 11) (s * 8 + e) g)) 12 (iU (μ 12) (s * 8 + e) t)) 13 (iU (μ 13) s (lBs (juM μ s e g t) s))) 14 (cpF (μ 14) (bP (juM μ s e g t) s) (s * 64) (lBs (juM μ s e g t) s))) 15 (cpF (μ 15) (bT (juM μ s e g t) s) (s * 64) (lBs (juM μ s e g t) s))) 16 ((ly (juM μ s e g t) s (lBs (juM μ s e g t) s)).2.2.1)) 17 ((ly (juM μ s e g t) s (lBs (juM μ s e g t) s)).2.2.2))) M w hA hl (k_countBars l D cI cZ cJ a μ (iU (μ 13) s (lBs (juM μ s e g t) s)) s (by omega)) gX6_jump_X5_countBars rfl ⟨rfl, rfl, by decide, by decide⟩ ⟨by decide, by decide⟩ 1 ⟨rfl, by decide +kernel⟩ rfl [false, false, false, false, false, false, false, false, false, false, false, false, false, false, false, false, true, false, false, false, false, false, false, false, false, false, false, true, true] rfl rfl 16 rfl rfl rfl (Nat.le_of_ble_eq_true rfl) rfl dX6_jump_62 (fun H locs w => ?_)
  have eb : (iU (μ 13) s (lBs (juM μ s e g t) s)) s = lBs (juM μ s e g t) s := if_pos rfl
  exact kret _ _ _ _ _ _ _ (by decide) (by decide) dX6_jump_65 w (by rw [chk_t (show 0 ≤ s ∧ s ≤ 5 by omega), chk_t (show 0 ≤ e ∧ e ≤ μ 8 s - 1 by omega), chk_t (show 0 ≤ g ∧ g ≤ μ 8 s - 1 by omega), chk_t (show 0 ≤ t ∧ t ≤ 3 by omega), chk_t (show μ 23 0 = 0 by omega)]; rfl) (by exact eb)

set_option maxHeartbeats 4000000 in
set_option maxRecDepth 100000 in
/-- bars -/
theorem k_bars (l : Launch) (hfl : l.stackTraces = false) (D : va_G) (cI cZ cJ : ClassId) (a : Nat → Nat) (μ : Nat → Int → Int) (s : Int) (hs : -2147483648 ≤ s ∧ s < 2147483648) : Xi l D (tY cI cZ cJ) yX6_bars wsX6_bars rmX6_bars [.ref (a 0), .int (iI s)] (WAll cI a μ) (chk (0 ≤ s ∧ s ≤ 5) eIOB) (μ 13 s) (WAll cI a μ) := by
  refine xi_of hfl (by decide +kernel) rfl (Nat.le_of_ble_eq_true rfl) (Or.inl rfl) ?_
  intro zp ze zs zm zargs zbelow zmeth zc A Q ls M hA w hl hT kret kout kthr
  have hl : lv_has ls 2 [(0, .ref (a 0)), (1, .int (iI s))] := hl
  have in6 : ∀ w ∈ u_ws RX6 TX6 11, w ∈ wsX6_bars := by decide +kernel
  refine q_iln M dX6_bars_0 (lv_at hl 1 rfl) ?_
  refine qx_vS (As := [.int (iI s)]) (rest := []) (wc := []) (wc2 := []) (ws2 := WAll cI a μ) M w hA hT hl (k_needSong l hfl D cI cZ cJ s (by omega)) gX6_bars_X6_needSong rfl ⟨by decide, by decide⟩ ⟨by decide, by decide⟩ 1 (by decide +kernel) rfl [] rfl rfl rfl (Nat.le_of_ble_eq_true rfl) rfl dX6_bars_1 (fun E ce q9 H1 locs1 hE w h1 h2 h3 => ?_) (fun H locs x1 w => ?_)
  · obtain ⟨hq, rfl⟩ := chk_e hE
    exact kout _ _ _ _ _ _ _ _ _ _ (by decide) (by decide) w h1 h2 h3 (by rw [chk_f (show ¬ (0 ≤ s ∧ s ≤ 5) by omega)])
  have y1 := chk_n x1
  refine q_aln M dX6_bars_4 (lv_at hl 0 rfl) ?_
  refine q_get (v := .ref (a 2)) M w in6 0 3 rfl rfl (by decide) (by decide +kernel) rfl rfl dX6_bars_5 ?_
  refine q_iln M dX6_bars_8 (lv_at hl 1 rfl) ?_
  refine qc_iV (As := [.int (iI s)]) (rest := []) (wc := WSn1 cI a μ (μ 13)) (wc2 := WSn1 cI a μ (μ 13)) (ws2 := WAll cI a μ) M w hA hl (k_countBars l D cI cZ cJ a μ (μ 13) s (by omega)) gX6_bars_X5_countBars rfl ⟨rfl, rfl, by decide, by decide⟩ ⟨by decide, by decide⟩ 1 ⟨rfl, by decide +kernel⟩ rfl [false, false, false, false, false, false, false, false, false, false, false, false, false, false, false, false, true, false, false, false, false, false, false, false, false, false, false, true, true] rfl rfl 16 rfl rfl rfl (Nat.le_of_ble_eq_true rfl) rfl dX6_bars_9 (fun H locs w => ?_)
  exact kret _ _ _ _ _ _ _ (by decide) (by decide) dX6_bars_12 w (by rw [chk_t (show 0 ≤ s ∧ s ≤ 5 by omega)]) rfl

set_option maxHeartbeats 4000000 in
set_option maxRecDepth 100000 in
/-- barAt -/
theorem k_barAt (l : Launch) (hfl : l.stackTraces = false) (D : va_G) (cI cZ cJ : ClassId) (a : Nat → Nat) (μ : Nat → Int → Int) (s b : Int) (hs : -2147483648 ≤ s ∧ s < 2147483648) (hb : -2147483648 ≤ b ∧ b < 2147483648) (hP : IP μ) (hI : IH μ) (hB : IB μ) : Xi l D (tY cI cZ cJ) yX6_barAt wsX6_barAt rmX6_barAt [.ref (a 0), .int (iI s), .int (iI b)] (WAll cI a μ) (sq (chk (0 ≤ s ∧ s ≤ 5) eIOB) (chk (0 ≤ b ∧ b ≤ μ 13 s - 1) eIOB)) (cdF μ (μ 14 (s * 64 + b)) (μ 15 (s * 64 + b))) (WAll cI a μ) := by
  refine xi_of hfl (by decide +kernel) rfl (Nat.le_of_ble_eq_true rfl) (Or.inl rfl) ?_
  intro zp ze zs zm zargs zbelow zmeth zc A Q ls M hA w hl hT kret kout kthr
  have hl : lv_has ls 3 [(0, .ref (a 0)), (1, .int (iI s)), (2, .int (iI b))] := hl
  have in6 : ∀ w ∈ u_ws RX6 TX6 11, w ∈ wsX6_barAt := by decide +kernel
  refine q_iln M dX6_barAt_0 (lv_at hl 1 rfl) ?_
  refine qx_vS (As := [.int (iI s)]) (rest := []) (wc := []) (wc2 := []) (ws2 := WAll cI a μ) M w hA hT hl (k_needSong l hfl D cI cZ cJ s (by omega)) gX6_barAt_X6_needSong rfl ⟨by decide, by decide⟩ ⟨by decide, by decide⟩ 1 (by decide +kernel) rfl [] rfl rfl rfl (Nat.le_of_ble_eq_true rfl) rfl dX6_barAt_1 (fun E ce q9 H1 locs1 hE w h1 h2 h3 => ?_) (fun H locs x1 w => ?_)
  · obtain ⟨hq, rfl⟩ := chk_e hE
    exact kout _ _ _ _ _ _ _ _ _ _ (by decide) (by decide) w h1 h2 h3 (by rw [chk_f (show ¬ (0 ≤ s ∧ s ≤ 5) by omega)]; rfl)
  have y1 := chk_n x1
  refine q_iln M dX6_barAt_4 (lv_at hl 2 rfl) ?_
  refine q_ic M dX6_barAt_5 ?_
  refine q_aln M dX6_barAt_6 (lv_at hl 0 rfl) ?_
  refine q_get (v := .ref (a 2)) M w in6 0 3 rfl rfl (by decide) (by decide +kernel) rfl rfl dX6_barAt_7 ?_
  refine q_iln M dX6_barAt_10 (lv_at hl 1 rfl) ?_
  refine qc_iV (As := [.int (iI s)]) (rest := [.int (iI 0), .int (iI b)]) (wc := WSn1 cI a μ (μ 13)) (wc2 := WSn1 cI a μ (μ 13)) (ws2 := WAll cI a μ) M w hA hl (k_countBars l D cI cZ cJ a μ (μ 13) s (by omega)) gX6_barAt_X5_countBars rfl ⟨rfl, rfl, by decide, by decide⟩ ⟨by decide, by decide⟩ 1 ⟨rfl, by decide +kernel⟩ rfl [false, false, false, false, false, false, false, false, false, false, false, false, false, false, false, false, true, false, false, false, false, false, false, false, false, false, false, true, true] rfl rfl 16 rfl rfl rfl (Nat.le_of_ble_eq_true rfl) rfl dX6_barAt_11 (fun H locs w => ?_)
  have i6 := hI.2.2 s (by omega) (by omega)
  refine q_ic M dX6_barAt_14 ?_
  refine q_sub M dX6_barAt_15 ?_
  refine qx_vS (As := [.int (iI b), .int (iI 0), .int (iI (((μ 13) s) - 1))]) (rest := []) (wc := []) (wc2 := []) (ws2 := WAll cI a μ) M w hA hT hl (k_needIndex l hfl D cI cZ cJ b 0 (((μ 13) s) - 1) (by omega)) gX6_barAt_X6_needIndex rfl ⟨by decide, by decide⟩ ⟨by decide, by decide⟩ 3 (by decide +kernel) rfl [] rfl rfl rfl (Nat.le_of_ble_eq_true rfl) rfl dX6_barAt_16 (fun E ce q9 H1 locs1 hE w h1 h2 h3 => ?_) (fun H locs x16 w => ?_)
  · obtain ⟨hq, rfl⟩ := chk_e hE
    exact kout _ _ _ _ _ _ _ _ _ _ (by decide) (by decide) w h1 h2 h3 (by rw [chk_t (show 0 ≤ s ∧ s ≤ 5 by omega), chk_f (show ¬ (0 ≤ b ∧ b ≤ μ 13 s - 1) by omega)]; rfl)
  have y16 := chk_n x16
  have i5 := hB s b (by omega) (by omega) (by omega) (by omega)
  refine q_aln M dX6_barAt_19 (lv_at hl 0 rfl) ?_
  refine q_get (v := .ref (a 2)) M w in6 0 3 rfl rfl (by decide) (by decide +kernel) rfl rfl dX6_barAt_20 ?_
  refine q_iln M dX6_barAt_23 (lv_at hl 1 rfl) ?_
  refine q_iln M dX6_barAt_24 (lv_at hl 2 rfl) ?_
  refine qc_iV (As := [.int (iI s), .int (iI b)]) (rest := []) (wc := WSng cI a μ (μ 13) (μ 14) (μ 15) (μ 16) (μ 17)) (wc2 := WSng cI a μ (μ 13) (μ 14) (μ 15) (μ 16) (μ 17)) (ws2 := WAll cI a μ) M w hA hl (k_codeOf l D cI cZ cJ a μ (μ 13) (μ 14) (μ 15) (μ 16) (μ 17) s b hP (by omega)) gX6_barAt_X5_codeOf rfl ⟨rfl, rfl, by decide, by decide⟩ ⟨by decide, by decide⟩ 2 ⟨rfl, by decide +kernel⟩ rfl [false, true, true, true, true, true, true, true, true, true, true, true, true, true, true, true, true, true, true, true, true, true, true, true, true, true, true, true, true, true, true, true, true, true, true, true, true] rfl rfl 16 rfl rfl rfl (Nat.le_of_ble_eq_true rfl) rfl dX6_barAt_25 (fun H locs w => ?_)
  exact kret _ _ _ _ _ _ _ (by decide) (by decide) dX6_barAt_28 w (by rw [chk_t (show 0 ≤ s ∧ s ≤ 5 by omega), chk_t (show 0 ≤ b ∧ b ≤ μ 13 s - 1 by omega)]; rfl) rfl

set_option maxHeartbeats 4000000 in
set_option maxRecDepth 100000 in
/-- beats -/
theorem k_beats (l : Launch) (hfl : l.stackTraces = false) (D : va_G) (cI cZ cJ : ClassId) (a : Nat → Nat) (μ : Nat → Int → Int) (s : Int) (hs : -2147483648 ≤ s ∧ s < 2147483648) (hP : IP μ) (hI : IH μ) (hB : IB μ) : Xi l D (tY cI cZ cJ) yX6_beats wsX6_beats rmX6_beats [.ref (a 0), .int (iI s)] (WAll cI a μ) (chk (0 ≤ s ∧ s ≤ 5) eIOB) (sI (fun b => cBs μ (cdF μ (μ 14 (s * 64 + b)) (μ 15 (s * 64 + b)))) (μ 13 s)) (WAll cI a μ) := by
  refine xi_of hfl (by decide +kernel) rfl (Nat.le_of_ble_eq_true rfl) (Or.inl rfl) ?_
  intro zp ze zs zm zargs zbelow zmeth zc A Q ls M hA w hl hT kret kout kthr
  have hl : lv_has ls 5 [(0, .ref (a 0)), (1, .int (iI s))] := hl
  have in6 : ∀ w ∈ u_ws RX6 TX6 11, w ∈ wsX6_beats := by decide +kernel
  refine q_iln M dX6_beats_0 (lv_at hl 1 rfl) ?_
  refine qx_vS (As := [.int (iI s)]) (rest := []) (wc := []) (wc2 := []) (ws2 := WAll cI a μ) M w hA hT hl (k_needSong l hfl D cI cZ cJ s (by omega)) gX6_beats_X6_needSong rfl ⟨by decide, by decide⟩ ⟨by decide, by decide⟩ 1 (by decide +kernel) rfl [] rfl rfl rfl (Nat.le_of_ble_eq_true rfl) rfl dX6_beats_1 (fun E ce q9 H1 locs1 hE w h1 h2 h3 => ?_) (fun H locs x1 w => ?_)
  · obtain ⟨hq, rfl⟩ := chk_e hE
    exact kout _ _ _ _ _ _ _ _ _ _ (by decide) (by decide) w h1 h2 h3 (by rw [chk_f (show ¬ (0 ≤ s ∧ s ≤ 5) by omega)])
  have y1 := chk_n x1
  refine q_ic M dX6_beats_4 ?_
  refine q_isn (lv' := [(2, .int (iI 0)), (0, .ref (a 0)), (1, .int (iI s))]) M dX6_beats_5 rfl hl (by decide) rfl (fun ls hl => ?_)
  refine q_aln M dX6_beats_6 (lv_at hl 1 rfl) ?_
  refine q_get (v := .ref (a 2)) M w in6 0 3 rfl rfl (by decide) (by decide +kernel) rfl rfl dX6_beats_7 ?_
  refine q_iln M dX6_beats_10 (lv_at hl 2 rfl) ?_
  refine qc_iV (As := [.int (iI s)]) (rest := []) (wc := WSn1 cI a μ (μ 13)) (wc2 := WSn1 cI a μ (μ 13)) (ws2 := WAll cI a μ) M w hA hl (k_countBars l D cI cZ cJ a μ (μ 13) s (by omega)) gX6_beats_X5_countBars rfl ⟨rfl, rfl, by decide, by decide⟩ ⟨by decide, by decide⟩ 1 ⟨rfl, by decide +kernel⟩ rfl [false, false, false, false, false, false, false, false, false, false, false, false, false, false, false, false, true, false, false, false, false, false, false, false, false, false, false, true, true] rfl rfl 16 rfl rfl rfl (Nat.le_of_ble_eq_true rfl) rfl dX6_beats_11 (fun H locs w => ?_)
  refine q_isn (lv' := [(3, .int (iI ((μ 13) s))), (2, .int (iI 0)), (0, .ref (a 0)), (1, .int (iI s))]) M dX6_beats_14 rfl hl (by decide) rfl (fun ls hl => ?_)
  have i6 := hI.2.2 s (by omega) (by omega)
  refine q_ic M dX6_beats_15 ?_
  refine q_is (lv' := [(4, .int (iI 0)), (3, .int (iI ((μ 13) s))), (2, .int (iI 0)), (0, .ref (a 0)), (1, .int (iI s))]) M dX6_beats_16 hl (by decide) rfl (fun ls hl => ?_)
  have lp18 : ∀ (n18 : Nat) (b : Int), (0 ≤ b ∧ b ≤ μ 13 s) → (μ 13 s - b : Int) < (n18 : Int) → ∀ (H : Heap) (locs : List Loc) (ls : Array Slot), wW D A zs.heap (WAll cI a μ) H locs → lv_has ls 5 [(0, .ref (a 0)), (1, .int (iI s)), (2, .int (iI (sI (fun b => cBs μ (cdF μ (μ 14 (s * 64 + b)) (μ 15 (s * 64 + b)))) b))), (3, .int (iI (μ 13 s))), (4, .int (iI b))] → W zp l ze rmX6_beats zs zm zargs zbelow zmeth zc H locs (0 + rmX6_needSong.cells) (0 + rmX6_needSong.slots) Q (F0 zm 18 ls []) := by
    intro n18
    induction n18 with
    | zero => intro b hj hm H locs ls w hl; exfalso; omega
    | succ n18 ih18 =>
      intro b hj hm18 H locs ls w hl
      have hs1 := sI_s (fun b => cBs μ (cdF μ (μ 14 (s * 64 + b)) (μ 15 (s * 64 + b)))) hj.1
      refine q_il M dX6_beats_18 (lv_at hl 4 rfl) ?_
      refine q_iln M dX6_beats_20 (lv_at hl 3 rfl) ?_
      refine q_icmp_ge (tgt := 50) M dX6_beats_21 (by decide) (by omega) (fun c21 => ?_) (fun c21 => ?_)
      · refine q_iln M dX6_beats_50 (lv_at hl 2 rfl) ?_
        exact kret _ _ _ _ _ _ _ (by decide) (by decide) dX6_beats_51 w (by rw [chk_t (show 0 ≤ s ∧ s ≤ 5 by omega)]) (by rw [show b = μ 13 s by omega])
      · have i5 := hB s b (by omega) (by omega) hj.1 (by omega)
        have i7 := cdF_bd μ (t := μ 15 (s * 64 + b)) i5.1
        refine q_iln M dX6_beats_24 (lv_at hl 2 rfl) ?_
        refine q_aln M dX6_beats_25 (lv_at hl 0 rfl) ?_
        refine q_get (v := .ref (a 1)) M w in6 0 2 rfl rfl (by decide) (by decide +kernel) rfl rfl dX6_beats_26 ?_
        refine q_aln M dX6_beats_29 (lv_at hl 0 rfl) ?_
        refine q_get (v := .ref (a 2)) M w in6 0 3 rfl rfl (by decide) (by decide +kernel) rfl rfl dX6_beats_30 ?_
        refine q_iln M dX6_beats_33 (lv_at hl 1 rfl) ?_
        refine q_il M dX6_beats_34 (lv_at hl 4 rfl) ?_
        refine qc_iV (As := [.int (iI s), .int (iI b)]) (rest := [.ref (a 1), .int (iI (sI (fun b => cBs μ (cdF μ (μ 14 (s * 64 + b)) (μ 15 (s * 64 + b)))) b))]) (wc := WSng cI a μ (μ 13) (μ 14) (μ 15) (μ 16) (μ 17)) (wc2 := WSng cI a μ (μ 13) (μ 14) (μ 15) (μ 16) (μ 17)) (ws2 := WAll cI a μ) M w hA hl (k_codeOf l D cI cZ cJ a μ (μ 13) (μ 14) (μ 15) (μ 16) (μ 17) s b hP (by omega)) gX6_beats_X5_codeOf rfl ⟨rfl, rfl, by decide, by decide⟩ ⟨by decide, by decide⟩ 2 ⟨rfl, by decide +kernel⟩ rfl [false, true, true, true, true, true, true, true, true, true, true, true, true, true, true, true, true, true, true, true, true, true, true, true, true, true, true, true, true, true, true, true, true, true, true, true, true] rfl rfl 16 rfl rfl rfl (Nat.le_of_ble_eq_true rfl) rfl dX6_beats_36 (fun H locs w => ?_)
        refine qc_iV (As := [.int (iI (cdF μ ((μ 14) (s * 64 + b)) ((μ 15) (s * 64 + b))))]) (rest := [.int (iI (sI (fun b => cBs μ (cdF μ (μ 14 (s * 64 + b)) (μ 15 (s * 64 + b)))) b))]) (wc := WPat cI a μ) (wc2 := WPat cI a μ) (ws2 := WAll cI a μ) M w hA hl (k_countBySteps l D cI cZ cJ a μ (cdF μ ((μ 14) (s * 64 + b)) ((μ 15) (s * 64 + b))) hP (by omega)) gX6_beats_X2_countBySteps rfl ⟨rfl, rfl, by decide, by decide⟩ ⟨by decide, by decide⟩ 1 ⟨rfl, by decide +kernel⟩ rfl [false, true, true, true, true, true, true, true, true, true, true, true, true, true, true, true] rfl rfl 3 rfl rfl rfl (Nat.le_of_ble_eq_true rfl) rfl dX6_beats_39 (fun H locs w => ?_)
        refine q_add M dX6_beats_42 ?_
        refine q_isn (lv' := [(2, .int (iI ((sI (fun b => cBs μ (cdF μ (μ 14 (s * 64 + b)) (μ 15 (s * 64 + b)))) b) + (cBs μ (cdF μ ((μ 14) (s * 64 + b)) ((μ 15) (s * 64 + b))))))), (0, .ref (a 0)), (1, .int (iI s)), (3, .int (iI (μ 13 s))), (4, .int (iI b))]) M dX6_beats_43 rfl hl (by decide) rfl (fun ls hl => ?_)
        have er : (sI (fun b => cBs μ (cdF μ (μ 14 (s * 64 + b)) (μ 15 (s * 64 + b)))) b) + (cBs μ (cdF μ ((μ 14) (s * 64 + b)) ((μ 15) (s * 64 + b)))) = sI (fun b => cBs μ (cdF μ (μ 14 (s * 64 + b)) (μ 15 (s * 64 + b)))) (b + 1) := by rw [hs1]
        have hl : lv_has ls 5 [(2, .int (iI (sI (fun b => cBs μ (cdF μ (μ 14 (s * 64 + b)) (μ 15 (s * 64 + b)))) (b + 1)))), (0, .ref (a 0)), (1, .int (iI s)), (3, .int (iI (μ 13 s))), (4, .int (iI b))] := by rw [← er]; exact hl
        refine q_inc (z := b) (lv' := [(4, .int (iI (b + 1))), (2, .int (iI (sI (fun b => cBs μ (cdF μ (μ 14 (s * 64 + b)) (μ 15 (s * 64 + b)))) (b + 1)))), (0, .ref (a 0)), (1, .int (iI s)), (3, .int (iI (μ 13 s)))]) M dX6_beats_44 hl (k := 4) rfl (by decide) rfl (fun ls hl => ?_)
        refine q_go (tgt := 18) M dX6_beats_47 (by decide) ?_
        exact ih18 (b + 1) (by omega) (by omega) _ _ _ w (lv_sub hl [2, 3, 1, 4, 0] rfl)
  have er : 0 = sI (fun b => cBs μ (cdF μ (μ 14 (s * 64 + b)) (μ 15 (s * 64 + b)))) 0 := by rw [sI_0]
  have hl : lv_has ls 5 [(4, .int (iI 0)), (3, .int (iI ((μ 13) s))), (2, .int (iI (sI (fun b => cBs μ (cdF μ (μ 14 (s * 64 + b)) (μ 15 (s * 64 + b)))) 0))), (0, .ref (a 0)), (1, .int (iI s))] := by rw [← er]; exact hl
  exact lp18 65 0 (by omega) (by omega) _ _ _ w (lv_sub hl [3, 4, 2, 1, 0] rfl)

set_option maxHeartbeats 4000000 in
set_option maxRecDepth 100000 in
/-- beatsByTicks -/
theorem k_beatsByTicks (l : Launch) (hfl : l.stackTraces = false) (D : va_G) (cI cZ cJ : ClassId) (a : Nat → Nat) (μ : Nat → Int → Int) (s : Int) (hs : -2147483648 ≤ s ∧ s < 2147483648) (hP : IP μ) (hI : IH μ) (hB : IB μ) : Xi l D (tY cI cZ cJ) yX6_beatsByTicks wsX6_beatsByTicks rmX6_beatsByTicks [.ref (a 0), .int (iI s)] (WAll cI a μ) (chk (0 ≤ s ∧ s ≤ 5) eIOB) (sI (fun b => cBt μ (cdF μ (μ 14 (s * 64 + b)) (μ 15 (s * 64 + b)))) (μ 13 s)) (WAll cI a μ) := by
  refine xi_of hfl (by decide +kernel) rfl (Nat.le_of_ble_eq_true rfl) (Or.inl rfl) ?_
  intro zp ze zs zm zargs zbelow zmeth zc A Q ls M hA w hl hT kret kout kthr
  have hl : lv_has ls 5 [(0, .ref (a 0)), (1, .int (iI s))] := hl
  have in6 : ∀ w ∈ u_ws RX6 TX6 11, w ∈ wsX6_beatsByTicks := by decide +kernel
  refine q_iln M dX6_beatsByTicks_0 (lv_at hl 1 rfl) ?_
  refine qx_vS (As := [.int (iI s)]) (rest := []) (wc := []) (wc2 := []) (ws2 := WAll cI a μ) M w hA hT hl (k_needSong l hfl D cI cZ cJ s (by omega)) gX6_beatsByTicks_X6_needSong rfl ⟨by decide, by decide⟩ ⟨by decide, by decide⟩ 1 (by decide +kernel) rfl [] rfl rfl rfl (Nat.le_of_ble_eq_true rfl) rfl dX6_beatsByTicks_1 (fun E ce q9 H1 locs1 hE w h1 h2 h3 => ?_) (fun H locs x1 w => ?_)
  · obtain ⟨hq, rfl⟩ := chk_e hE
    exact kout _ _ _ _ _ _ _ _ _ _ (by decide) (by decide) w h1 h2 h3 (by rw [chk_f (show ¬ (0 ≤ s ∧ s ≤ 5) by omega)])
  have y1 := chk_n x1
  refine q_ic M dX6_beatsByTicks_4 ?_
  refine q_isn (lv' := [(2, .int (iI 0)), (0, .ref (a 0)), (1, .int (iI s))]) M dX6_beatsByTicks_5 rfl hl (by decide) rfl (fun ls hl => ?_)
  refine q_aln M dX6_beatsByTicks_6 (lv_at hl 1 rfl) ?_
  refine q_get (v := .ref (a 2)) M w in6 0 3 rfl rfl (by decide) (by decide +kernel) rfl rfl dX6_beatsByTicks_7 ?_
  refine q_iln M dX6_beatsByTicks_10 (lv_at hl 2 rfl) ?_
  refine qc_iV (As := [.int (iI s)]) (rest := []) (wc := WSn1 cI a μ (μ 13)) (wc2 := WSn1 cI a μ (μ 13)) (ws2 := WAll cI a μ) M w hA hl (k_countBars l D cI cZ cJ a μ (μ 13) s (by omega)) gX6_beatsByTicks_X5_countBars rfl ⟨rfl, rfl, by decide, by decide⟩ ⟨by decide, by decide⟩ 1 ⟨rfl, by decide +kernel⟩ rfl [false, false, false, false, false, false, false, false, false, false, false, false, false, false, false, false, true, false, false, false, false, false, false, false, false, false, false, true, true] rfl rfl 16 rfl rfl rfl (Nat.le_of_ble_eq_true rfl) rfl dX6_beatsByTicks_11 (fun H locs w => ?_)
  refine q_isn (lv' := [(3, .int (iI ((μ 13) s))), (2, .int (iI 0)), (0, .ref (a 0)), (1, .int (iI s))]) M dX6_beatsByTicks_14 rfl hl (by decide) rfl (fun ls hl => ?_)
  have i6 := hI.2.2 s (by omega) (by omega)
  refine q_ic M dX6_beatsByTicks_15 ?_
  refine q_is (lv' := [(4, .int (iI 0)), (3, .int (iI ((μ 13) s))), (2, .int (iI 0)), (0, .ref (a 0)), (1, .int (iI s))]) M dX6_beatsByTicks_16 hl (by decide) rfl (fun ls hl => ?_)
  have lp18 : ∀ (n18 : Nat) (b : Int), (0 ≤ b ∧ b ≤ μ 13 s) → (μ 13 s - b : Int) < (n18 : Int) → ∀ (H : Heap) (locs : List Loc) (ls : Array Slot), wW D A zs.heap (WAll cI a μ) H locs → lv_has ls 5 [(0, .ref (a 0)), (1, .int (iI s)), (2, .int (iI (sI (fun b => cBt μ (cdF μ (μ 14 (s * 64 + b)) (μ 15 (s * 64 + b)))) b))), (3, .int (iI (μ 13 s))), (4, .int (iI b))] → W zp l ze rmX6_beatsByTicks zs zm zargs zbelow zmeth zc H locs (0 + rmX6_needSong.cells) (0 + rmX6_needSong.slots) Q (F0 zm 18 ls []) := by
    intro n18
    induction n18 with
    | zero => intro b hj hm H locs ls w hl; exfalso; omega
    | succ n18 ih18 =>
      intro b hj hm18 H locs ls w hl
      have hs1 := sI_s (fun b => cBt μ (cdF μ (μ 14 (s * 64 + b)) (μ 15 (s * 64 + b)))) hj.1
      refine q_il M dX6_beatsByTicks_18 (lv_at hl 4 rfl) ?_
      refine q_iln M dX6_beatsByTicks_20 (lv_at hl 3 rfl) ?_
      refine q_icmp_ge (tgt := 50) M dX6_beatsByTicks_21 (by decide) (by omega) (fun c21 => ?_) (fun c21 => ?_)
      · refine q_iln M dX6_beatsByTicks_50 (lv_at hl 2 rfl) ?_
        exact kret _ _ _ _ _ _ _ (by decide) (by decide) dX6_beatsByTicks_51 w (by rw [chk_t (show 0 ≤ s ∧ s ≤ 5 by omega)]) (by rw [show b = μ 13 s by omega])
      · have i5 := hB s b (by omega) (by omega) hj.1 (by omega)
        have i7 := cdF_bd μ (t := μ 15 (s * 64 + b)) i5.1
        refine q_iln M dX6_beatsByTicks_24 (lv_at hl 2 rfl) ?_
        refine q_aln M dX6_beatsByTicks_25 (lv_at hl 0 rfl) ?_
        refine q_get (v := .ref (a 1)) M w in6 0 2 rfl rfl (by decide) (by decide +kernel) rfl rfl dX6_beatsByTicks_26 ?_
        refine q_aln M dX6_beatsByTicks_29 (lv_at hl 0 rfl) ?_
        refine q_get (v := .ref (a 2)) M w in6 0 3 rfl rfl (by decide) (by decide +kernel) rfl rfl dX6_beatsByTicks_30 ?_
        refine q_iln M dX6_beatsByTicks_33 (lv_at hl 1 rfl) ?_
        refine q_il M dX6_beatsByTicks_34 (lv_at hl 4 rfl) ?_
        refine qc_iV (As := [.int (iI s), .int (iI b)]) (rest := [.ref (a 1), .int (iI (sI (fun b => cBt μ (cdF μ (μ 14 (s * 64 + b)) (μ 15 (s * 64 + b)))) b))]) (wc := WSng cI a μ (μ 13) (μ 14) (μ 15) (μ 16) (μ 17)) (wc2 := WSng cI a μ (μ 13) (μ 14) (μ 15) (μ 16) (μ 17)) (ws2 := WAll cI a μ) M w hA hl (k_codeOf l D cI cZ cJ a μ (μ 13) (μ 14) (μ 15) (μ 16) (μ 17) s b hP (by omega)) gX6_beatsByTicks_X5_codeOf rfl ⟨rfl, rfl, by decide, by decide⟩ ⟨by decide, by decide⟩ 2 ⟨rfl, by decide +kernel⟩ rfl [false, true, true, true, true, true, true, true, true, true, true, true, true, true, true, true, true, true, true, true, true, true, true, true, true, true, true, true, true, true, true, true, true, true, true, true, true] rfl rfl 16 rfl rfl rfl (Nat.le_of_ble_eq_true rfl) rfl dX6_beatsByTicks_36 (fun H locs w => ?_)
        refine qc_iV (As := [.int (iI (cdF μ ((μ 14) (s * 64 + b)) ((μ 15) (s * 64 + b))))]) (rest := [.int (iI (sI (fun b => cBt μ (cdF μ (μ 14 (s * 64 + b)) (μ 15 (s * 64 + b)))) b))]) (wc := WPat cI a μ) (wc2 := WPat cI a μ) (ws2 := WAll cI a μ) M w hA hl (k_countByTicks l D cI cZ cJ a μ (cdF μ ((μ 14) (s * 64 + b)) ((μ 15) (s * 64 + b))) hP (by omega)) gX6_beatsByTicks_X2_countByTicks rfl ⟨rfl, rfl, by decide, by decide⟩ ⟨by decide, by decide⟩ 1 ⟨rfl, by decide +kernel⟩ rfl [false, true, true, true, true, true, true, true, true, true, true, true, true, true, true, true] rfl rfl 3 rfl rfl rfl (Nat.le_of_ble_eq_true rfl) rfl dX6_beatsByTicks_39 (fun H locs w => ?_)
        refine q_add M dX6_beatsByTicks_42 ?_
        refine q_isn (lv' := [(2, .int (iI ((sI (fun b => cBt μ (cdF μ (μ 14 (s * 64 + b)) (μ 15 (s * 64 + b)))) b) + (cBt μ (cdF μ ((μ 14) (s * 64 + b)) ((μ 15) (s * 64 + b))))))), (0, .ref (a 0)), (1, .int (iI s)), (3, .int (iI (μ 13 s))), (4, .int (iI b))]) M dX6_beatsByTicks_43 rfl hl (by decide) rfl (fun ls hl => ?_)
        have er : (sI (fun b => cBt μ (cdF μ (μ 14 (s * 64 + b)) (μ 15 (s * 64 + b)))) b) + (cBt μ (cdF μ ((μ 14) (s * 64 + b)) ((μ 15) (s * 64 + b)))) = sI (fun b => cBt μ (cdF μ (μ 14 (s * 64 + b)) (μ 15 (s * 64 + b)))) (b + 1) := by rw [hs1]
        have hl : lv_has ls 5 [(2, .int (iI (sI (fun b => cBt μ (cdF μ (μ 14 (s * 64 + b)) (μ 15 (s * 64 + b)))) (b + 1)))), (0, .ref (a 0)), (1, .int (iI s)), (3, .int (iI (μ 13 s))), (4, .int (iI b))] := by rw [← er]; exact hl
        refine q_inc (z := b) (lv' := [(4, .int (iI (b + 1))), (2, .int (iI (sI (fun b => cBt μ (cdF μ (μ 14 (s * 64 + b)) (μ 15 (s * 64 + b)))) (b + 1)))), (0, .ref (a 0)), (1, .int (iI s)), (3, .int (iI (μ 13 s)))]) M dX6_beatsByTicks_44 hl (k := 4) rfl (by decide) rfl (fun ls hl => ?_)
        refine q_go (tgt := 18) M dX6_beatsByTicks_47 (by decide) ?_
        exact ih18 (b + 1) (by omega) (by omega) _ _ _ w (lv_sub hl [2, 3, 1, 4, 0] rfl)
  have er : 0 = sI (fun b => cBt μ (cdF μ (μ 14 (s * 64 + b)) (μ 15 (s * 64 + b)))) 0 := by rw [sI_0]
  have hl : lv_has ls 5 [(4, .int (iI 0)), (3, .int (iI ((μ 13) s))), (2, .int (iI (sI (fun b => cBt μ (cdF μ (μ 14 (s * 64 + b)) (μ 15 (s * 64 + b)))) 0))), (0, .ref (a 0)), (1, .int (iI s))] := by rw [← er]; exact hl
  exact lp18 65 0 (by omega) (by omega) _ _ _ w (lv_sub hl [3, 4, 2, 1, 0] rfl)
