/-! THE MACHINE: the set -/
noncomputable def tkN (μ : Nat → Int → Int) (k : Int) : Nat → Int → Int := itI (fun _ m => if m 23 0 = 1 then psT m else m) μ k
/-- the set begun, before its first bar is entered -/
def stM (μ : Nat → Int → Int) : Nat → Int → Int := mset (mset (mset (mset (mset (mset (mset μ 21 (fun _ => 0)) 23 (fun _ => 1)) 24 (fun _ => 0)) 25 (fun _ => 0)) 26 (fun _ => 0)) 27 (fun _ => 0)) 28 (fun _ => -1)
def skM (μ : Nat → Int → Int) : Nat → Int → Int := mset (mset (mset (mset μ 23 (fun _ => (if μ 24 0 + 1 < μ 22 0 then 1 else 0))) 24 (fun _ => μ 24 0 + 1)) 25 (fun _ => 0)) 26 (fun _ => 0)
/-- a bar entered -/
noncomputable def enM (m : Nat → Int → Int) : Nat → Int → Int := mset (mset (mset m 19 (enX m (m 19)).1) 20 (enX m (m 19)).2) 30 (fun _ => cAh m 0)
noncomputable def skE (μ : Nat → Int → Int) : Nat → Int → Int := @ite (Nat → Int → Int) (μ 24 0 + 1 < μ 22 0) (Classical.propDecidable _) (enM (skM μ)) (skM μ)

set_option maxHeartbeats 4000000 in
set_option maxRecDepth 100000 in
/-- addToSet -/
theorem k_addToSet (l : Launch) (hfl : l.stackTraces = false) (D : va_G) (cI cZ cJ : ClassId) (a : Nat → Nat) (μ : Nat → Int → Int) (s : Int) (hs : -2147483648 ≤ s ∧ s < 2147483648) (h23 : μ 23 0 = 0 ∨ μ 23 0 = 1) (hc : 0 ≤ μ 22 0 ∧ μ 22 0 ≤ 8) : Xi l D (tY cI cZ cJ) yX6_addToSet wsX6_addToSet rmX6_addToSet [.ref (a 0), .int (iI s)] (WAll cI a μ) (sq (chk (0 ≤ s ∧ s ≤ 5) eIOB) (sq (chk (μ 23 0 = 0) eISE) (chk (μ 22 0 < 8) eISE))) (μ 22 0 + 1) (WAll cI a (mset (mset μ 18 (iU (μ 18) (μ 22 0) s)) 22 (fun _ => μ 22 0 + 1))) := by
  refine xi_of hfl (by decide +kernel) rfl (Nat.le_of_ble_eq_true rfl) (Or.inl rfl) ?_
  intro zp ze zs zm zargs zbelow zmeth zc A Q ls M hA w hl hT kret kout kthr
  have hl : lv_has ls 2 [(0, .ref (a 0)), (1, .int (iI s))] := hl
  have in6 : ∀ w ∈ u_ws RX6 TX6 11, w ∈ wsX6_addToSet := by decide +kernel
  refine q_iln M dX6_addToSet_0 (lv_at hl 1 rfl) ?_
  refine qx_vS (As := [.int (iI s)]) (rest := []) (wc := []) (wc2 := []) (ws2 := WAll cI a μ) M w hA hT hl (k_needSong l hfl D cI cZ cJ s (by omega)) gX6_addToSet_X6_needSong rfl ⟨by decide, by decide⟩ ⟨by decide, by decide⟩ 1 (by decide +kernel) rfl [] rfl rfl rfl (Nat.le_of_ble_eq_true rfl) rfl dX6_addToSet_1 (fun E ce q9 H1 locs1 hE w h1 h2 h3 => ?_) (fun H locs x1 w => ?_)
  · obtain ⟨hq, rfl⟩ := chk_e hE
    exact kout _ _ _ _ _ _ _ _ _ _ (by decide) (by decide) w h1 h2 h3 (by rw [chk_f (show ¬ (0 ≤ s ∧ s ≤ 5) by omega)]; rfl)
  have y1 := chk_n x1
  refine q_aln M dX6_addToSet_4 (lv_at hl 0 rfl) ?_
  refine qx_vV (As := []) (rest := []) (wc := WXH cI a μ) (wc2 := WXH cI a μ) (ws2 := WAll cI a μ) M w hA hT hl (k_needNotPlayed l hfl D cI cZ cJ a μ h23) gX6_addToSet_X6_needNotPlayed rfl ⟨by decide, by decide⟩ ⟨by decide, by decide⟩ 0 ⟨rfl, by decide +kernel⟩ rfl [true, false, false, false, false, false, false, false, false, false, false, false, false, false, false, false, false, false, false, false, false, false, false, false, false, false, false, false, false, false, false, false, false, false, false, false, false, true] rfl rfl 0 rfl rfl rfl (Nat.le_of_ble_eq_true rfl) rfl dX6_addToSet_5 (fun E ce q9 H1 locs1 hE w h1 h2 h3 => ?_) (fun H locs x5 w => ?_)
  · obtain ⟨hq, rfl⟩ := chk_e hE
    exact kout _ _ _ _ _ _ _ _ _ _ (by decide) (by decide) w h1 h2 h3 (by rw [chk_t (show 0 ≤ s ∧ s ≤ 5 by omega), chk_f (show ¬ (μ 23 0 = 0) by omega)]; rfl)
  have y5 := chk_n x5
  refine q_aln M dX6_addToSet_8 (lv_at hl 0 rfl) ?_
  refine q_get (v := .ref (a 3)) M w in6 0 4 rfl rfl (by decide) (by decide +kernel) rfl rfl dX6_addToSet_9 ?_
  refine qc_iV (As := []) (rest := []) (wc := WH0 cI a μ) (wc2 := WH0 cI a μ) (ws2 := WAll cI a μ) M w hA hl (k_isFull l D cI cZ cJ a μ hc) gX6_addToSet_X4_isFull rfl ⟨rfl, rfl, by decide, by decide⟩ ⟨by decide, by decide⟩ 0 ⟨rfl, by decide +kernel⟩ rfl [false, false, false, false, false, false, false, false, false, false, false, false, false, false, false, false, false, false, false, false, false, false, false, false, false, false, false, false, false, false, false, false, false, false, false, false, false, true] rfl rfl 37 rfl rfl rfl (Nat.le_of_ble_eq_true rfl) rfl dX6_addToSet_12 (fun H locs w => ?_)
  have q5 : (if 8 ≤ μ 22 0 then (1 : Int) else 0) = 1 ∧ 8 ≤ μ 22 0 ∨ (if 8 ≤ μ 22 0 then (1 : Int) else 0) = 0 ∧ μ 22 0 < 8 := by split <;> omega
  refine q_if_eq (tgt := 28) M dX6_addToSet_15 (by decide) (by omega) (fun c15 => ?_) (fun c15 => ?_)
  · refine q_aln M dX6_addToSet_28 (lv_at hl 0 rfl) ?_
    refine q_get (v := .ref (a 3)) M w in6 0 4 rfl rfl (by decide) (by decide +kernel) rfl rfl dX6_addToSet_29 ?_
    refine q_iln M dX6_addToSet_32 (lv_at hl 1 rfl) ?_
    refine qc_iV (As := [.int (iI s)]) (rest := []) (wc := WH cI a μ) (wc2 := WH cI a (mset (mset μ 18 (iU (μ 18) (μ 22 0) s)) 22 (fun _ => μ 22 0 + 1))) (ws2 := WAll cI a (mset (mset μ 18 (iU (μ 18) (μ 22 0) s)) 22 (fun _ => μ 22 0 + 1))) M w hA hl (k_Happend l D cI cZ cJ a μ s (by omega)) gX6_addToSet_X4_append rfl ⟨rfl, rfl, by decide, by decide⟩ ⟨by decide, by decide⟩ 1 ⟨rfl, by decide +kernel⟩ rfl [false, false, false, false, false, false, false, false, false, false, false, false, false, false, false, false, false, false, false, false, false, false, false, false, false, false, false, false, false, false, false, false, false, false, false, false, false, true, true, true] rfl rfl 37 rfl rfl rfl (Nat.le_of_ble_eq_true rfl) rfl dX6_addToSet_33 (fun H locs w => ?_)
    exact kret _ _ _ _ _ _ _ (by decide) (by decide) dX6_addToSet_36 w (by rw [chk_t (show 0 ≤ s ∧ s ≤ 5 by omega), chk_t (show μ 23 0 = 0 by omega), chk_t (show μ 22 0 < 8 by omega)]; rfl) rfl
  · exact kthr eISE "the set list has 8 songs" 118 148 122 18 _ _ _ _ _ _ _ (by decide +kernel) (by decide +kernel) (by decide +kernel) hT.2.2.2.2.2.2.1 (by decide +kernel) (by decide +kernel) hT.2.2.2.1.2.2 (by decide +kernel) hl w dX6_addToSet_18 dX6_addToSet_21 dX6_addToSet_22 dX6_addToSet_24 dX6_addToSet_27 (by decide) (Nat.le_of_ble_eq_true rfl) (by decide) (by decide) (by rw [chk_t (show 0 ≤ s ∧ s ≤ 5 by omega), chk_t (show μ 23 0 = 0 by omega), chk_f (show ¬ (μ 22 0 < 8) by omega)]; rfl)

set_option maxHeartbeats 4000000 in
set_option maxRecDepth 100000 in
/-- clearSet -/
theorem k_clearSet (l : Launch) (hfl : l.stackTraces = false) (D : va_G) (cI cZ cJ : ClassId) (a : Nat → Nat) (μ : Nat → Int → Int)(h23 : μ 23 0 = 0 ∨ μ 23 0 = 1) : Xi l D (tY cI cZ cJ) yX6_clearSet wsX6_clearSet rmX6_clearSet [.ref (a 0)] (WAll cI a μ) (chk (μ 23 0 = 0) eISE) (μ 22 0) (WAll cI a (mset μ 22 (fun _ => 0))) := by
  refine xi_of hfl (by decide +kernel) rfl (Nat.le_of_ble_eq_true rfl) (Or.inl rfl) ?_
  intro zp ze zs zm zargs zbelow zmeth zc A Q ls M hA w hl hT kret kout kthr
  have hl : lv_has ls 1 [(0, .ref (a 0))] := hl
  have in6 : ∀ w ∈ u_ws RX6 TX6 11, w ∈ wsX6_clearSet := by decide +kernel
  refine q_aln M dX6_clearSet_0 (lv_at hl 0 rfl) ?_
  refine qx_vV (As := []) (rest := []) (wc := WXH cI a μ) (wc2 := WXH cI a μ) (ws2 := WAll cI a μ) M w hA hT hl (k_needNotPlayed l hfl D cI cZ cJ a μ h23) gX6_clearSet_X6_needNotPlayed rfl ⟨by decide, by decide⟩ ⟨by decide, by decide⟩ 0 ⟨rfl, by decide +kernel⟩ rfl [true, false, false, false, false, false, false, false, false, false, false, false, false, false, false, false, false, false, false, false, false, false, false, false, false, false, false, false, false, false, false, false, false, false, false, false, false, true] rfl rfl 0 rfl rfl rfl (Nat.le_of_ble_eq_true rfl) rfl dX6_clearSet_1 (fun E ce q9 H1 locs1 hE w h1 h2 h3 => ?_) (fun H locs x1 w => ?_)
  · obtain ⟨hq, rfl⟩ := chk_e hE
    exact kout _ _ _ _ _ _ _ _ _ _ (by decide) (by decide) w h1 h2 h3 (by rw [chk_f (show ¬ (μ 23 0 = 0) by omega)])
  have y1 := chk_n x1
  refine q_aln M dX6_clearSet_4 (lv_at hl 0 rfl) ?_
  refine q_get (v := .ref (a 3)) M w in6 0 4 rfl rfl (by decide) (by decide +kernel) rfl rfl dX6_clearSet_5 ?_
  refine qc_iV (As := []) (rest := []) (wc := WH0 cI a μ) (wc2 := WH0 cI a (mset μ 22 (fun _ => 0))) (ws2 := WAll cI a (mset μ 22 (fun _ => 0))) M w hA hl (k_removeAll l D cI cZ cJ a μ ) gX6_clearSet_X4_removeAll rfl ⟨rfl, rfl, by decide, by decide⟩ ⟨by decide, by decide⟩ 0 ⟨rfl, by decide +kernel⟩ rfl [false, false, false, false, false, false, false, false, false, false, false, false, false, false, false, false, false, false, false, false, false, false, false, false, false, false, false, false, false, false, false, false, false, false, false, false, false, true] rfl rfl 37 rfl rfl rfl (Nat.le_of_ble_eq_true rfl) rfl dX6_clearSet_8 (fun H locs w => ?_)
  exact kret _ _ _ _ _ _ _ (by decide) (by decide) dX6_clearSet_11 w (by rw [chk_t (show μ 23 0 = 0 by omega)]) rfl

set_option maxHeartbeats 4000000 in
set_option maxRecDepth 100000 in
/-- start -/
theorem k_start (l : Launch) (hfl : l.stackTraces = false) (D : va_G) (cI cZ cJ : ClassId) (a : Nat → Nat) (μ : Nat → Int → Int)(h23 : μ 23 0 = 0 ∨ μ 23 0 = 1) (hP : IP μ) (hI : IH μ) (hB : IB μ) (hn : (0 < μ 22 0 ∧ ∀ i, 0 ≤ i → i < μ 22 0 → μ 13 (μ 18 i) ≠ 0) → 0 ≤ cAh (stM μ) 0 ∧ cAh (stM μ) 0 < 120) : Xi l D (tY cI cZ cJ) yX6_start wsX6_start rmX6_start [.ref (a 0)] (WAll cI a μ) (sq (chk (μ 23 0 = 0) eISE) (chk (0 < μ 22 0 ∧ ∀ i, 0 ≤ i → i < μ 22 0 → μ 13 (μ 18 i) ≠ 0) eISE)) (sI (fun j => μ 13 (μ 18 j)) (μ 22 0)) (WAll cI a (enM (stM μ))) := by
  refine xi_of hfl (by decide +kernel) rfl (Nat.le_of_ble_eq_true rfl) (Or.inl rfl) ?_
  intro zp ze zs zm zargs zbelow zmeth zc A Q ls M hA w hl hT kret kout kthr
  have hl : lv_has ls 1 [(0, .ref (a 0))] := hl
  have in6 : ∀ w ∈ u_ws RX6 TX6 11, w ∈ wsX6_start := by decide +kernel
  refine q_aln M dX6_start_0 (lv_at hl 0 rfl) ?_
  refine qx_vV (As := []) (rest := []) (wc := WXH cI a μ) (wc2 := WXH cI a μ) (ws2 := WAll cI a μ) M w hA hT hl (k_needNotPlayed l hfl D cI cZ cJ a μ h23) gX6_start_X6_needNotPlayed rfl ⟨by decide, by decide⟩ ⟨by decide, by decide⟩ 0 ⟨rfl, by decide +kernel⟩ rfl [true, false, false, false, false, false, false, false, false, false, false, false, false, false, false, false, false, false, false, false, false, false, false, false, false, false, false, false, false, false, false, false, false, false, false, false, false, true] rfl rfl 0 rfl rfl rfl (Nat.le_of_ble_eq_true rfl) rfl dX6_start_1 (fun E ce q9 H1 locs1 hE w h1 h2 h3 => ?_) (fun H locs x1 w => ?_)
  · obtain ⟨hq, rfl⟩ := chk_e hE
    exact kout _ _ _ _ _ _ _ _ _ _ (by decide) (by decide) w h1 h2 h3 (by rw [chk_f (show ¬ (μ 23 0 = 0) by omega)]; rfl)
  have y1 := chk_n x1
  refine q_aln M dX6_start_4 (lv_at hl 0 rfl) ?_
  refine q_get (v := .ref (a 3)) M w in6 0 4 rfl rfl (by decide) (by decide +kernel) rfl rfl dX6_start_5 ?_
  refine qc_iV (As := []) (rest := []) (wc := WSb cI a μ) (wc2 := WSb cI a μ) (ws2 := WAll cI a μ) M w hA hl (k_canBegin l D cI cZ cJ a μ hI) gX6_start_X4_canBegin rfl ⟨rfl, rfl, by decide, by decide⟩ ⟨by decide, by decide⟩ 0 ⟨rfl, by decide +kernel⟩ rfl [false, false, false, false, false, false, false, false, false, false, false, false, false, false, false, false, true, false, false, false, false, false, false, false, false, false, false, true, true, false, false, false, false, false, false, false, false, true, true, true] rfl rfl 37 rfl rfl rfl (Nat.le_of_ble_eq_true rfl) rfl dX6_start_8 (fun H locs w => ?_)
  have q5 := b01_c (0 < μ 22 0 ∧ ∀ i, 0 ≤ i → i < μ 22 0 → μ 13 (μ 18 i) ≠ 0)
  refine q_if_ne (tgt := 24) M dX6_start_11 (by decide) (by omega) (fun c11 => ?_) (fun c11 => ?_)
  · have hcb : 0 < μ 22 0 ∧ ∀ i, 0 ≤ i → i < μ 22 0 → μ 13 (μ 18 i) ≠ 0 := Classical.byContradiction fun q => by have q2 := b01_f q; omega
    refine q_aln M dX6_start_24 (lv_at hl 0 rfl) ?_
    refine q_get (v := .ref (a 3)) M w in6 0 4 rfl rfl (by decide) (by decide +kernel) rfl rfl dX6_start_25 ?_
    refine qc_vV (As := []) (rest := []) (wc := WH0 cI a μ) (wc2 := WH0 cI a (mset (mset (mset (mset μ 23 (fun _ => 1)) 24 (fun _ => 0)) 25 (fun _ => 0)) 26 (fun _ => 0))) (ws2 := WAll cI a (mset (mset (mset (mset μ 23 (fun _ => 1)) 24 (fun _ => 0)) 25 (fun _ => 0)) 26 (fun _ => 0))) M w hA hl (k_begin l D cI cZ cJ a μ ) gX6_start_X4_begin rfl ⟨rfl, rfl, by decide, by decide⟩ ⟨by decide, by decide⟩ 0 ⟨rfl, by decide +kernel⟩ rfl [false, false, false, false, false, false, false, false, false, false, false, false, false, false, false, false, false, false, false, false, false, false, false, false, false, false, false, false, false, false, false, false, false, false, false, false, false, true] rfl rfl 37 rfl rfl rfl (Nat.le_of_ble_eq_true rfl) rfl dX6_start_28 (fun H locs w => ?_)
    refine q_aln M dX6_start_31 (lv_at hl 0 rfl) ?_
    refine q_get (v := .ref (a 5)) M w in6 0 6 rfl rfl (by decide) (by decide +kernel) rfl rfl dX6_start_32 ?_
    refine qc_vV (As := []) (rest := []) (wc := WMy cI a μ (μ 21) (fun _ => μ 27 0) (fun _ => μ 28 0) (fun _ => μ 29 0)) (wc2 := WMy cI a μ (fun _ => 0) (fun _ => 0) (fun _ => (-1)) (fun _ => μ 29 0)) (ws2 := WAll cI a (mset (mset (mset (mset (mset (mset (mset μ 21 (fun _ => 0)) 23 (fun _ => 1)) 24 (fun _ => 0)) 25 (fun _ => 0)) 26 (fun _ => 0)) 27 (fun _ => 0)) 28 (fun _ => (-1)))) M w hA hl (k_empty l D cI cZ cJ a μ (μ 21) (μ 27 0) (μ 28 0) (μ 29 0)) gX6_start_X1_empty rfl ⟨rfl, rfl, by decide, by decide⟩ ⟨by decide, by decide⟩ 0 ⟨rfl, by decide +kernel⟩ rfl [false, false, false, false, false, false, false, false, false, false, false, false, false, false, false, false, false, false, false, false, false, false, false, false, false, false, false, false, false, false, false, false, false, false, false, false, false, false, false, false, false, false, false, false, false, true, true, true, true, true] rfl rfl 45 rfl rfl rfl (Nat.le_of_ble_eq_true rfl) rfl dX6_start_35 (fun H locs w => ?_)
    refine q_aln M dX6_start_38 (lv_at hl 0 rfl) ?_
    refine qc_vV (As := []) (rest := []) (wc := WEnt cI a (stM μ) ((stM μ) 19) ((stM μ) 20) (fun _ => (stM μ) 30 0)) (wc2 := WEnt cI a (stM μ) ((enX (stM μ) ((stM μ) 19)).1) ((enX (stM μ) ((stM μ) 19)).2) (fun _ => cAh (stM μ) 0)) (ws2 := WAll cI a (mset (mset (mset (mset (mset (mset (mset (mset (mset (mset μ 19 ((enX (stM μ) ((stM μ) 19)).1)) 20 ((enX (stM μ) ((stM μ) 19)).2)) 21 (fun _ => 0)) 23 (fun _ => 1)) 24 (fun _ => 0)) 25 (fun _ => 0)) 26 (fun _ => 0)) 27 (fun _ => 0)) 28 (fun _ => (-1))) 30 (fun _ => cAh (stM μ) 0))) M w hA hl (k_enterBar l D cI cZ cJ a (stM μ) ((stM μ) 19) ((stM μ) 20) ((stM μ) 30 0) (show IP (stM μ) from hP) (show IH (stM μ) from hI) (show IB (stM μ) from hB) ⟨⟨Int.le_refl 0, hI.1.1⟩, (⟨Int.le_refl 0, by decide⟩ : (0 : Int) ≤ 0 ∧ (0 : Int) < 64)⟩ (hn hcb)) gX6_start_X6_enterBar rfl ⟨rfl, rfl, by decide, by decide⟩ ⟨by decide, by decide⟩ 0 ⟨rfl, by decide +kernel⟩ rfl [true, true, true, true, true, true, true, true, true, true, true, true, true, true, true, true, true, true, true, true, true, true, true, true, true, true, true, true, true, true, true, true, true, true, true, true, true, true, true, true, true, true, true, true, true] rfl rfl 0 rfl rfl rfl (Nat.le_of_ble_eq_true rfl) rfl dX6_start_39 (fun H locs w => ?_)
    refine q_aln M dX6_start_42 (lv_at hl 0 rfl) ?_
    refine q_get (v := .ref (a 3)) M w in6 0 4 rfl rfl (by decide) (by decide +kernel) rfl rfl dX6_start_43 ?_
    refine qc_iV (As := []) (rest := []) (wc := WSb cI a (mset (mset (mset (mset μ 23 (fun _ => 1)) 24 (fun _ => 0)) 25 (fun _ => 0)) 26 (fun _ => 0))) (wc2 := WSb cI a (mset (mset (mset (mset μ 23 (fun _ => 1)) 24 (fun _ => 0)) 25 (fun _ => 0)) 26 (fun _ => 0))) (ws2 := WAll cI a (mset (mset (mset (mset (mset (mset (mset (mset (mset (mset μ 19 ((enX (stM μ) ((stM μ) 19)).1)) 20 ((enX (stM μ) ((stM μ) 19)).2)) 21 (fun _ => 0)) 23 (fun _ => 1)) 24 (fun _ => 0)) 25 (fun _ => 0)) 26 (fun _ => 0)) 27 (fun _ => 0)) 28 (fun _ => (-1))) 30 (fun _ => cAh (stM μ) 0))) M w hA hl (k_HcountBars l D cI cZ cJ a (mset (mset (mset (mset μ 23 (fun _ => 1)) 24 (fun _ => 0)) 25 (fun _ => 0)) 26 (fun _ => 0)) hI) gX6_start_X4_countBars rfl ⟨rfl, rfl, by decide, by decide⟩ ⟨by decide, by decide⟩ 0 ⟨rfl, by decide +kernel⟩ rfl [false, false, false, false, false, false, false, false, false, false, false, false, false, false, false, false, true, false, false, false, false, false, false, false, false, false, false, true, true, false, false, false, false, false, false, false, false, true, true, true] rfl rfl 37 rfl rfl rfl (Nat.le_of_ble_eq_true rfl) rfl dX6_start_46 (fun H locs w => ?_)
    try have hI0 := hI.1
    exact kret _ _ _ _ _ _ _ (by decide) (by decide) dX6_start_49 w (by rw [chk_t (show μ 23 0 = 0 by omega), chk_t (show 0 < μ 22 0 ∧ ∀ i, 0 ≤ i → i < μ 22 0 → μ 13 (μ 18 i) ≠ 0 by exact hcb)]; rfl) rfl
  · have hcb : ¬ (0 < μ 22 0 ∧ ∀ i, 0 ≤ i → i < μ 22 0 → μ 13 (μ 18 i) ≠ 0) := fun q => by have q2 := b01_t q; omega
    exact kthr eISE "the set list is empty, or one of its songs has no bar" 118 159 122 14 _ _ _ _ _ _ _ (by decide +kernel) (by decide +kernel) (by decide +kernel) hT.2.2.2.2.2.2.2.1 (by decide +kernel) (by decide +kernel) hT.2.2.2.1.2.2 (by decide +kernel) hl w dX6_start_14 dX6_start_17 dX6_start_18 dX6_start_20 dX6_start_23 (by decide) (Nat.le_of_ble_eq_true rfl) (by decide) (by decide) (by rw [chk_t (show μ 23 0 = 0 by omega), chk_f (show ¬ (0 < μ 22 0 ∧ ∀ i, 0 ≤ i → i < μ 22 0 → μ 13 (μ 18 i) ≠ 0) by exact hcb)]; rfl)

set_option maxHeartbeats 4000000 in
set_option maxRecDepth 100000 in
/-- tick -/
theorem k_tick (l : Launch) (hfl : l.stackTraces = false) (D : va_G) (cI cZ cJ : ClassId) (a : Nat → Nat) (μ : Nat → Int → Int) (n : Int) (hn : -2147483648 ≤ n ∧ n < 2147483648) (I : (Nat → Int → Int) → Prop) (h0 : I μ) (hs : ∀ m, I m → (m 23 0 = 0 ∨ m 23 0 = 1) ∧ (m 23 0 = 1 → PT m ∧ I (psT m))) : Xi l D (tY cI cZ cJ) yX6_tick wsX6_tick rmX6_tick [.ref (a 0), .int (iI n)] (WAll cI a μ) (sq (chk (1 ≤ n ∧ n ≤ 2000) eIAE) (chk (μ 23 0 = 1) eISE)) (tkN μ n 31 0 - μ 31 0) (WAll cI a (tkN μ n)) := by
  have h23 := (hs μ h0).1
  refine xi_of hfl (by decide +kernel) rfl (Nat.le_of_ble_eq_true rfl) (Or.inl rfl) ?_
  intro zp ze zs zm zargs zbelow zmeth zc A Q ls M hA w hl hT kret kout kthr
  have hl : lv_has ls 4 [(0, .ref (a 0)), (1, .int (iI n))] := hl
  have in6 : ∀ w ∈ u_ws RX6 TX6 11, w ∈ wsX6_tick := by decide +kernel
  refine q_iln M dX6_tick_0 (lv_at hl 1 rfl) ?_
  refine q_ic M dX6_tick_1 ?_
  refine q_sp M dX6_tick_2 (by decide +kernel) ?_
  refine qx_vS (As := [.int (iI n), .int (iI 1), .int (iI 2000)]) (rest := []) (wc := []) (wc2 := []) (ws2 := WAll cI a μ) M w hA hT hl (k_needRange l hfl D cI cZ cJ n 1 2000 (by omega)) gX6_tick_X6_needRange rfl ⟨by decide, by decide⟩ ⟨by decide, by decide⟩ 3 (by decide +kernel) rfl [] rfl rfl rfl (Nat.le_of_ble_eq_true rfl) rfl dX6_tick_5 (fun E ce q9 H1 locs1 hE w h1 h2 h3 => ?_) (fun H locs x5 w => ?_)
  · obtain ⟨hq, rfl⟩ := chk_e hE
    exact kout _ _ _ _ _ _ _ _ _ _ (by decide) (by decide) w h1 h2 h3 (by rw [chk_f (show ¬ (1 ≤ n ∧ n ≤ 2000) by omega)]; rfl)
  have y5 := chk_n x5
  refine q_aln M dX6_tick_8 (lv_at hl 0 rfl) ?_
  refine qx_vV (As := []) (rest := []) (wc := WXH cI a μ) (wc2 := WXH cI a μ) (ws2 := WAll cI a μ) M w hA hT hl (k_needPlayed l hfl D cI cZ cJ a μ h23) gX6_tick_X6_needPlayed rfl ⟨by decide, by decide⟩ ⟨by decide, by decide⟩ 0 ⟨rfl, by decide +kernel⟩ rfl [true, false, false, false, false, false, false, false, false, false, false, false, false, false, false, false, false, false, false, false, false, false, false, false, false, false, false, false, false, false, false, false, false, false, false, false, false, true] rfl rfl 0 rfl rfl rfl (Nat.le_of_ble_eq_true rfl) rfl dX6_tick_9 (fun E ce q9 H1 locs1 hE w h1 h2 h3 => ?_) (fun H locs x9 w => ?_)
  · obtain ⟨hq, rfl⟩ := chk_e hE
    exact kout _ _ _ _ _ _ _ _ _ _ (by decide) (by decide) w h1 h2 h3 (by rw [chk_t (show 1 ≤ n ∧ n ≤ 2000 by omega), chk_f (show ¬ (μ 23 0 = 1) by omega)]; rfl)
  have y9 := chk_n x9
  refine q_aln M dX6_tick_12 (lv_at hl 0 rfl) ?_
  refine q_get (v := .int (iI (μ 31 0))) M w in6 0 8 rfl rfl (by decide) (by decide +kernel) rfl rfl dX6_tick_13 ?_
  refine q_isn (lv' := [(2, .int (iI (μ 31 0))), (0, .ref (a 0)), (1, .int (iI n))]) M dX6_tick_16 rfl hl (by decide) rfl (fun ls hl => ?_)
  refine q_ic M dX6_tick_17 ?_
  refine q_isn (lv' := [(3, .int (iI 0)), (2, .int (iI (μ 31 0))), (0, .ref (a 0)), (1, .int (iI n))]) M dX6_tick_18 rfl hl (by decide) rfl (fun ls hl => ?_)
  have lp19 : ∀ (n19 : Nat) (k : Int), (0 ≤ k ∧ k ≤ n) → (I (tkN μ k)) → (n - k : Int) < (n19 : Int) → ∀ (H : Heap) (locs : List Loc) (ls : Array Slot), wW D A zs.heap (WAll cI a (tkN μ k)) H locs → lv_has ls 4 [(0, .ref (a 0)), (1, .int (iI n)), (2, .int (iI (μ 31 0))), (3, .int (iI k))] → W zp l ze rmX6_tick zs zm zargs zbelow zmeth zc H locs ((0 + rmX6_needRange.cells) + rmX6_needPlayed.cells) ((0 + rmX6_needRange.slots) + rmX6_needPlayed.slots) Q (F0 zm 19 ls []) := by
    intro n19
    induction n19 with
    | zero => intro k hj hi hm H locs ls w hl; exfalso; omega
    | succ n19 ih19 =>
      intro k hj hi hm19 H locs ls w hl
      refine q_iln M dX6_tick_19 (lv_at hl 3 rfl) ?_
      refine q_iln M dX6_tick_20 (lv_at hl 1 rfl) ?_
      refine q_icmp_ge (tgt := 44) M dX6_tick_21 (by decide) (by omega) (fun c21 => ?_) (fun c21 => ?_)
      · refine q_aln M dX6_tick_44 (lv_at hl 0 rfl) ?_
        refine q_get (v := .int (iI ((tkN μ k) 31 0))) M w in6 0 8 rfl rfl (by decide) (by decide +kernel) rfl rfl dX6_tick_45 ?_
        refine q_iln M dX6_tick_48 (lv_at hl 2 rfl) ?_
        refine q_sub M dX6_tick_49 ?_
        have ez : tkN μ n = tkN μ k := by
          by_cases q : k = n
          · rw [q]
          · have c : tkN μ k 23 0 ≠ 1 := by omega
            exact itI_fix ⟨hj.1, hj.2⟩ rfl (fun _ => if_neg c)
        have w : wW D A zs.heap (WAll cI a (tkN μ n)) H locs := by rw [ez]; exact w
        exact kret _ _ _ _ _ _ _ (by decide) (by decide) dX6_tick_50 w (by rw [chk_t (show 1 ≤ n ∧ n ≤ 2000 by omega), chk_t (show μ 23 0 = 1 by omega)]; rfl) (by rw [ez])
      · refine q_aln M dX6_tick_24 (lv_at hl 0 rfl) ?_
        refine q_get (v := .ref (a 3)) M w in6 0 4 rfl rfl (by decide) (by decide +kernel) rfl rfl dX6_tick_25 ?_
        refine qc_iV (As := []) (rest := []) (wc := WH0 cI a (tkN μ k)) (wc2 := WH0 cI a (tkN μ k)) (ws2 := WAll cI a (tkN μ k)) M w hA hl (k_isPlayed l D cI cZ cJ a (tkN μ k) (hs _ hi).1) gX6_tick_X4_isPlayed rfl ⟨rfl, rfl, by decide, by decide⟩ ⟨by decide, by decide⟩ 0 ⟨rfl, by decide +kernel⟩ rfl [false, false, false, false, false, false, false, false, false, false, false, false, false, false, false, false, false, false, false, false, false, false, false, false, false, false, false, false, false, false, false, false, false, false, false, false, false, true] rfl rfl 37 rfl rfl rfl (Nat.le_of_ble_eq_true rfl) rfl dX6_tick_28 (fun H locs w => ?_)
        have q23 := (hs _ hi).1
        refine q_if_eq (tgt := 44) M dX6_tick_31 (by decide) (by omega) (fun c31 => ?_) (fun c31 => ?_)
        · refine q_aln M dX6_tick_44 (lv_at hl 0 rfl) ?_
          refine q_get (v := .int (iI ((tkN μ k) 31 0))) M w in6 0 8 rfl rfl (by decide) (by decide +kernel) rfl rfl dX6_tick_45 ?_
          refine q_iln M dX6_tick_48 (lv_at hl 2 rfl) ?_
          refine q_sub M dX6_tick_49 ?_
          have ez : tkN μ n = tkN μ k := by
            by_cases q : k = n
            · rw [q]
            · have c : tkN μ k 23 0 ≠ 1 := by omega
              exact itI_fix ⟨hj.1, hj.2⟩ rfl (fun _ => if_neg c)
          have w : wW D A zs.heap (WAll cI a (tkN μ n)) H locs := by rw [ez]; exact w
          exact kret _ _ _ _ _ _ _ (by decide) (by decide) dX6_tick_50 w (by rw [chk_t (show 1 ≤ n ∧ n ≤ 2000 by omega), chk_t (show μ 23 0 = 1 by omega)]; rfl) (by rw [ez])
        · have c31 : tkN μ k 23 0 = 1 := by omega
          refine q_aln M dX6_tick_34 (lv_at hl 0 rfl) ?_
          refine qc_vV (As := []) (rest := []) (wc := WAll cI a (tkN μ k)) (wc2 := WAll cI a (psT (tkN μ k))) (ws2 := WAll cI a (psT (tkN μ k))) M w hA hl (k_passTick l D cI cZ cJ a (tkN μ k) ((hs _ hi).2 c31).1) gX6_tick_X6_passTick rfl ⟨rfl, rfl, by decide, by decide⟩ ⟨by decide, by decide⟩ 0 ⟨rfl, by decide +kernel⟩ rfl [true, true, true, true, true, true, true, true, true, true, true, true, true, true, true, true, true, true, true, true, true, true, true, true, true, true, true, true, true, true, true, true, true, true, true, true, true, true, true, true, true, true, true, true, true, true, true, true, true, true] rfl rfl 0 rfl rfl rfl (Nat.le_of_ble_eq_true rfl) rfl dX6_tick_35 (fun H locs w => ?_)
          refine q_inc (z := k) (lv' := [(3, .int (iI (k + 1))), (0, .ref (a 0)), (1, .int (iI n)), (2, .int (iI (μ 31 0)))]) M dX6_tick_38 hl (k := 3) rfl (by decide) rfl (fun ls hl => ?_)
          refine q_go (tgt := 19) M dX6_tick_41 (by decide) ?_
          have es : tkN μ (k + 1) = psT (tkN μ k) := (itI_s _ _ hj.1).trans (if_pos c31)
          have w : wW D A zs.heap (WAll cI a (tkN μ (k + 1))) H locs := by rw [es]; exact w
          exact ih19 (k + 1) (by omega) (by rw [es]; exact ((hs _ hi).2 c31).2) (by omega) _ _ _ w (lv_sub hl [1, 2, 3, 0] rfl)
  have es0 : tkN μ 0 = μ := itI_0 _ _
  have w : wW D A zs.heap (WAll cI a (tkN μ 0)) H locs := by rw [es0]; exact w
  exact lp19 2001 0 (by omega) (by rw [es0]; exact h0) (by omega) _ _ _ w (lv_sub hl [2, 3, 1, 0] rfl)

set_option maxHeartbeats 4000000 in
set_option maxRecDepth 100000 in
/-- skip -/
theorem k_skip (l : Launch) (hfl : l.stackTraces = false) (D : va_G) (cI cZ cJ : ClassId) (a : Nat → Nat) (μ : Nat → Int → Int)(h23 : μ 23 0 = 0 ∨ μ 23 0 = 1) (hP : IP μ) (hI : IH μ) (hB : IB μ) (hb : μ 23 0 = 1 → 0 ≤ μ 24 0 ∧ μ 24 0 < μ 22 0) (hn : μ 23 0 = 1 → μ 24 0 + 1 < μ 22 0 → 0 ≤ cAh (skM μ) 0 ∧ cAh (skM μ) 0 < 120) : Xi l D (tY cI cZ cJ) yX6_skip wsX6_skip rmX6_skip [.ref (a 0)] (WAll cI a μ) (chk (μ 23 0 = 1) eISE) (if μ 24 0 + 1 < μ 22 0 then μ 24 0 + 1 else -1) (WAll cI a (skE μ)) := by
  refine xi_of hfl (by decide +kernel) rfl (Nat.le_of_ble_eq_true rfl) (Or.inl rfl) ?_
  intro zp ze zs zm zargs zbelow zmeth zc A Q ls M hA w hl hT kret kout kthr
  have hl : lv_has ls 1 [(0, .ref (a 0))] := hl
  have in6 : ∀ w ∈ u_ws RX6 TX6 11, w ∈ wsX6_skip := by decide +kernel
  refine q_aln M dX6_skip_0 (lv_at hl 0 rfl) ?_
  refine qx_vV (As := []) (rest := []) (wc := WXH cI a μ) (wc2 := WXH cI a μ) (ws2 := WAll cI a μ) M w hA hT hl (k_needPlayed l hfl D cI cZ cJ a μ h23) gX6_skip_X6_needPlayed rfl ⟨by decide, by decide⟩ ⟨by decide, by decide⟩ 0 ⟨rfl, by decide +kernel⟩ rfl [true, false, false, false, false, false, false, false, false, false, false, false, false, false, false, false, false, false, false, false, false, false, false, false, false, false, false, false, false, false, false, false, false, false, false, false, false, true] rfl rfl 0 rfl rfl rfl (Nat.le_of_ble_eq_true rfl) rfl dX6_skip_1 (fun E ce q9 H1 locs1 hE w h1 h2 h3 => ?_) (fun H locs x1 w => ?_)
  · obtain ⟨hq, rfl⟩ := chk_e hE
    exact kout _ _ _ _ _ _ _ _ _ _ (by decide) (by decide) w h1 h2 h3 (by rw [chk_f (show ¬ (μ 23 0 = 1) by omega)])
  have y1 := chk_n x1
  have q24 := hb (by omega)
  have q22 := hI.1
  refine q_aln M dX6_skip_4 (lv_at hl 0 rfl) ?_
  refine q_get (v := .ref (a 3)) M w in6 0 4 rfl rfl (by decide) (by decide +kernel) rfl rfl dX6_skip_5 ?_
  refine qc_vV (As := []) (rest := []) (wc := WH0 cI a μ) (wc2 := WH0 cI a (mset (mset (mset (mset μ 23 (fun _ => (if μ 24 0 + 1 < μ 22 0 then 1 else 0))) 24 (fun _ => μ 24 0 + 1)) 25 (fun _ => 0)) 26 (fun _ => 0))) (ws2 := WAll cI a (mset (mset (mset (mset μ 23 (fun _ => (if μ 24 0 + 1 < μ 22 0 then 1 else 0))) 24 (fun _ => μ 24 0 + 1)) 25 (fun _ => 0)) 26 (fun _ => 0))) M w hA hl (k_goToNextSong l D cI cZ cJ a μ (by omega)) gX6_skip_X4_goToNextSong rfl ⟨rfl, rfl, by decide, by decide⟩ ⟨by decide, by decide⟩ 0 ⟨rfl, by decide +kernel⟩ rfl [false, false, false, false, false, false, false, false, false, false, false, false, false, false, false, false, false, false, false, false, false, false, false, false, false, false, false, false, false, false, false, false, false, false, false, false, false, true] rfl rfl 37 rfl rfl rfl (Nat.le_of_ble_eq_true rfl) rfl dX6_skip_8 (fun H locs w => ?_)
  refine q_aln M dX6_skip_11 (lv_at hl 0 rfl) ?_
  refine q_get (v := .ref (a 3)) M w in6 0 4 rfl rfl (by decide) (by decide +kernel) rfl rfl dX6_skip_12 ?_
  refine qc_iV (As := []) (rest := []) (wc := WH0 cI a (mset (mset (mset (mset μ 23 (fun _ => (if μ 24 0 + 1 < μ 22 0 then 1 else 0))) 24 (fun _ => μ 24 0 + 1)) 25 (fun _ => 0)) 26 (fun _ => 0))) (wc2 := WH0 cI a (mset (mset (mset (mset μ 23 (fun _ => (if μ 24 0 + 1 < μ 22 0 then 1 else 0))) 24 (fun _ => μ 24 0 + 1)) 25 (fun _ => 0)) 26 (fun _ => 0))) (ws2 := WAll cI a (mset (mset (mset (mset μ 23 (fun _ => (if μ 24 0 + 1 < μ 22 0 then 1 else 0))) 24 (fun _ => μ 24 0 + 1)) 25 (fun _ => 0)) 26 (fun _ => 0))) M w hA hl (k_isPlayed l D cI cZ cJ a (mset (mset (mset (mset μ 23 (fun _ => (if μ 24 0 + 1 < μ 22 0 then 1 else 0))) 24 (fun _ => μ 24 0 + 1)) 25 (fun _ => 0)) 26 (fun _ => 0)) (by show (if μ 24 0 + 1 < μ 22 0 then (1 : Int) else 0) = 0 ∨ (if μ 24 0 + 1 < μ 22 0 then (1 : Int) else 0) = 1; split <;> omega)) gX6_skip_X4_isPlayed rfl ⟨rfl, rfl, by decide, by decide⟩ ⟨by decide, by decide⟩ 0 ⟨rfl, by decide +kernel⟩ rfl [false, false, false, false, false, false, false, false, false, false, false, false, false, false, false, false, false, false, false, false, false, false, false, false, false, false, false, false, false, false, false, false, false, false, false, false, false, true] rfl rfl 37 rfl rfl rfl (Nat.le_of_ble_eq_true rfl) rfl dX6_skip_15 (fun H locs w => ?_)
  refine q_top (y := (if μ 24 0 + 1 < μ 22 0 then (1 : Int) else 0)) (by rfl) ?_
  have q5 : (if μ 24 0 + 1 < μ 22 0 then (1 : Int) else 0) = 1 ∧ μ 24 0 + 1 < μ 22 0 ∨ (if μ 24 0 + 1 < μ 22 0 then (1 : Int) else 0) = 0 ∧ ¬ μ 24 0 + 1 < μ 22 0 := by split <;> omega
  refine q_if_ne (tgt := 23) M dX6_skip_18 (by decide) (by omega) (fun c18 => ?_) (fun c18 => ?_)
  · refine q_aln M dX6_skip_23 (lv_at hl 0 rfl) ?_
    refine qc_vV (As := []) (rest := []) (wc := WEnt cI a (skM μ) ((skM μ) 19) ((skM μ) 20) (fun _ => (skM μ) 30 0)) (wc2 := WEnt cI a (skM μ) ((enX (skM μ) ((skM μ) 19)).1) ((enX (skM μ) ((skM μ) 19)).2) (fun _ => cAh (skM μ) 0)) (ws2 := WAll cI a (mset (mset (mset (mset (mset (mset (mset μ 19 ((enX (skM μ) ((skM μ) 19)).1)) 20 ((enX (skM μ) ((skM μ) 19)).2)) 23 (fun _ => (if μ 24 0 + 1 < μ 22 0 then 1 else 0))) 24 (fun _ => μ 24 0 + 1)) 25 (fun _ => 0)) 26 (fun _ => 0)) 30 (fun _ => cAh (skM μ) 0))) M w hA hl (k_enterBar l D cI cZ cJ a (skM μ) ((skM μ) 19) ((skM μ) 20) ((skM μ) 30 0) (show IP (skM μ) from hP) (show IH (skM μ) from hI) (show IB (skM μ) from hB) ⟨⟨by show 0 ≤ μ 24 0 + 1; omega, by show μ 24 0 + 1 ≤ μ 22 0; omega⟩, (⟨Int.le_refl 0, by decide⟩ : (0 : Int) ≤ 0 ∧ (0 : Int) < 64)⟩ (hn (by omega) (by omega))) gX6_skip_X6_enterBar rfl ⟨rfl, rfl, by decide, by decide⟩ ⟨by decide, by decide⟩ 0 ⟨rfl, by decide +kernel⟩ rfl [true, true, true, true, true, true, true, true, true, true, true, true, true, true, true, true, true, true, true, true, true, true, true, true, true, true, true, true, true, true, true, true, true, true, true, true, true, true, true, true, true, true, true, true, true] rfl rfl 0 rfl rfl rfl (Nat.le_of_ble_eq_true rfl) rfl dX6_skip_24 (fun H locs w => ?_)
    refine q_aln M dX6_skip_27 (lv_at hl 0 rfl) ?_
    refine q_get (v := .ref (a 3)) M w in6 0 4 rfl rfl (by decide) (by decide +kernel) rfl rfl dX6_skip_28 ?_
    refine qc_iV (As := []) (rest := []) (wc := WH0 cI a (mset (mset (mset (mset μ 23 (fun _ => (if μ 24 0 + 1 < μ 22 0 then 1 else 0))) 24 (fun _ => μ 24 0 + 1)) 25 (fun _ => 0)) 26 (fun _ => 0))) (wc2 := WH0 cI a (mset (mset (mset (mset μ 23 (fun _ => (if μ 24 0 + 1 < μ 22 0 then 1 else 0))) 24 (fun _ => μ 24 0 + 1)) 25 (fun _ => 0)) 26 (fun _ => 0))) (ws2 := WAll cI a (mset (mset (mset (mset (mset (mset (mset μ 19 ((enX (skM μ) ((skM μ) 19)).1)) 20 ((enX (skM μ) ((skM μ) 19)).2)) 23 (fun _ => (if μ 24 0 + 1 < μ 22 0 then 1 else 0))) 24 (fun _ => μ 24 0 + 1)) 25 (fun _ => 0)) 26 (fun _ => 0)) 30 (fun _ => cAh (skM μ) 0))) M w hA hl (k_duePlace l D cI cZ cJ a (mset (mset (mset (mset μ 23 (fun _ => (if μ 24 0 + 1 < μ 22 0 then 1 else 0))) 24 (fun _ => μ 24 0 + 1)) 25 (fun _ => 0)) 26 (fun _ => 0)) ) gX6_skip_X4_duePlace rfl ⟨rfl, rfl, by decide, by decide⟩ ⟨by decide, by decide⟩ 0 ⟨rfl, by decide +kernel⟩ rfl [false, false, false, false, false, false, false, false, false, false, false, false, false, false, false, false, false, false, false, false, false, false, false, false, false, false, false, false, false, false, false, false, false, false, false, false, false, true] rfl rfl 37 rfl rfl rfl (Nat.le_of_ble_eq_true rfl) rfl dX6_skip_31 (fun H locs w => ?_)
    refine q_top (y := μ 24 0 + 1) (by rfl) ?_
    have es : skE μ = enM (skM μ) := if_pos (by omega)
    have w : wW D A zs.heap (WAll cI a (skE μ)) H locs := by rw [es]; exact w
    exact kret _ _ _ _ _ _ _ (by decide) (by decide) dX6_skip_34 w (by rw [chk_t (show μ 23 0 = 1 by omega)]) (by exact (if_pos (by omega)).symm)
  · refine q_ic M dX6_skip_21 ?_
    have es : skE μ = skM μ := if_neg (by omega)
    have w : wW D A zs.heap (WAll cI a (skE μ)) H locs := by rw [es]; exact w
    exact kret _ _ _ _ _ _ _ (by decide) (by decide) dX6_skip_22 w (by rw [chk_t (show μ 23 0 = 1 by omega)]) (by exact (if_neg (by omega)).symm)

set_option maxHeartbeats 4000000 in
set_option maxRecDepth 100000 in
/-- place -/
theorem k_place (l : Launch) (D : va_G) (cI cZ cJ : ClassId) (a : Nat → Nat) (μ : Nat → Int → Int) (h23 : μ 23 0 = 0 ∨ μ 23 0 = 1) : Ci l D (tY cI cZ cJ) yX6_place wsX6_place rmX6_place [.ref (a 0)] (WAll cI a μ) (if μ 23 0 = 1 then 100000 * μ 24 0 + 1000 * μ 25 0 + μ 26 0 else -1) (WAll cI a μ) := by
  refine qi_of (by decide +kernel) rfl (Nat.le_of_ble_eq_true rfl) ?_
  intro zp ze zs zm zargs zbelow zmeth zc A Q ls M hA w hl kret
  have hl : lv_has ls 1 [(0, .ref (a 0))] := hl
  have in6 : ∀ w ∈ u_ws RX6 TX6 11, w ∈ wsX6_place := by decide +kernel
  refine q_aln M dX6_place_0 (lv_at hl 0 rfl) ?_
  refine q_get (v := .ref (a 3)) M w in6 0 4 rfl rfl (by decide) (by decide +kernel) rfl rfl dX6_place_1 ?_
  refine qc_iV (As := []) (rest := []) (wc := WH0 cI a μ) (wc2 := WH0 cI a μ) (ws2 := WAll cI a μ) M w hA hl (k_isPlayed l D cI cZ cJ a μ h23) gX6_place_X4_isPlayed rfl ⟨rfl, rfl, by decide, by decide⟩ ⟨Nat.zero_le _, Nat.zero_le _⟩ 0 ⟨rfl, by decide +kernel⟩ rfl [false, false, false, false, false, false, false, false, false, false, false, false, false, false, false, false, false, false, false, false, false, false, false, false, false, false, false, false, false, false, false, false, false, false, false, false, false, true] rfl rfl 37 rfl rfl rfl (Nat.le_of_ble_eq_true rfl) rfl dX6_place_4 (fun H locs w => ?_)
  refine q_if_eq (tgt := 20) M dX6_place_7 (by decide) (by omega) (fun c7 => ?_) (fun c7 => ?_)
  · refine q_ic M dX6_place_20 ?_
    exact kret _ _ _ _ _ dX6_place_21 w (by rw [if_neg (by omega)])
  · refine q_aln M dX6_place_10 (lv_at hl 0 rfl) ?_
    refine q_get (v := .ref (a 3)) M w in6 0 4 rfl rfl (by decide) (by decide +kernel) rfl rfl dX6_place_11 ?_
    refine qc_iV (As := []) (rest := []) (wc := WH0 cI a μ) (wc2 := WH0 cI a μ) (ws2 := WAll cI a μ) M w hA hl (k_dueNumber l D cI cZ cJ a μ ) gX6_place_X4_dueNumber rfl ⟨rfl, rfl, by decide, by decide⟩ ⟨Nat.zero_le _, Nat.zero_le _⟩ 0 ⟨rfl, by decide +kernel⟩ rfl [false, false, false, false, false, false, false, false, false, false, false, false, false, false, false, false, false, false, false, false, false, false, false, false, false, false, false, false, false, false, false, false, false, false, false, false, false, true] rfl rfl 37 rfl rfl rfl (Nat.le_of_ble_eq_true rfl) rfl dX6_place_14 (fun H locs w => ?_)
    refine q_go (tgt := 21) M dX6_place_17 (by decide) ?_
    exact kret _ _ _ _ _ dX6_place_21 w (by rw [if_pos (by omega)])

set_option maxHeartbeats 4000000 in
set_option maxRecDepth 100000 in
/-- loaded -/
theorem k_loaded (l : Launch) (hfl : l.stackTraces = false) (D : va_G) (cI cZ cJ : ClassId) (a : Nat → Nat) (μ : Nat → Int → Int) (s : Int) (hs : -2147483648 ≤ s ∧ s < 2147483648) : Xi l D (tY cI cZ cJ) yX6_loaded wsX6_loaded rmX6_loaded [.ref (a 0), .int (iI s)] (WAll cI a μ) (chk (0 ≤ s ∧ s ≤ 7) eIOB) (μ 21 s) (WAll cI a μ) := by
  refine xi_of hfl (by decide +kernel) rfl (Nat.le_of_ble_eq_true rfl) (Or.inl rfl) ?_
  intro zp ze zs zm zargs zbelow zmeth zc A Q ls M hA w hl hT kret kout kthr
  have hl : lv_has ls 2 [(0, .ref (a 0)), (1, .int (iI s))] := hl
  have in6 : ∀ w ∈ u_ws RX6 TX6 11, w ∈ wsX6_loaded := by decide +kernel
  refine q_iln M dX6_loaded_0 (lv_at hl 1 rfl) ?_
  refine qx_vS (As := [.int (iI s)]) (rest := []) (wc := []) (wc2 := []) (ws2 := WAll cI a μ) M w hA hT hl (k_needSample l hfl D cI cZ cJ s (by omega)) gX6_loaded_X6_needSample rfl ⟨by decide, by decide⟩ ⟨by decide, by decide⟩ 1 (by decide +kernel) rfl [] rfl rfl rfl (Nat.le_of_ble_eq_true rfl) rfl dX6_loaded_1 (fun E ce q9 H1 locs1 hE w h1 h2 h3 => ?_) (fun H locs x1 w => ?_)
  · obtain ⟨hq, rfl⟩ := chk_e hE
    exact kout _ _ _ _ _ _ _ _ _ _ (by decide) (by decide) w h1 h2 h3 (by rw [chk_f (show ¬ (0 ≤ s ∧ s ≤ 7) by omega)])
  have y1 := chk_n x1
  refine q_aln M dX6_loaded_4 (lv_at hl 0 rfl) ?_
  refine q_get (v := .ref (a 5)) M w in6 0 6 rfl rfl (by decide) (by decide +kernel) rfl rfl dX6_loaded_5 ?_
  refine q_iln M dX6_loaded_8 (lv_at hl 1 rfl) ?_
  refine qc_iV (As := [.int (iI s)]) (rest := []) (wc := WMy cI a μ (μ 21) (fun _ => μ 27 0) (fun _ => μ 28 0) (fun _ => μ 29 0)) (wc2 := WMy cI a μ (μ 21) (fun _ => μ 27 0) (fun _ => μ 28 0) (fun _ => μ 29 0)) (ws2 := WAll cI a μ) M w hA hl (k_countPages l D cI cZ cJ a μ (μ 21) (μ 27 0) (μ 28 0) (μ 29 0) s (by omega)) gX6_loaded_X1_countPages rfl ⟨rfl, rfl, by decide, by decide⟩ ⟨by decide, by decide⟩ 1 ⟨rfl, by decide +kernel⟩ rfl [false, false, false, false, false, false, false, false, false, false, false, false, false, false, false, false, false, false, false, false, false, false, false, false, false, false, false, false, false, false, false, false, false, false, false, false, false, false, false, false, false, false, false, false, false, true, true, true, true, true] rfl rfl 45 rfl rfl rfl (Nat.le_of_ble_eq_true rfl) rfl dX6_loaded_9 (fun H locs w => ?_)
  exact kret _ _ _ _ _ _ _ (by decide) (by decide) dX6_loaded_12 w (by rw [chk_t (show 0 ≤ s ∧ s ≤ 7 by omega)]) rfl

set_option maxHeartbeats 4000000 in
set_option maxRecDepth 100000 in
/-- inHand -/
theorem k_inHand (l : Launch) (D : va_G) (cI cZ cJ : ClassId) (a : Nat → Nat) (μ : Nat → Int → Int) (hc : -1 ≤ μ 28 0 ∧ μ 28 0 < 8) : Ci l D (tY cI cZ cJ) yX6_inHand wsX6_inHand rmX6_inHand [.ref (a 0)] (WAll cI a μ) (if μ 28 0 = -1 then -1 else 10 * μ 28 0 + μ 29 0) (WAll cI a μ) := by
  refine qi_of (by decide +kernel) rfl (Nat.le_of_ble_eq_true rfl) ?_
  intro zp ze zs zm zargs zbelow zmeth zc A Q ls M hA w hl kret
  have hl : lv_has ls 1 [(0, .ref (a 0))] := hl
  have in6 : ∀ w ∈ u_ws RX6 TX6 11, w ∈ wsX6_inHand := by decide +kernel
  refine q_aln M dX6_inHand_0 (lv_at hl 0 rfl) ?_
  refine q_get (v := .ref (a 5)) M w in6 0 6 rfl rfl (by decide) (by decide +kernel) rfl rfl dX6_inHand_1 ?_
  refine qc_iV (As := []) (rest := []) (wc := WMy cI a μ (μ 21) (fun _ => μ 27 0) (fun _ => μ 28 0) (fun _ => μ 29 0)) (wc2 := WMy cI a μ (μ 21) (fun _ => μ 27 0) (fun _ => μ 28 0) (fun _ => μ 29 0)) (ws2 := WAll cI a μ) M w hA hl (k_handNumber l D cI cZ cJ a μ (μ 21) (μ 27 0) (μ 28 0) (μ 29 0)  hc) gX6_inHand_X1_handNumber rfl ⟨rfl, rfl, by decide, by decide⟩ ⟨Nat.zero_le _, Nat.zero_le _⟩ 0 ⟨rfl, by decide +kernel⟩ rfl [false, false, false, false, false, false, false, false, false, false, false, false, false, false, false, false, false, false, false, false, false, false, false, false, false, false, false, false, false, false, false, false, false, false, false, false, false, false, false, false, false, false, false, false, false, true, true, true, true, true] rfl rfl 45 rfl rfl rfl (Nat.le_of_ble_eq_true rfl) rfl dX6_inHand_4 (fun H locs w => ?_)
  exact kret _ _ _ _ _ dX6_inHand_7 w rfl

set_option maxHeartbeats 4000000 in
set_option maxRecDepth 100000 in
/-- nextUse -/
theorem k_nextUse (l : Launch) (hfl : l.stackTraces = false) (D : va_G) (cI cZ cJ : ClassId) (a : Nat → Nat) (μ : Nat → Int → Int) (s : Int) (hs : -2147483648 ≤ s ∧ s < 2147483648) (h23 : μ 23 0 = 0 ∨ μ 23 0 = 1) (h26 : 0 ≤ μ 26 0 ∧ μ 26 0 < 192) (hu : ∀ i, -200 ≤ μ 19 i ∧ μ 19 i ≤ 768) : Xi l D (tY cI cZ cJ) yX6_nextUse wsX6_nextUse rmX6_nextUse [.ref (a 0), .int (iI s)] (WAll cI a μ) (chk (0 ≤ s ∧ s ≤ 7) eIOB) (if μ 23 0 = 1 ∧ μ 19 (μ 26 0 * 8 + s) ≠ 768 then μ 19 (μ 26 0 * 8 + s) else -1) (WAll cI a μ) := by
  refine xi_of hfl (by decide +kernel) rfl (Nat.le_of_ble_eq_true rfl) (Or.inl rfl) ?_
  intro zp ze zs zm zargs zbelow zmeth zc A Q ls M hA w hl hT kret kout kthr
  have hl : lv_has ls 3 [(0, .ref (a 0)), (1, .int (iI s))] := hl
  have in6 : ∀ w ∈ u_ws RX6 TX6 11, w ∈ wsX6_nextUse := by decide +kernel
  refine q_iln M dX6_nextUse_0 (lv_at hl 1 rfl) ?_
  refine qx_vS (As := [.int (iI s)]) (rest := []) (wc := []) (wc2 := []) (ws2 := WAll cI a μ) M w hA hT hl (k_needSample l hfl D cI cZ cJ s (by omega)) gX6_nextUse_X6_needSample rfl ⟨by decide, by decide⟩ ⟨by decide, by decide⟩ 1 (by decide +kernel) rfl [] rfl rfl rfl (Nat.le_of_ble_eq_true rfl) rfl dX6_nextUse_1 (fun E ce q9 H1 locs1 hE w h1 h2 h3 => ?_) (fun H locs x1 w => ?_)
  · obtain ⟨hq, rfl⟩ := chk_e hE
    exact kout _ _ _ _ _ _ _ _ _ _ (by decide) (by decide) w h1 h2 h3 (by rw [chk_f (show ¬ (0 ≤ s ∧ s ≤ 7) by omega)])
  have y1 := chk_n x1
  refine q_aln M dX6_nextUse_4 (lv_at hl 0 rfl) ?_
  refine q_get (v := .ref (a 3)) M w in6 0 4 rfl rfl (by decide) (by decide +kernel) rfl rfl dX6_nextUse_5 ?_
  refine qc_iV (As := []) (rest := []) (wc := WH0 cI a μ) (wc2 := WH0 cI a μ) (ws2 := WAll cI a μ) M w hA hl (k_isPlayed l D cI cZ cJ a μ h23) gX6_nextUse_X4_isPlayed rfl ⟨rfl, rfl, by decide, by decide⟩ ⟨by decide, by decide⟩ 0 ⟨rfl, by decide +kernel⟩ rfl [false, false, false, false, false, false, false, false, false, false, false, false, false, false, false, false, false, false, false, false, false, false, false, false, false, false, false, false, false, false, false, false, false, false, false, false, false, true] rfl rfl 37 rfl rfl rfl (Nat.le_of_ble_eq_true rfl) rfl dX6_nextUse_8 (fun H locs w => ?_)
  refine q_if_ne (tgt := 16) M dX6_nextUse_11 (by decide) (by omega) (fun c11 => ?_) (fun c11 => ?_)
  · refine q_aln M dX6_nextUse_16 (lv_at hl 0 rfl) ?_
    refine q_get (v := .ref (a 4)) M w in6 0 5 rfl rfl (by decide) (by decide +kernel) rfl rfl dX6_nextUse_17 ?_
    refine q_aln M dX6_nextUse_20 (lv_at hl 0 rfl) ?_
    refine q_get (v := .ref (a 3)) M w in6 0 4 rfl rfl (by decide) (by decide +kernel) rfl rfl dX6_nextUse_21 ?_
    refine qc_iV (As := []) (rest := [.ref (a 4)]) (wc := WH0 cI a μ) (wc2 := WH0 cI a μ) (ws2 := WAll cI a μ) M w hA hl (k_dueTick l D cI cZ cJ a μ ) gX6_nextUse_X4_dueTick rfl ⟨rfl, rfl, by decide, by decide⟩ ⟨by decide, by decide⟩ 0 ⟨rfl, by decide +kernel⟩ rfl [false, false, false, false, false, false, false, false, false, false, false, false, false, false, false, false, false, false, false, false, false, false, false, false, false, false, false, false, false, false, false, false, false, false, false, false, false, true] rfl rfl 37 rfl rfl rfl (Nat.le_of_ble_eq_true rfl) rfl dX6_nextUse_24 (fun H locs w => ?_)
    refine q_iln M dX6_nextUse_27 (lv_at hl 1 rfl) ?_
    refine qc_iV (As := [.int (iI (μ 26 0)), .int (iI s)]) (rest := []) (wc := WLk0 cI a μ (μ 19) (μ 20)) (wc2 := WLk0 cI a μ (μ 19) (μ 20)) (ws2 := WAll cI a μ) M w hA hl (k_useAfter l D cI cZ cJ a μ (μ 19) (μ 20) (μ 26 0) s (by omega)) gX6_nextUse_X0_useAfter rfl ⟨rfl, rfl, by decide, by decide⟩ ⟨by decide, by decide⟩ 2 ⟨rfl, by decide +kernel⟩ rfl [false, false, false, false, false, false, false, false, false, false, false, false, false, false, false, false, false, false, false, false, false, false, false, false, false, false, false, false, false, false, false, false, false, false, false, false, false, false, false, false, true, true, true, true, true] rfl rfl 40 rfl rfl rfl (Nat.le_of_ble_eq_true rfl) rfl dX6_nextUse_28 (fun H locs w => ?_)
    refine q_isn (lv' := [(2, .int (iI ((μ 19) ((μ 26 0) * 8 + s)))), (0, .ref (a 0)), (1, .int (iI s))]) M dX6_nextUse_31 rfl hl (by decide) rfl (fun ls hl => ?_)
    refine q_iln M dX6_nextUse_32 (lv_at hl 0 rfl) ?_
    refine q_sp M dX6_nextUse_33 (by decide +kernel) ?_
    have q7 := hu (μ 26 0 * 8 + s)
    refine q_icmp_ne (tgt := 43) M dX6_nextUse_36 (by decide) (by omega) (fun c36 => ?_) (fun c36 => ?_)
    · refine q_iln M dX6_nextUse_43 (lv_at hl 0 rfl) ?_
      exact kret _ _ _ _ _ _ _ (by decide) (by decide) dX6_nextUse_44 w (by rw [chk_t (show 0 ≤ s ∧ s ≤ 7 by omega)]) (by rw [if_pos (by omega)])
    · refine q_ic M dX6_nextUse_39 ?_
      refine q_go (tgt := 44) M dX6_nextUse_40 (by decide) ?_
      exact kret _ _ _ _ _ _ _ (by decide) (by decide) dX6_nextUse_44 w (by rw [chk_t (show 0 ≤ s ∧ s ≤ 7 by omega)]) (by rw [if_neg (by omega)])
  · refine q_ic M dX6_nextUse_14 ?_
    exact kret _ _ _ _ _ _ _ (by decide) (by decide) dX6_nextUse_15 w (by rw [chk_t (show 0 ≤ s ∧ s ≤ 7 by omega)]) (by rw [if_neg (by omega)])

set_option maxHeartbeats 4000000 in
set_option maxRecDepth 100000 in
/-- sounds -/
theorem k_sounds (l : Launch) (D : va_G) (cI cZ cJ : ClassId) (a : Nat → Nat) (μ : Nat → Int → Int) : Ci l D (tY cI cZ cJ) yX6_sounds wsX6_sounds rmX6_sounds [.ref (a 0)] (WAll cI a μ) (μ 31 0) (WAll cI a μ) := by
  refine qi_of (by decide +kernel) rfl (Nat.le_of_ble_eq_true rfl) ?_
  intro zp ze zs zm zargs zbelow zmeth zc A Q ls M hA w hl kret
  have hl : lv_has ls 1 [(0, .ref (a 0))] := hl
  have in6 : ∀ w ∈ u_ws RX6 TX6 11, w ∈ wsX6_sounds := by decide +kernel
  refine q_aln M dX6_sounds_0 (lv_at hl 0 rfl) ?_
  refine q_get (v := .int (iI (μ 31 0))) M w in6 0 8 rfl rfl (by decide) (by decide +kernel) rfl rfl dX6_sounds_1 ?_
  exact kret _ _ _ _ _ dX6_sounds_4 w rfl

set_option maxHeartbeats 4000000 in
set_option maxRecDepth 100000 in
/-- misses -/
theorem k_misses (l : Launch) (D : va_G) (cI cZ cJ : ClassId) (a : Nat → Nat) (μ : Nat → Int → Int) : Ci l D (tY cI cZ cJ) yX6_misses wsX6_misses rmX6_misses [.ref (a 0)] (WAll cI a μ) (μ 32 0) (WAll cI a μ) := by
  refine qi_of (by decide +kernel) rfl (Nat.le_of_ble_eq_true rfl) ?_
  intro zp ze zs zm zargs zbelow zmeth zc A Q ls M hA w hl kret
  have hl : lv_has ls 1 [(0, .ref (a 0))] := hl
  have in6 : ∀ w ∈ u_ws RX6 TX6 11, w ∈ wsX6_misses := by decide +kernel
  refine q_aln M dX6_misses_0 (lv_at hl 0 rfl) ?_
  refine q_get (v := .int (iI (μ 32 0))) M w in6 0 9 rfl rfl (by decide) (by decide +kernel) rfl rfl dX6_misses_1 ?_
  exact kret _ _ _ _ _ dX6_misses_4 w rfl

set_option maxHeartbeats 4000000 in
set_option maxRecDepth 100000 in
/-- soundNumber -/
theorem k_soundNumber (l : Launch) (D : va_G) (cI cZ cJ : ClassId) (a : Nat → Nat) (μ : Nat → Int → Int) : Ci l D (tY cI cZ cJ) yX6_soundNumber wsX6_soundNumber rmX6_soundNumber [.ref (a 0)] (WAll cI a μ) (μ 33 0) (WAll cI a μ) := by
  refine qi_of (by decide +kernel) rfl (Nat.le_of_ble_eq_true rfl) ?_
  intro zp ze zs zm zargs zbelow zmeth zc A Q ls M hA w hl kret
  have hl : lv_has ls 1 [(0, .ref (a 0))] := hl
  have in6 : ∀ w ∈ u_ws RX6 TX6 11, w ∈ wsX6_soundNumber := by decide +kernel
  refine q_aln M dX6_soundNumber_0 (lv_at hl 0 rfl) ?_
  refine q_get (v := .int (iI (μ 33 0))) M w in6 0 10 rfl rfl (by decide) (by decide +kernel) rfl rfl dX6_soundNumber_1 ?_
  exact kret _ _ _ _ _ dX6_soundNumber_4 w rfl
