set_option maxHeartbeats 4000000 in
set_option maxRecDepth 100000 in
/-- needIndex -/
theorem k_needIndex (l : Launch) (hfl : l.stackTraces = false) (D : va_G) (cI cZ cJ : ClassId) (i lo hh : Int) (hi : (-2147483648 ≤ i ∧ i < 2147483648) ∧ (-2147483648 ≤ lo ∧ lo < 2147483648) ∧ -2147483648 ≤ hh ∧ hh < 2147483648) : Xv l D (tY cI cZ cJ) yX6_needIndex wsX6_needIndex rmX6_needIndex [.int (iI i), .int (iI lo), .int (iI hh)] ([]) (chk (lo ≤ i ∧ i ≤ hh) eIOB) ([]) := by
  refine xv_of hfl (by decide +kernel) rfl (Nat.le_of_ble_eq_true rfl) ?_
  intro zp ze zs zm zargs zbelow zmeth zc A Q ls M hA w hl hT kret kout kthr
  have hl : lv_has ls 3 [(0, .int (iI i)), (1, .int (iI lo)), (2, .int (iI hh))] := hl
  refine q_iln M dX6_needIndex_0 (lv_at hl 0 rfl) ?_
  refine q_iln M dX6_needIndex_1 (lv_at hl 1 rfl) ?_
  refine q_icmp_lt (tgt := 10) M dX6_needIndex_2 (by decide) (by omega) (fun c2 => ?_) (fun c2 => ?_)
  · exact kthr eIOB "there is none of this number" 240 242 244 10 _ _ _ _ _ _ _ (by decide +kernel) (by decide +kernel) (by decide +kernel) hT.2.2.2.2.2.2.2.2.1 (by decide +kernel) (by decide +kernel) hT.2.2.2.1.1 (by decide +kernel) hl w dX6_needIndex_10 dX6_needIndex_13 dX6_needIndex_14 dX6_needIndex_16 dX6_needIndex_19 (by decide) (Nat.le_of_ble_eq_true rfl) (by decide) (by decide) (by rw [chk_f (show ¬ (lo ≤ i ∧ i ≤ hh) by omega)])
  · refine q_iln M dX6_needIndex_5 (lv_at hl 0 rfl) ?_
    refine q_iln M dX6_needIndex_6 (lv_at hl 2 rfl) ?_
    refine q_icmp_le (tgt := 20) M dX6_needIndex_7 (by decide) (by omega) (fun c7 => ?_) (fun c7 => ?_)
    · exact kret _ _ _ _ _ _ (by decide) (by decide) dX6_needIndex_20 w (by rw [chk_t (show lo ≤ i ∧ i ≤ hh by omega)])
    · exact kthr eIOB "there is none of this number" 240 242 244 10 _ _ _ _ _ _ _ (by decide +kernel) (by decide +kernel) (by decide +kernel) hT.2.2.2.2.2.2.2.2.1 (by decide +kernel) (by decide +kernel) hT.2.2.2.1.1 (by decide +kernel) hl w dX6_needIndex_10 dX6_needIndex_13 dX6_needIndex_14 dX6_needIndex_16 dX6_needIndex_19 (by decide) (Nat.le_of_ble_eq_true rfl) (by decide) (by decide) (by rw [chk_f (show ¬ (lo ≤ i ∧ i ≤ hh) by omega)])

set_option maxHeartbeats 4000000 in
set_option maxRecDepth 100000 in
/-- needRange -/
theorem k_needRange (l : Launch) (hfl : l.stackTraces = false) (D : va_G) (cI cZ cJ : ClassId) (i lo hh : Int) (hi : (-2147483648 ≤ i ∧ i < 2147483648) ∧ (-2147483648 ≤ lo ∧ lo < 2147483648) ∧ -2147483648 ≤ hh ∧ hh < 2147483648) : Xv l D (tY cI cZ cJ) yX6_needRange wsX6_needRange rmX6_needRange [.int (iI i), .int (iI lo), .int (iI hh)] ([]) (chk (lo ≤ i ∧ i ≤ hh) eIAE) ([]) := by
  refine xv_of hfl (by decide +kernel) rfl (Nat.le_of_ble_eq_true rfl) ?_
  intro zp ze zs zm zargs zbelow zmeth zc A Q ls M hA w hl hT kret kout kthr
  have hl : lv_has ls 3 [(0, .int (iI i)), (1, .int (iI lo)), (2, .int (iI hh))] := hl
  refine q_iln M dX6_needRange_0 (lv_at hl 0 rfl) ?_
  refine q_iln M dX6_needRange_1 (lv_at hl 1 rfl) ?_
  refine q_icmp_lt (tgt := 10) M dX6_needRange_2 (by decide) (by omega) (fun c2 => ?_) (fun c2 => ?_)
  · exact kthr eIAE "an argument is out of its range" 245 247 249 10 _ _ _ _ _ _ _ (by decide +kernel) (by decide +kernel) (by decide +kernel) hT.2.2.2.2.2.2.2.2.2.1 (by decide +kernel) (by decide +kernel) hT.2.2.2.1.2.1 (by decide +kernel) hl w dX6_needRange_10 dX6_needRange_13 dX6_needRange_14 dX6_needRange_16 dX6_needRange_19 (by decide) (Nat.le_of_ble_eq_true rfl) (by decide) (by decide) (by rw [chk_f (show ¬ (lo ≤ i ∧ i ≤ hh) by omega)])
  · refine q_iln M dX6_needRange_5 (lv_at hl 0 rfl) ?_
    refine q_iln M dX6_needRange_6 (lv_at hl 2 rfl) ?_
    refine q_icmp_le (tgt := 20) M dX6_needRange_7 (by decide) (by omega) (fun c7 => ?_) (fun c7 => ?_)
    · exact kret _ _ _ _ _ _ (by decide) (by decide) dX6_needRange_20 w (by rw [chk_t (show lo ≤ i ∧ i ≤ hh by omega)])
    · exact kthr eIAE "an argument is out of its range" 245 247 249 10 _ _ _ _ _ _ _ (by decide +kernel) (by decide +kernel) (by decide +kernel) hT.2.2.2.2.2.2.2.2.2.1 (by decide +kernel) (by decide +kernel) hT.2.2.2.1.2.1 (by decide +kernel) hl w dX6_needRange_10 dX6_needRange_13 dX6_needRange_14 dX6_needRange_16 dX6_needRange_19 (by decide) (Nat.le_of_ble_eq_true rfl) (by decide) (by decide) (by rw [chk_f (show ¬ (lo ≤ i ∧ i ≤ hh) by omega)])

set_option maxHeartbeats 4000000 in
set_option maxRecDepth 100000 in
/-- needSample -/
theorem k_needSample (l : Launch) (hfl : l.stackTraces = false) (D : va_G) (cI cZ cJ : ClassId) (i : Int) (hi : -2147483648 ≤ i ∧ i < 2147483648) : Xv l D (tY cI cZ cJ) yX6_needSample wsX6_needSample rmX6_needSample [.int (iI i)] ([]) (chk (0 ≤ i ∧ i ≤ 7) eIOB) ([]) := by
  refine xv_of hfl (by decide +kernel) rfl (Nat.le_of_ble_eq_true rfl) ?_
  intro zp ze zs zm zargs zbelow zmeth zc A Q ls M hA w hl hT kret kout kthr
  have hl : lv_has ls 1 [(0, .int (iI i))] := hl
  refine q_iln M dX6_needSample_0 (lv_at hl 0 rfl) ?_
  refine q_ic M dX6_needSample_1 ?_
  refine q_bp M dX6_needSample_2 (by decide +kernel) ?_
  refine qx_vS (As := [.int (iI i), .int (iI 0), .int (iI 7)]) (rest := []) (wc := []) (wc2 := []) (ws2 := []) M w hA hT hl (k_needIndex l hfl D cI cZ cJ i 0 7 (by omega)) gX6_needSample_X6_needIndex rfl ⟨by decide, by decide⟩ ⟨by decide, by decide⟩ 3 (by decide +kernel) rfl [] rfl rfl rfl (Nat.le_of_ble_eq_true rfl) rfl dX6_needSample_4 (fun E ce q9 H1 locs1 hE w h1 h2 h3 => ?_) (fun H locs x4 w => ?_)
  · obtain ⟨hq, rfl⟩ := chk_e hE
    exact kout _ _ _ _ _ _ _ _ _ _ (by decide) (by decide) w h1 h2 h3 (by rw [chk_f (show ¬ (0 ≤ i ∧ i ≤ 7) by omega)])
  have y4 := chk_n x4
  exact kret _ _ _ _ _ _ (by decide) (by decide) dX6_needSample_7 w (by rw [chk_t (show 0 ≤ i ∧ i ≤ 7 by omega)])

set_option maxHeartbeats 4000000 in
set_option maxRecDepth 100000 in
/-- needPattern -/
theorem k_needPattern (l : Launch) (hfl : l.stackTraces = false) (D : va_G) (cI cZ cJ : ClassId) (i : Int) (hi : -2147483648 ≤ i ∧ i < 2147483648) : Xv l D (tY cI cZ cJ) yX6_needPattern wsX6_needPattern rmX6_needPattern [.int (iI i)] ([]) (chk (0 ≤ i ∧ i ≤ 11) eIOB) ([]) := by
  refine xv_of hfl (by decide +kernel) rfl (Nat.le_of_ble_eq_true rfl) ?_
  intro zp ze zs zm zargs zbelow zmeth zc A Q ls M hA w hl hT kret kout kthr
  have hl : lv_has ls 1 [(0, .int (iI i))] := hl
  refine q_iln M dX6_needPattern_0 (lv_at hl 0 rfl) ?_
  refine q_ic M dX6_needPattern_1 ?_
  refine q_bp M dX6_needPattern_2 (by decide +kernel) ?_
  refine qx_vS (As := [.int (iI i), .int (iI 0), .int (iI 11)]) (rest := []) (wc := []) (wc2 := []) (ws2 := []) M w hA hT hl (k_needIndex l hfl D cI cZ cJ i 0 11 (by omega)) gX6_needPattern_X6_needIndex rfl ⟨by decide, by decide⟩ ⟨by decide, by decide⟩ 3 (by decide +kernel) rfl [] rfl rfl rfl (Nat.le_of_ble_eq_true rfl) rfl dX6_needPattern_4 (fun E ce q9 H1 locs1 hE w h1 h2 h3 => ?_) (fun H locs x4 w => ?_)
  · obtain ⟨hq, rfl⟩ := chk_e hE
    exact kout _ _ _ _ _ _ _ _ _ _ (by decide) (by decide) w h1 h2 h3 (by rw [chk_f (show ¬ (0 ≤ i ∧ i ≤ 11) by omega)])
  have y4 := chk_n x4
  exact kret _ _ _ _ _ _ (by decide) (by decide) dX6_needPattern_7 w (by rw [chk_t (show 0 ≤ i ∧ i ≤ 11 by omega)])

set_option maxHeartbeats 4000000 in
set_option maxRecDepth 100000 in
/-- needSong -/
theorem k_needSong (l : Launch) (hfl : l.stackTraces = false) (D : va_G) (cI cZ cJ : ClassId) (i : Int) (hi : -2147483648 ≤ i ∧ i < 2147483648) : Xv l D (tY cI cZ cJ) yX6_needSong wsX6_needSong rmX6_needSong [.int (iI i)] ([]) (chk (0 ≤ i ∧ i ≤ 5) eIOB) ([]) := by
  refine xv_of hfl (by decide +kernel) rfl (Nat.le_of_ble_eq_true rfl) ?_
  intro zp ze zs zm zargs zbelow zmeth zc A Q ls M hA w hl hT kret kout kthr
  have hl : lv_has ls 1 [(0, .int (iI i))] := hl
  refine q_iln M dX6_needSong_0 (lv_at hl 0 rfl) ?_
  refine q_ic M dX6_needSong_1 ?_
  refine q_ic M dX6_needSong_2 ?_
  refine qx_vS (As := [.int (iI i), .int (iI 0), .int (iI 5)]) (rest := []) (wc := []) (wc2 := []) (ws2 := []) M w hA hT hl (k_needIndex l hfl D cI cZ cJ i 0 5 (by omega)) gX6_needSong_X6_needIndex rfl ⟨by decide, by decide⟩ ⟨by decide, by decide⟩ 3 (by decide +kernel) rfl [] rfl rfl rfl (Nat.le_of_ble_eq_true rfl) rfl dX6_needSong_3 (fun E ce q9 H1 locs1 hE w h1 h2 h3 => ?_) (fun H locs x3 w => ?_)
  · obtain ⟨hq, rfl⟩ := chk_e hE
    exact kout _ _ _ _ _ _ _ _ _ _ (by decide) (by decide) w h1 h2 h3 (by rw [chk_f (show ¬ (0 ≤ i ∧ i ≤ 5) by omega)])
  have y3 := chk_n x3
  exact kret _ _ _ _ _ _ (by decide) (by decide) dX6_needSong_6 w (by rw [chk_t (show 0 ≤ i ∧ i ≤ 5 by omega)])

set_option maxHeartbeats 4000000 in
set_option maxRecDepth 100000 in
/-- needPlayed -/
theorem k_needPlayed (l : Launch) (hfl : l.stackTraces = false) (D : va_G) (cI cZ cJ : ClassId) (a : Nat → Nat) (μ : Nat → Int → Int) (h23 : μ 23 0 = 0 ∨ μ 23 0 = 1) : Xv l D (tY cI cZ cJ) yX6_needPlayed wsX6_needPlayed rmX6_needPlayed [.ref (a 0)] (WXH cI a μ) (chk (μ 23 0 = 1) eISE) (WXH cI a μ) := by
  refine xv_of hfl (by decide +kernel) rfl (Nat.le_of_ble_eq_true rfl) ?_
  intro zp ze zs zm zargs zbelow zmeth zc A Q ls M hA w hl hT kret kout kthr
  have hl : lv_has ls 1 [(0, .ref (a 0))] := hl
  have in6 : ∀ w ∈ u_ws RX6 TX6 11, w ∈ wsX6_needPlayed := by decide +kernel
  refine q_aln M dX6_needPlayed_0 (lv_at hl 0 rfl) ?_
  refine q_get (v := .ref (a 3)) M w in6 0 4 rfl rfl (by decide) (by decide +kernel) rfl rfl dX6_needPlayed_1 ?_
  refine qc_iV (As := []) (rest := []) (wc := WH0 cI a μ) (wc2 := WH0 cI a μ) (ws2 := WXH cI a μ) M w hA hl (k_isPlayed l D cI cZ cJ a μ h23) gX6_needPlayed_X4_isPlayed rfl ⟨rfl, rfl, by decide, by decide⟩ ⟨by decide, by decide⟩ 0 ⟨rfl, by decide +kernel⟩ rfl [false, true] rfl rfl 1 rfl rfl rfl (Nat.le_of_ble_eq_true rfl) rfl dX6_needPlayed_4 (fun H locs w => ?_)
  refine q_if_ne (tgt := 20) M dX6_needPlayed_7 (by decide) (by omega) (fun c7 => ?_) (fun c7 => ?_)
  · exact kret _ _ _ _ _ _ (by decide) (by decide) dX6_needPlayed_20 w (by rw [chk_t (show μ 23 0 = 1 by omega)])
  · exact kthr eISE "the set is not played" 118 250 122 10 _ _ _ _ _ _ _ (by decide +kernel) (by decide +kernel) (by decide +kernel) hT.2.2.2.2.2.2.2.2.2.2.1 (by decide +kernel) (by decide +kernel) hT.2.2.2.1.2.2 (by decide +kernel) hl w dX6_needPlayed_10 dX6_needPlayed_13 dX6_needPlayed_14 dX6_needPlayed_16 dX6_needPlayed_19 (by decide) (Nat.le_of_ble_eq_true rfl) (by decide) (by decide) (by rw [chk_f (show ¬ (μ 23 0 = 1) by omega)])

set_option maxHeartbeats 4000000 in
set_option maxRecDepth 100000 in
/-- needNotPlayed -/
theorem k_needNotPlayed (l : Launch) (hfl : l.stackTraces = false) (D : va_G) (cI cZ cJ : ClassId) (a : Nat → Nat) (μ : Nat → Int → Int) (h23 : μ 23 0 = 0 ∨ μ 23 0 = 1) : Xv l D (tY cI cZ cJ) yX6_needNotPlayed wsX6_needNotPlayed rmX6_needNotPlayed [.ref (a 0)] (WXH cI a μ) (chk (μ 23 0 = 0) eISE) (WXH cI a μ) := by
  refine xv_of hfl (by decide +kernel) rfl (Nat.le_of_ble_eq_true rfl) ?_
  intro zp ze zs zm zargs zbelow zmeth zc A Q ls M hA w hl hT kret kout kthr
  have hl : lv_has ls 1 [(0, .ref (a 0))] := hl
  have in6 : ∀ w ∈ u_ws RX6 TX6 11, w ∈ wsX6_needNotPlayed := by decide +kernel
  refine q_aln M dX6_needNotPlayed_0 (lv_at hl 0 rfl) ?_
  refine q_get (v := .ref (a 3)) M w in6 0 4 rfl rfl (by decide) (by decide +kernel) rfl rfl dX6_needNotPlayed_1 ?_
  refine qc_iV (As := []) (rest := []) (wc := WH0 cI a μ) (wc2 := WH0 cI a μ) (ws2 := WXH cI a μ) M w hA hl (k_isPlayed l D cI cZ cJ a μ h23) gX6_needNotPlayed_X4_isPlayed rfl ⟨rfl, rfl, by decide, by decide⟩ ⟨by decide, by decide⟩ 0 ⟨rfl, by decide +kernel⟩ rfl [false, true] rfl rfl 1 rfl rfl rfl (Nat.le_of_ble_eq_true rfl) rfl dX6_needNotPlayed_4 (fun H locs w => ?_)
  refine q_if_eq (tgt := 20) M dX6_needNotPlayed_7 (by decide) (by omega) (fun c7 => ?_) (fun c7 => ?_)
  · exact kret _ _ _ _ _ _ (by decide) (by decide) dX6_needNotPlayed_20 w (by rw [chk_t (show μ 23 0 = 0 by omega)])
  · exact kthr eISE "the set is played" 118 252 122 10 _ _ _ _ _ _ _ (by decide +kernel) (by decide +kernel) (by decide +kernel) hT.2.2.2.2.2.2.2.2.2.2.2 (by decide +kernel) (by decide +kernel) hT.2.2.2.1.2.2 (by decide +kernel) hl w dX6_needNotPlayed_10 dX6_needNotPlayed_13 dX6_needNotPlayed_14 dX6_needNotPlayed_16 dX6_needNotPlayed_19 (by decide) (Nat.le_of_ble_eq_true rfl) (by decide) (by decide) (by rw [chk_f (show ¬ (μ 23 0 = 0) by omega)])
