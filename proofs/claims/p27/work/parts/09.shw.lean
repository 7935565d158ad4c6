/-! SHOW: the set list and the due tick -/
noncomputable def b01 (P : Prop) : Int := @ite Int P (Classical.propDecidable P) 1 0
theorem b01_t {P : Prop} (h : P) : b01 P = 1 := by unfold b01; exact if_pos h
theorem b01_f {P : Prop} (h : ¬ P) : b01 P = 0 := by unfold b01; exact if_neg h
theorem b01_c (P : Prop) : b01 P = 0 ∨ b01 P = 1 := by
  by_cases h : P
  · exact Or.inr (b01_t h)
  · exact Or.inl (b01_f h)
/-- what set list and songs' bar counts may hold -/
def IH (μ : Nat → Int → Int) : Prop := (0 ≤ μ 22 0 ∧ μ 22 0 ≤ 8) ∧ (∀ j, 0 ≤ j → j < μ 22 0 → 0 ≤ μ 18 j ∧ μ 18 j < 6) ∧ (∀ s, 0 ≤ s → s < 6 → 0 ≤ μ 13 s ∧ μ 13 s ≤ 64)
def IB (μ : Nat → Int → Int) : Prop := ∀ s b, 0 ≤ s → s < 6 → 0 ≤ b → b < μ 13 s → (0 ≤ μ 14 (s * 64 + b) ∧ μ 14 (s * 64 + b) < 12) ∧ 0 ≤ μ 15 (s * 64 + b) ∧ μ 15 (s * 64 + b) < 1000
theorem itI_fix {σ : Type} {F : Int → σ → σ} {g x : σ} {k n : Int} (hk : 0 ≤ k ∧ k ≤ n) (h : itI F g k = x) (hf : ∀ i, F i x = x) : itI F g n = x := by
  obtain ⟨d, rfl⟩ : ∃ d : Int, n = k + d := ⟨n - k, by omega⟩
  have hd : 0 ≤ d := by omega
  obtain ⟨m, rfl⟩ := Int.eq_ofNat_of_zero_le hd
  clear hd
  induction m with
  | zero => rw [show ((0 : Nat) : Int) = 0 from rfl, Int.add_zero]; exact h
  | succ m ih =>
    rw [show k + ((m + 1 : Nat) : Int) = (k + m) + 1 by omega, itI_s F g (by omega), ih (by omega), hf]
def caS (μ : Nat → Int → Int) (st : Int × Int) : Int × Int := if st.1 < μ 22 0 ∧ μ 13 (μ 18 st.1) ≤ st.2 then (st.1 + 1, st.2 - μ 13 (μ 18 st.1)) else st
noncomputable def cAt (μ : Nat → Int → Int) (h : Int) : Int × Int := itI (fun _ st => caS μ st) (μ 24 0, μ 25 0 + h) 8
def cAz (μ : Nat → Int → Int) (st : Int × Int) : Int := if st.1 < μ 22 0 then cdF μ (μ 14 (μ 18 st.1 * 64 + st.2)) (μ 15 (μ 18 st.1 * 64 + st.2)) else -1
noncomputable def cAh (μ : Nat → Int → Int) (h : Int) : Int := cAz μ (cAt μ h)
def t23 (μ : Nat → Int → Int) : Int := if μ 26 0 + 1 < 192 then μ 23 0 else if μ 25 0 + 1 < μ 13 (μ 18 (μ 24 0)) then μ 23 0 else if μ 24 0 + 1 < μ 22 0 then 1 else 0
def t24 (μ : Nat → Int → Int) : Int := if μ 26 0 + 1 < 192 then μ 24 0 else if μ 25 0 + 1 < μ 13 (μ 18 (μ 24 0)) then μ 24 0 else μ 24 0 + 1
def t25 (μ : Nat → Int → Int) : Int := if μ 26 0 + 1 < 192 then μ 25 0 else if μ 25 0 + 1 < μ 13 (μ 18 (μ 24 0)) then μ 25 0 + 1 else 0
def t26 (μ : Nat → Int → Int) : Int := if μ 26 0 + 1 < 192 then μ 26 0 + 1 else 0

set_option maxHeartbeats 4000000 in
set_option maxRecDepth 100000 in
/-- Show.isFull -/
theorem k_isFull (l : Launch) (D : va_G) (cI cZ cJ : ClassId) (a : Nat → Nat) (μ : Nat → Int → Int) (hc : 0 ≤ μ 22 0 ∧ μ 22 0 ≤ 8) : Ci l D (tY cI cZ cJ) yX4_isFull wsX4_isFull rmX4_isFull [.ref (a 3)] (WH0 cI a μ) (if 8 ≤ μ 22 0 then 1 else 0) (WH0 cI a μ) := by
  refine qz_of (by decide +kernel) rfl (Nat.le_of_ble_eq_true rfl) (by split <;> omega) ?_
  intro zp ze zs zm zargs zbelow zmeth zc A Q ls M hA w hl kret
  have hl : lv_has ls 1 [(0, .ref (a 3))] := hl
  have in4 : ∀ w ∈ u_ws RX4 TX4 7, w ∈ wsX4_isFull := by decide +kernel
  refine q_aln M dX4_isFull_0 (lv_at hl 0 rfl) ?_
  refine q_get (v := .int (iI (μ 22 0))) M w in4 0 2 rfl rfl (by decide) (by decide +kernel) rfl rfl dX4_isFull_1 ?_
  refine q_bp M dX4_isFull_4 (by decide +kernel) ?_
  refine q_icmp_lt (tgt := 13) M dX4_isFull_6 (by decide) (by omega) (fun c6 => ?_) (fun c6 => ?_)
  · refine q_ic M dX4_isFull_13 ?_
    exact kret _ _ _ _ _ dX4_isFull_14 w (by split <;> omega)
  · refine q_ic M dX4_isFull_9 ?_
    refine q_go (tgt := 14) M dX4_isFull_10 (by decide) ?_
    exact kret _ _ _ _ _ dX4_isFull_14 w (by split <;> omega)

set_option maxHeartbeats 4000000 in
set_option maxRecDepth 100000 in
/-- Show.append -/
theorem k_Happend (l : Launch) (D : va_G) (cI cZ cJ : ClassId) (a : Nat → Nat) (μ : Nat → Int → Int) (s : Int) (hc : 0 ≤ μ 22 0 ∧ μ 22 0 < 8) : Ci l D (tY cI cZ cJ) yX4_append wsX4_append rmX4_append [.ref (a 3), .int (iI s)] (WH cI a μ) (μ 22 0 + 1) (WH cI a (mset (mset μ 18 (iU (μ 18) (μ 22 0) s)) 22 (fun _ => μ 22 0 + 1))) := by
  refine qi_of (by decide +kernel) rfl (Nat.le_of_ble_eq_true rfl) ?_
  intro zp ze zs zm zargs zbelow zmeth zc A Q ls M hA w hl kret
  have hl : lv_has ls 2 [(0, .ref (a 3)), (1, .int (iI s))] := hl
  have in4 : ∀ w ∈ u_ws RX4 TX4 7, w ∈ wsX4_append := by decide +kernel
  refine q_aln M dX4_append_0 (lv_at hl 0 rfl) ?_
  refine q_get (v := .ref (a 46)) M w in4 0 1 rfl rfl (by decide) (by decide +kernel) rfl rfl dX4_append_1 ?_
  refine q_aln M dX4_append_4 (lv_at hl 0 rfl) ?_
  refine q_get (v := .int (iI (μ 22 0))) M w in4 0 2 rfl rfl (by decide) (by decide +kernel) rfl rfl dX4_append_5 ?_
  refine q_iln M dX4_append_8 (lv_at hl 1 rfl) ?_
  refine qc_iV (As := [.int (iI (μ 22 0)), .int (iI s)]) (rest := []) (wc := WRow cI (a 46) (a 47) 8 (μ 18)) (wc2 := WRow cI (a 46) (a 47) 8 (iU (μ 18) (μ 22 0) s)) (ws2 := WH cI a (mset μ 18 (iU (μ 18) (μ 22 0) s))) M w hA hl (k_replace l D cI cZ cJ _ _ _ _ (μ 22 0) s (by omega)) gX4_append_X3_replace rfl ⟨rfl, rfl, by decide, by decide⟩ ⟨Nat.zero_le _, Nat.zero_le _⟩ 2 ⟨rfl, by decide +kernel⟩ rfl [false, true, true] rfl rfl 1 rfl rfl rfl (Nat.le_of_ble_eq_true rfl) rfl dX4_append_9 (fun H locs w => ?_)
  refine q_pop M dX4_append_12 rfl ?_
  refine q_aln M dX4_append_13 (lv_at hl 0 rfl) ?_
  refine q_dup M dX4_append_14 rfl ?_
  refine q_get (v := .int (iI (μ 22 0))) M w in4 0 2 rfl rfl (by decide) (by decide +kernel) rfl rfl dX4_append_15 ?_
  refine q_ic M dX4_append_18 ?_
  refine q_add M dX4_append_19 ?_
  refine q_put (ws2 := WH cI a (mset (mset μ 18 (iU (μ 18) (μ 22 0) s)) 22 (fun _ => (μ 22 0) + 1))) M w in4 0 2 tyX4 tyX4_ok nmX4 rfl rfl (by decide) (by decide +kernel) rfl rfl rfl rfl (Nat.le_of_ble_eq_true rfl) rfl dX4_append_20 (fun H locs w => ?_)
  refine q_aln M dX4_append_23 (lv_at hl 0 rfl) ?_
  refine q_get (v := .int (iI ((μ 22 0) + 1))) M w in4 0 2 rfl rfl (by decide) (by decide +kernel) rfl rfl dX4_append_24 ?_
  exact kret _ _ _ _ _ dX4_append_27 w rfl

set_option maxHeartbeats 4000000 in
set_option maxRecDepth 100000 in
/-- Show.removeAll -/
theorem k_removeAll (l : Launch) (D : va_G) (cI cZ cJ : ClassId) (a : Nat → Nat) (μ : Nat → Int → Int) : Ci l D (tY cI cZ cJ) yX4_removeAll wsX4_removeAll rmX4_removeAll [.ref (a 3)] (WH0 cI a μ) (μ 22 0) (WH0 cI a (mset μ 22 (fun _ => 0))) := by
  refine qi_of (by decide +kernel) rfl (Nat.le_of_ble_eq_true rfl) ?_
  intro zp ze zs zm zargs zbelow zmeth zc A Q ls M hA w hl kret
  have hl : lv_has ls 2 [(0, .ref (a 3))] := hl
  have in4 : ∀ w ∈ u_ws RX4 TX4 7, w ∈ wsX4_removeAll := by decide +kernel
  refine q_aln M dX4_removeAll_0 (lv_at hl 0 rfl) ?_
  refine q_get (v := .int (iI (μ 22 0))) M w in4 0 2 rfl rfl (by decide) (by decide +kernel) rfl rfl dX4_removeAll_1 ?_
  refine q_isn (lv' := [(1, .int (iI (μ 22 0))), (0, .ref (a 3))]) M dX4_removeAll_4 rfl hl (by decide) rfl (fun ls hl => ?_)
  refine q_aln M dX4_removeAll_5 (lv_at hl 1 rfl) ?_
  refine q_ic M dX4_removeAll_6 ?_
  refine q_put (ws2 := WH0 cI a (mset μ 22 (fun _ => 0))) M w in4 0 2 tyX4 tyX4_ok nmX4 rfl rfl (by decide) (by decide +kernel) rfl rfl rfl rfl (Nat.le_of_ble_eq_true rfl) rfl dX4_removeAll_7 (fun H locs w => ?_)
  refine q_iln M dX4_removeAll_10 (lv_at hl 0 rfl) ?_
  exact kret _ _ _ _ _ dX4_removeAll_11 w rfl

set_option maxHeartbeats 4000000 in
set_option maxRecDepth 100000 in
/-- Show.isPlayed -/
theorem k_isPlayed (l : Launch) (D : va_G) (cI cZ cJ : ClassId) (a : Nat → Nat) (μ : Nat → Int → Int) (hc : μ 23 0 = 0 ∨ μ 23 0 = 1) : Ci l D (tY cI cZ cJ) yX4_isPlayed wsX4_isPlayed rmX4_isPlayed [.ref (a 3)] (WH0 cI a μ) (μ 23 0) (WH0 cI a μ) := by
  refine qz_of (by decide +kernel) rfl (Nat.le_of_ble_eq_true rfl) hc ?_
  intro zp ze zs zm zargs zbelow zmeth zc A Q ls M hA w hl kret
  have hl : lv_has ls 1 [(0, .ref (a 3))] := hl
  have in4 : ∀ w ∈ u_ws RX4 TX4 7, w ∈ wsX4_isPlayed := by decide +kernel
  refine q_aln M dX4_isPlayed_0 (lv_at hl 0 rfl) ?_
  refine q_get (v := .int (iI (μ 23 0))) M w in4 0 3 rfl rfl (by decide) (by decide +kernel) rfl rfl dX4_isPlayed_1 ?_
  exact kret _ _ _ _ _ dX4_isPlayed_4 w rfl

set_option maxHeartbeats 4000000 in
set_option maxRecDepth 100000 in
/-- Show.dueTick -/
theorem k_dueTick (l : Launch) (D : va_G) (cI cZ cJ : ClassId) (a : Nat → Nat) (μ : Nat → Int → Int) : Ci l D (tY cI cZ cJ) yX4_dueTick wsX4_dueTick rmX4_dueTick [.ref (a 3)] (WH0 cI a μ) (μ 26 0) (WH0 cI a μ) := by
  refine qi_of (by decide +kernel) rfl (Nat.le_of_ble_eq_true rfl) ?_
  intro zp ze zs zm zargs zbelow zmeth zc A Q ls M hA w hl kret
  have hl : lv_has ls 1 [(0, .ref (a 3))] := hl
  have in4 : ∀ w ∈ u_ws RX4 TX4 7, w ∈ wsX4_dueTick := by decide +kernel
  refine q_aln M dX4_dueTick_0 (lv_at hl 0 rfl) ?_
  refine q_get (v := .int (iI (μ 26 0))) M w in4 0 6 rfl rfl (by decide) (by decide +kernel) rfl rfl dX4_dueTick_1 ?_
  exact kret _ _ _ _ _ dX4_dueTick_4 w rfl

set_option maxHeartbeats 4000000 in
set_option maxRecDepth 100000 in
/-- Show.duePlace -/
theorem k_duePlace (l : Launch) (D : va_G) (cI cZ cJ : ClassId) (a : Nat → Nat) (μ : Nat → Int → Int) : Ci l D (tY cI cZ cJ) yX4_duePlace wsX4_duePlace rmX4_duePlace [.ref (a 3)] (WH0 cI a μ) (μ 24 0) (WH0 cI a μ) := by
  refine qi_of (by decide +kernel) rfl (Nat.le_of_ble_eq_true rfl) ?_
  intro zp ze zs zm zargs zbelow zmeth zc A Q ls M hA w hl kret
  have hl : lv_has ls 1 [(0, .ref (a 3))] := hl
  have in4 : ∀ w ∈ u_ws RX4 TX4 7, w ∈ wsX4_duePlace := by decide +kernel
  refine q_aln M dX4_duePlace_0 (lv_at hl 0 rfl) ?_
  refine q_get (v := .int (iI (μ 24 0))) M w in4 0 4 rfl rfl (by decide) (by decide +kernel) rfl rfl dX4_duePlace_1 ?_
  exact kret _ _ _ _ _ dX4_duePlace_4 w rfl

set_option maxHeartbeats 4000000 in
set_option maxRecDepth 100000 in
/-- Show.dueNumber -/
theorem k_dueNumber (l : Launch) (D : va_G) (cI cZ cJ : ClassId) (a : Nat → Nat) (μ : Nat → Int → Int) : Ci l D (tY cI cZ cJ) yX4_dueNumber wsX4_dueNumber rmX4_dueNumber [.ref (a 3)] (WH0 cI a μ) (100000 * μ 24 0 + 1000 * μ 25 0 + μ 26 0) (WH0 cI a μ) := by
  refine qi_of (by decide +kernel) rfl (Nat.le_of_ble_eq_true rfl) ?_
  intro zp ze zs zm zargs zbelow zmeth zc A Q ls M hA w hl kret
  have hl : lv_has ls 1 [(0, .ref (a 3))] := hl
  have in4 : ∀ w ∈ u_ws RX4 TX4 7, w ∈ wsX4_dueNumber := by decide +kernel
  refine q_ldc (n := 100000) M (by decide +kernel) dX4_dueNumber_0 ?_
  refine q_aln M dX4_dueNumber_2 (lv_at hl 0 rfl) ?_
  refine q_get (v := .int (iI (μ 24 0))) M w in4 0 4 rfl rfl (by decide) (by decide +kernel) rfl rfl dX4_dueNumber_3 ?_
  refine q_mul M dX4_dueNumber_6 ?_
  refine q_sp M dX4_dueNumber_7 (by decide +kernel) ?_
  refine q_aln M dX4_dueNumber_10 (lv_at hl 0 rfl) ?_
  refine q_get (v := .int (iI (μ 25 0))) M w in4 0 5 rfl rfl (by decide) (by decide +kernel) rfl rfl dX4_dueNumber_11 ?_
  refine q_mul M dX4_dueNumber_14 ?_
  refine q_add M dX4_dueNumber_15 ?_
  refine q_aln M dX4_dueNumber_16 (lv_at hl 0 rfl) ?_
  refine q_get (v := .int (iI (μ 26 0))) M w in4 0 6 rfl rfl (by decide) (by decide +kernel) rfl rfl dX4_dueNumber_17 ?_
  refine q_add M dX4_dueNumber_20 ?_
  exact kret _ _ _ _ _ dX4_dueNumber_21 w rfl

set_option maxHeartbeats 4000000 in
set_option maxRecDepth 100000 in
/-- Show.begin -/
theorem k_begin (l : Launch) (D : va_G) (cI cZ cJ : ClassId) (a : Nat → Nat) (μ : Nat → Int → Int) : Cv l D (tY cI cZ cJ) yX4_begin wsX4_begin rmX4_begin [.ref (a 3)] (WH0 cI a μ) (WH0 cI a (mset (mset (mset (mset μ 23 (fun _ => 1)) 24 (fun _ => 0)) 25 (fun _ => 0)) 26 (fun _ => 0))) := by
  refine qv_of (by decide +kernel) rfl (Nat.le_of_ble_eq_true rfl) ?_
  intro zp ze zs zm zargs zbelow zmeth zc A Q ls M hA w hl kret
  have hl : lv_has ls 1 [(0, .ref (a 3))] := hl
  have in4 : ∀ w ∈ u_ws RX4 TX4 7, w ∈ wsX4_begin := by decide +kernel
  refine q_aln M dX4_begin_0 (lv_at hl 0 rfl) ?_
  refine q_ic M dX4_begin_1 ?_
  refine q_put (ws2 := WH0 cI a (mset μ 23 (fun _ => 1))) M w in4 0 3 tyX4 tyX4_ok nmX4 rfl rfl (by decide) (by decide +kernel) rfl rfl (q_nz2 (by omega)) (q_fz (by omega)) (Nat.le_of_ble_eq_true rfl) rfl dX4_begin_2 (fun H locs w => ?_)
  refine q_aln M dX4_begin_5 (lv_at hl 0 rfl) ?_
  refine q_ic M dX4_begin_6 ?_
  refine q_put (ws2 := WH0 cI a (mset (mset μ 23 (fun _ => 1)) 24 (fun _ => 0))) M w in4 0 4 tyX4 tyX4_ok nmX4 rfl rfl (by decide) (by decide +kernel) rfl rfl rfl rfl (Nat.le_of_ble_eq_true rfl) rfl dX4_begin_7 (fun H locs w => ?_)
  refine q_aln M dX4_begin_10 (lv_at hl 0 rfl) ?_
  refine q_ic M dX4_begin_11 ?_
  refine q_put (ws2 := WH0 cI a (mset (mset (mset μ 23 (fun _ => 1)) 24 (fun _ => 0)) 25 (fun _ => 0))) M w in4 0 5 tyX4 tyX4_ok nmX4 rfl rfl (by decide) (by decide +kernel) rfl rfl rfl rfl (Nat.le_of_ble_eq_true rfl) rfl dX4_begin_12 (fun H locs w => ?_)
  refine q_aln M dX4_begin_15 (lv_at hl 0 rfl) ?_
  refine q_ic M dX4_begin_16 ?_
  refine q_put (ws2 := WH0 cI a (mset (mset (mset (mset μ 23 (fun _ => 1)) 24 (fun _ => 0)) 25 (fun _ => 0)) 26 (fun _ => 0))) M w in4 0 6 tyX4 tyX4_ok nmX4 rfl rfl (by decide) (by decide +kernel) rfl rfl rfl rfl (Nat.le_of_ble_eq_true rfl) rfl dX4_begin_17 (fun H locs w => ?_)
  exact kret _ _ _ _ dX4_begin_20 w

set_option maxHeartbeats 4000000 in
set_option maxRecDepth 100000 in
/-- Show.barsAt -/
theorem k_barsAt (l : Launch) (D : va_G) (cI cZ cJ : ClassId) (a : Nat → Nat) (μ : Nat → Int → Int) (j : Int) (hc : (0 ≤ j ∧ j < 8) ∧ 0 ≤ μ 18 j ∧ μ 18 j < 6) : Ci l D (tY cI cZ cJ) yX4_barsAt wsX4_barsAt rmX4_barsAt [.ref (a 3), .int (iI j)] (WSb cI a μ) (μ 13 (μ 18 j)) (WSb cI a μ) := by
  refine qi_of (by decide +kernel) rfl (Nat.le_of_ble_eq_true rfl) ?_
  intro zp ze zs zm zargs zbelow zmeth zc A Q ls M hA w hl kret
  have hl : lv_has ls 2 [(0, .ref (a 3)), (1, .int (iI j))] := hl
  have in4 : ∀ w ∈ u_ws RX4 TX4 7, w ∈ wsX4_barsAt := by decide +kernel
  refine q_aln M dX4_barsAt_0 (lv_at hl 0 rfl) ?_
  refine q_get (v := .ref (a 2)) M w in4 3 0 rfl rfl (by decide) (by decide +kernel) rfl rfl dX4_barsAt_1 ?_
  refine q_aln M dX4_barsAt_4 (lv_at hl 0 rfl) ?_
  refine q_get (v := .ref (a 46)) M w in4 3 1 rfl rfl (by decide) (by decide +kernel) rfl rfl dX4_barsAt_5 ?_
  refine q_iln M dX4_barsAt_8 (lv_at hl 1 rfl) ?_
  refine qc_iV (As := [.int (iI j)]) (rest := [.ref (a 2)]) (wc := WRow cI (a 46) (a 47) 8 (μ 18)) (wc2 := WRow cI (a 46) (a 47) 8 (μ 18)) (ws2 := WSb cI a μ) M w hA hl (k_get l D cI cZ cJ _ _ _ _ j (by omega)) gX4_barsAt_X3_get rfl ⟨rfl, rfl, by decide, by decide⟩ ⟨Nat.zero_le _, Nat.zero_le _⟩ 1 ⟨rfl, by decide +kernel⟩ rfl [false, false, false, false, true, true] rfl rfl 4 rfl rfl rfl (Nat.le_of_ble_eq_true rfl) rfl dX4_barsAt_9 (fun H locs w => ?_)
  refine qc_iV (As := [.int (iI ((μ 18) j))]) (rest := []) (wc := WSn1 cI a μ (μ 13)) (wc2 := WSn1 cI a μ (μ 13)) (ws2 := WSb cI a μ) M w hA hl (k_countBars l D cI cZ cJ a μ (μ 13) ((μ 18) j) (by omega)) gX4_barsAt_X5_countBars rfl ⟨rfl, rfl, by decide, by decide⟩ ⟨Nat.zero_le _, Nat.zero_le _⟩ 1 ⟨rfl, by decide +kernel⟩ rfl [true, true, true] rfl rfl 0 rfl rfl rfl (Nat.le_of_ble_eq_true rfl) rfl dX4_barsAt_12 (fun H locs w => ?_)
  exact kret _ _ _ _ _ dX4_barsAt_15 w rfl

set_option maxHeartbeats 4000000 in
set_option maxRecDepth 100000 in
/-- Show.canBegin -/
theorem k_canBegin (l : Launch) (D : va_G) (cI cZ cJ : ClassId) (a : Nat → Nat) (μ : Nat → Int → Int) (hI : IH μ) : Ci l D (tY cI cZ cJ) yX4_canBegin wsX4_canBegin rmX4_canBegin [.ref (a 3)] (WSb cI a μ) (b01 (0 < μ 22 0 ∧ ∀ i, 0 ≤ i → i < μ 22 0 → μ 13 (μ 18 i) ≠ 0)) (WSb cI a μ) := by
  have i1 := hI.1
  refine qz_of (by decide +kernel) rfl (Nat.le_of_ble_eq_true rfl) (b01_c _) ?_
  intro zp ze zs zm zargs zbelow zmeth zc A Q ls M hA w hl kret
  have hl : lv_has ls 2 [(0, .ref (a 3))] := hl
  have in4 : ∀ w ∈ u_ws RX4 TX4 7, w ∈ wsX4_canBegin := by decide +kernel
  refine q_ic M dX4_canBegin_0 ?_
  refine q_isn (lv' := [(1, .int (iI 0)), (0, .ref (a 3))]) M dX4_canBegin_1 rfl hl (by decide) rfl (fun ls hl => ?_)
  have lp2 : ∀ (n2 : Nat) (j : Int), (0 ≤ j ∧ j ≤ μ 22 0) → (∀ i, 0 ≤ i → i < j → μ 13 (μ 18 i) ≠ 0) → (μ 22 0 - j : Int) < (n2 : Int) → ∀ (H : Heap) (locs : List Loc) (ls : Array Slot), wW D A zs.heap (WSb cI a μ) H locs → lv_has ls 2 [(0, .ref (a 3)), (1, .int (iI j))] → W zp l ze rmX4_canBegin zs zm zargs zbelow zmeth zc H locs 0 0 Q (F0 zm 2 ls []) := by
    intro n2
    induction n2 with
    | zero => intro j hj hz hm H locs ls w hl; exfalso; omega
    | succ n2 ih2 =>
      intro j hj hz hm2 H locs ls w hl
      refine q_iln M dX4_canBegin_2 (lv_at hl 1 rfl) ?_
      refine q_aln M dX4_canBegin_3 (lv_at hl 0 rfl) ?_
      refine q_get (v := .int (iI (μ 22 0))) M w in4 3 2 rfl rfl (by decide) (by decide +kernel) rfl rfl dX4_canBegin_4 ?_
      refine q_icmp_ge (tgt := 26) M dX4_canBegin_7 (by decide) (by omega) (fun c7 => ?_) (fun c7 => ?_)
      · refine q_aln M dX4_canBegin_26 (lv_at hl 0 rfl) ?_
        refine q_get (v := .int (iI (μ 22 0))) M w in4 3 2 rfl rfl (by decide) (by decide +kernel) rfl rfl dX4_canBegin_27 ?_
        refine q_if_le (tgt := 37) M dX4_canBegin_30 (by decide) (by omega) (fun c30 => ?_) (fun c30 => ?_)
        · refine q_ic M dX4_canBegin_37 ?_
          exact kret _ _ _ _ _ dX4_canBegin_38 w (by rw [b01_f (fun q => absurd q.1 (by omega))])
        · refine q_ic M dX4_canBegin_33 ?_
          refine q_go (tgt := 38) M dX4_canBegin_34 (by decide) ?_
          exact kret _ _ _ _ _ dX4_canBegin_38 w (by rw [b01_t ⟨by omega, fun i h1 h2 => hz i h1 (by omega)⟩])
      · have i2 := hI.2.1 j hj.1 c7
        refine q_aln M dX4_canBegin_10 (lv_at hl 0 rfl) ?_
        refine q_iln M dX4_canBegin_11 (lv_at hl 1 rfl) ?_
        refine qc_iV (As := [.int (iI j)]) (rest := []) (wc := WSb cI a μ) (wc2 := WSb cI a μ) (ws2 := WSb cI a μ) M w hA hl (k_barsAt l D cI cZ cJ a μ j (by omega)) gX4_canBegin_X4_barsAt rfl ⟨rfl, rfl, by decide, by decide⟩ ⟨Nat.zero_le _, Nat.zero_le _⟩ 1 ⟨rfl, by decide +kernel⟩ rfl [true, true, true, true, true, true] rfl rfl 3 rfl rfl rfl (Nat.le_of_ble_eq_true rfl) rfl dX4_canBegin_12 (fun H locs w => ?_)
        have i3 := hI.2.2 (μ 18 j) i2.1 i2.2
        refine q_if_ne (tgt := 20) M dX4_canBegin_15 (by decide) (by omega) (fun c15 => ?_) (fun c15 => ?_)
        · refine q_inc (z := j) (lv' := [(1, .int (iI (j + 1))), (0, .ref (a 3))]) M dX4_canBegin_20 hl (k := 1) rfl (by decide) rfl (fun ls hl => ?_)
          refine q_go (tgt := 2) M dX4_canBegin_23 (by decide) ?_
          exact ih2 (j + 1) (by omega) (by intro i h1 h2; rcases Int.lt_or_eq_of_le (Int.lt_add_one_iff.mp h2) with q | q; exact hz i h1 q; rw [q]; exact c15) (by omega) _ _ _ w (lv_sub hl [1, 0] rfl)
        · refine q_ic M dX4_canBegin_18 ?_
          exact kret _ _ _ _ _ dX4_canBegin_19 w (by rw [b01_f (fun q => q.2 j hj.1 c7 c15)])
  exact lp2 9 0 (by omega) (by intro i h1 h2; omega) (by omega) _ _ _ w (lv_sub hl [1, 0] rfl)

set_option maxHeartbeats 4000000 in
set_option maxRecDepth 100000 in
/-- Show.countBars -/
theorem k_HcountBars (l : Launch) (D : va_G) (cI cZ cJ : ClassId) (a : Nat → Nat) (μ : Nat → Int → Int) (hI : IH μ) : Ci l D (tY cI cZ cJ) yX4_countBars wsX4_countBars rmX4_countBars [.ref (a 3)] (WSb cI a μ) (sI (fun j => μ 13 (μ 18 j)) (μ 22 0)) (WSb cI a μ) := by
  have i1 := hI.1
  refine qi_of (by decide +kernel) rfl (Nat.le_of_ble_eq_true rfl) ?_
  intro zp ze zs zm zargs zbelow zmeth zc A Q ls M hA w hl kret
  have hl : lv_has ls 3 [(0, .ref (a 3))] := hl
  have in4 : ∀ w ∈ u_ws RX4 TX4 7, w ∈ wsX4_countBars := by decide +kernel
  refine q_ic M dX4_countBars_0 ?_
  refine q_isn (lv' := [(1, .int (iI 0)), (0, .ref (a 3))]) M dX4_countBars_1 rfl hl (by decide) rfl (fun ls hl => ?_)
  refine q_ic M dX4_countBars_2 ?_
  refine q_isn (lv' := [(2, .int (iI 0)), (1, .int (iI 0)), (0, .ref (a 3))]) M dX4_countBars_3 rfl hl (by decide) rfl (fun ls hl => ?_)
  have lp4 : ∀ (n4 : Nat) (j : Int), (0 ≤ j ∧ j ≤ μ 22 0) → (μ 22 0 - j : Int) < (n4 : Int) → ∀ (H : Heap) (locs : List Loc) (ls : Array Slot), wW D A zs.heap (WSb cI a μ) H locs → lv_has ls 3 [(0, .ref (a 3)), (1, .int (iI (sI (fun j => μ 13 (μ 18 j)) j))), (2, .int (iI j))] → W zp l ze rmX4_countBars zs zm zargs zbelow zmeth zc H locs 0 0 Q (F0 zm 4 ls []) := by
    intro n4
    induction n4 with
    | zero => intro j hj hm H locs ls w hl; exfalso; omega
    | succ n4 ih4 =>
      intro j hj hm4 H locs ls w hl
      have hs := sI_s (fun j => μ 13 (μ 18 j)) hj.1
      refine q_iln M dX4_countBars_4 (lv_at hl 2 rfl) ?_
      refine q_aln M dX4_countBars_5 (lv_at hl 0 rfl) ?_
      refine q_get (v := .int (iI (μ 22 0))) M w in4 3 2 rfl rfl (by decide) (by decide +kernel) rfl rfl dX4_countBars_6 ?_
      refine q_icmp_ge (tgt := 26) M dX4_countBars_9 (by decide) (by omega) (fun c9 => ?_) (fun c9 => ?_)
      · refine q_iln M dX4_countBars_26 (lv_at hl 1 rfl) ?_
        exact kret _ _ _ _ _ dX4_countBars_27 w (by rw [show j = μ 22 0 by omega])
      · refine q_iln M dX4_countBars_12 (lv_at hl 1 rfl) ?_
        have i2 := hI.2.1 j hj.1 c9
        refine q_aln M dX4_countBars_13 (lv_at hl 0 rfl) ?_
        refine q_iln M dX4_countBars_14 (lv_at hl 2 rfl) ?_
        refine qc_iV (As := [.int (iI j)]) (rest := [.int (iI (sI (fun j => μ 13 (μ 18 j)) j))]) (wc := WSb cI a μ) (wc2 := WSb cI a μ) (ws2 := WSb cI a μ) M w hA hl (k_barsAt l D cI cZ cJ a μ j (by omega)) gX4_countBars_X4_barsAt rfl ⟨rfl, rfl, by decide, by decide⟩ ⟨Nat.zero_le _, Nat.zero_le _⟩ 1 ⟨rfl, by decide +kernel⟩ rfl [true, true, true, true, true, true] rfl rfl 3 rfl rfl rfl (Nat.le_of_ble_eq_true rfl) rfl dX4_countBars_15 (fun H locs w => ?_)
        refine q_add M dX4_countBars_18 ?_
        refine q_isn (lv' := [(1, .int (iI ((sI (fun j => μ 13 (μ 18 j)) j) + (μ 13 (μ 18 j))))), (0, .ref (a 3)), (2, .int (iI j))]) M dX4_countBars_19 rfl hl (by decide) rfl (fun ls hl => ?_)
        have er : (sI (fun j => μ 13 (μ 18 j)) j) + (μ 13 (μ 18 j)) = sI (fun j => μ 13 (μ 18 j)) (j + 1) := by rw [hs]
        have hl : lv_has ls 3 [(1, .int (iI (sI (fun j => μ 13 (μ 18 j)) (j + 1)))), (0, .ref (a 3)), (2, .int (iI j))] := by rw [← er]; exact hl
        refine q_inc (z := j) (lv' := [(2, .int (iI (j + 1))), (1, .int (iI (sI (fun j => μ 13 (μ 18 j)) (j + 1)))), (0, .ref (a 3))]) M dX4_countBars_20 hl (k := 2) rfl (by decide) rfl (fun ls hl => ?_)
        refine q_go (tgt := 4) M dX4_countBars_23 (by decide) ?_
        exact ih4 (j + 1) (by omega) (by omega) _ _ _ w (lv_sub hl [2, 1, 0] rfl)
  have er : 0 = sI (fun j => μ 13 (μ 18 j)) 0 := by rw [sI_0]
  have hl : lv_has ls 3 [(2, .int (iI 0)), (1, .int (iI (sI (fun j => μ 13 (μ 18 j)) 0))), (0, .ref (a 3))] := by rw [← er]; exact hl
  exact lp4 9 0 (by omega) (by omega) _ _ _ w (lv_sub hl [2, 1, 0] rfl)

set_option maxHeartbeats 4000000 in
set_option maxRecDepth 100000 in
/-- Show.goToNextSong -/
theorem k_goToNextSong (l : Launch) (D : va_G) (cI cZ cJ : ClassId) (a : Nat → Nat) (μ : Nat → Int → Int) (hc : (0 ≤ μ 22 0 ∧ μ 22 0 ≤ 8) ∧ 0 ≤ μ 24 0 ∧ μ 24 0 < 8) : Cv l D (tY cI cZ cJ) yX4_goToNextSong wsX4_goToNextSong rmX4_goToNextSong [.ref (a 3)] (WH0 cI a μ) (WH0 cI a (mset (mset (mset (mset μ 23 (fun _ => (if μ 24 0 + 1 < μ 22 0 then 1 else 0))) 24 (fun _ => μ 24 0 + 1)) 25 (fun _ => 0)) 26 (fun _ => 0))) := by
  refine qv_of (by decide +kernel) rfl (Nat.le_of_ble_eq_true rfl) ?_
  intro zp ze zs zm zargs zbelow zmeth zc A Q ls M hA w hl kret
  have hl : lv_has ls 1 [(0, .ref (a 3))] := hl
  have in4 : ∀ w ∈ u_ws RX4 TX4 7, w ∈ wsX4_goToNextSong := by decide +kernel
  refine q_aln M dX4_goToNextSong_0 (lv_at hl 0 rfl) ?_
  refine q_dup M dX4_goToNextSong_1 rfl ?_
  refine q_get (v := .int (iI (μ 24 0))) M w in4 0 4 rfl rfl (by decide) (by decide +kernel) rfl rfl dX4_goToNextSong_2 ?_
  refine q_ic M dX4_goToNextSong_5 ?_
  refine q_add M dX4_goToNextSong_6 ?_
  refine q_put (ws2 := WH0 cI a (mset μ 24 (fun _ => (μ 24 0) + 1))) M w in4 0 4 tyX4 tyX4_ok nmX4 rfl rfl (by decide) (by decide +kernel) rfl rfl rfl rfl (Nat.le_of_ble_eq_true rfl) rfl dX4_goToNextSong_7 (fun H locs w => ?_)
  refine q_aln M dX4_goToNextSong_10 (lv_at hl 0 rfl) ?_
  refine q_ic M dX4_goToNextSong_11 ?_
  refine q_put (ws2 := WH0 cI a (mset (mset μ 24 (fun _ => (μ 24 0) + 1)) 25 (fun _ => 0))) M w in4 0 5 tyX4 tyX4_ok nmX4 rfl rfl (by decide) (by decide +kernel) rfl rfl rfl rfl (Nat.le_of_ble_eq_true rfl) rfl dX4_goToNextSong_12 (fun H locs w => ?_)
  refine q_aln M dX4_goToNextSong_15 (lv_at hl 0 rfl) ?_
  refine q_ic M dX4_goToNextSong_16 ?_
  refine q_put (ws2 := WH0 cI a (mset (mset (mset μ 24 (fun _ => (μ 24 0) + 1)) 25 (fun _ => 0)) 26 (fun _ => 0))) M w in4 0 6 tyX4 tyX4_ok nmX4 rfl rfl (by decide) (by decide +kernel) rfl rfl rfl rfl (Nat.le_of_ble_eq_true rfl) rfl dX4_goToNextSong_17 (fun H locs w => ?_)
  refine q_aln M dX4_goToNextSong_20 (lv_at hl 0 rfl) ?_
  refine q_aln M dX4_goToNextSong_21 (lv_at hl 0 rfl) ?_
  refine q_get (v := .int (iI ((μ 24 0) + 1))) M w in4 0 4 rfl rfl (by decide) (by decide +kernel) rfl rfl dX4_goToNextSong_22 ?_
  refine q_aln M dX4_goToNextSong_25 (lv_at hl 0 rfl) ?_
  refine q_get (v := .int (iI (μ 22 0))) M w in4 0 2 rfl rfl (by decide) (by decide +kernel) rfl rfl dX4_goToNextSong_26 ?_
  refine q_icmp_ge (tgt := 36) M dX4_goToNextSong_29 (by decide) (by omega) (fun c29 => ?_) (fun c29 => ?_)
  · refine q_ic M dX4_goToNextSong_36 ?_
    refine q_put (ws2 := WH0 cI a (mset (mset (mset (mset μ 23 (fun _ => 0)) 24 (fun _ => (μ 24 0) + 1)) 25 (fun _ => 0)) 26 (fun _ => 0))) M w in4 0 3 tyX4 tyX4_ok nmX4 rfl rfl (by decide) (by decide +kernel) rfl rfl (q_nz2 (by omega)) (q_fz (by omega)) (Nat.le_of_ble_eq_true rfl) rfl dX4_goToNextSong_37 (fun H locs w => ?_)
    have e : (if μ 24 0 + 1 < μ 22 0 then (1 : Int) else 0) = 0 := by split <;> omega
    have w : wW D A zs.heap (WH0 cI a (mset (mset (mset (mset μ 23 (fun _ => (if μ 24 0 + 1 < μ 22 0 then 1 else 0))) 24 (fun _ => μ 24 0 + 1)) 25 (fun _ => 0)) 26 (fun _ => 0))) H locs := by rw [e]; exact w
    exact kret _ _ _ _ dX4_goToNextSong_40 w
  · refine q_ic M dX4_goToNextSong_32 ?_
    refine q_go (tgt := 37) M dX4_goToNextSong_33 (by decide) ?_
    refine q_put (ws2 := WH0 cI a (mset (mset (mset (mset μ 23 (fun _ => 1)) 24 (fun _ => (μ 24 0) + 1)) 25 (fun _ => 0)) 26 (fun _ => 0))) M w in4 0 3 tyX4 tyX4_ok nmX4 rfl rfl (by decide) (by decide +kernel) rfl rfl (q_nz2 (by omega)) (q_fz (by omega)) (Nat.le_of_ble_eq_true rfl) rfl dX4_goToNextSong_37 (fun H locs w => ?_)
    have e : (if μ 24 0 + 1 < μ 22 0 then (1 : Int) else 0) = 1 := by split <;> omega
    have w : wW D A zs.heap (WH0 cI a (mset (mset (mset (mset μ 23 (fun _ => (if μ 24 0 + 1 < μ 22 0 then 1 else 0))) 24 (fun _ => μ 24 0 + 1)) 25 (fun _ => 0)) 26 (fun _ => 0))) H locs := by rw [e]; exact w
    exact kret _ _ _ _ dX4_goToNextSong_40 w

set_option maxHeartbeats 4000000 in
set_option maxRecDepth 100000 in
/-- Show.goToNextTick -/
theorem k_goToNextTick (l : Launch) (D : va_G) (cI cZ cJ : ClassId) (a : Nat → Nat) (μ : Nat → Int → Int) (hI : IH μ) (hc : (0 ≤ μ 24 0 ∧ μ 24 0 < μ 22 0) ∧ (0 ≤ μ 25 0 ∧ μ 25 0 < 64) ∧ 0 ≤ μ 26 0 ∧ μ 26 0 < 192) : Cv l D (tY cI cZ cJ) yX4_goToNextTick wsX4_goToNextTick rmX4_goToNextTick [.ref (a 3)] (WSb cI a μ) (WSb cI a (mset (mset (mset (mset μ 23 (fun _ => t23 μ)) 24 (fun _ => t24 μ)) 25 (fun _ => t25 μ)) 26 (fun _ => t26 μ))) := by
  have i1 := hI.1
  refine qv_of (by decide +kernel) rfl (Nat.le_of_ble_eq_true rfl) ?_
  intro zp ze zs zm zargs zbelow zmeth zc A Q ls M hA w hl kret
  have hl : lv_has ls 1 [(0, .ref (a 3))] := hl
  have in4 : ∀ w ∈ u_ws RX4 TX4 7, w ∈ wsX4_goToNextTick := by decide +kernel
  refine q_aln M dX4_goToNextTick_0 (lv_at hl 0 rfl) ?_
  refine q_dup M dX4_goToNextTick_1 rfl ?_
  refine q_get (v := .int (iI (μ 26 0))) M w in4 3 6 rfl rfl (by decide) (by decide +kernel) rfl rfl dX4_goToNextTick_2 ?_
  refine q_ic M dX4_goToNextTick_5 ?_
  refine q_add M dX4_goToNextTick_6 ?_
  refine q_put (ws2 := WSb cI a (mset μ 26 (fun _ => (μ 26 0) + 1))) M w in4 3 6 tyX4 tyX4_ok nmX4 rfl rfl (by decide) (by decide +kernel) rfl rfl rfl rfl (Nat.le_of_ble_eq_true rfl) rfl dX4_goToNextTick_7 (fun H locs w => ?_)
  refine q_aln M dX4_goToNextTick_10 (lv_at hl 0 rfl) ?_
  refine q_get (v := .int (iI ((μ 26 0) + 1))) M w in4 3 6 rfl rfl (by decide) (by decide +kernel) rfl rfl dX4_goToNextTick_11 ?_
  refine q_sp M dX4_goToNextTick_14 (by decide +kernel) ?_
  refine q_icmp_ge (tgt := 21) M dX4_goToNextTick_17 (by decide) (by omega) (fun c17 => ?_) (fun c17 => ?_)
  · refine q_aln M dX4_goToNextTick_21 (lv_at hl 0 rfl) ?_
    refine q_ic M dX4_goToNextTick_22 ?_
    refine q_put (ws2 := WSb cI a (mset μ 26 (fun _ => 0))) M w in4 3 6 tyX4 tyX4_ok nmX4 rfl rfl (by decide) (by decide +kernel) rfl rfl rfl rfl (Nat.le_of_ble_eq_true rfl) rfl dX4_goToNextTick_23 (fun H locs w => ?_)
    refine q_aln M dX4_goToNextTick_26 (lv_at hl 0 rfl) ?_
    refine q_dup M dX4_goToNextTick_27 rfl ?_
    refine q_get (v := .int (iI (μ 25 0))) M w in4 3 5 rfl rfl (by decide) (by decide +kernel) rfl rfl dX4_goToNextTick_28 ?_
    refine q_ic M dX4_goToNextTick_31 ?_
    refine q_add M dX4_goToNextTick_32 ?_
    refine q_put (ws2 := WSb cI a (mset (mset μ 25 (fun _ => (μ 25 0) + 1)) 26 (fun _ => 0))) M w in4 3 5 tyX4 tyX4_ok nmX4 rfl rfl (by decide) (by decide +kernel) rfl rfl rfl rfl (Nat.le_of_ble_eq_true rfl) rfl dX4_goToNextTick_33 (fun H locs w => ?_)
    refine q_aln M dX4_goToNextTick_36 (lv_at hl 0 rfl) ?_
    refine q_get (v := .int (iI ((μ 25 0) + 1))) M w in4 3 5 rfl rfl (by decide) (by decide +kernel) rfl rfl dX4_goToNextTick_37 ?_
    have i2 := hI.2.1 (μ 24 0) hc.1.1 hc.1.2
    refine q_aln M dX4_goToNextTick_40 (lv_at hl 0 rfl) ?_
    refine q_aln M dX4_goToNextTick_41 (lv_at hl 0 rfl) ?_
    refine q_get (v := .int (iI (μ 24 0))) M w in4 3 4 rfl rfl (by decide) (by decide +kernel) rfl rfl dX4_goToNextTick_42 ?_
    refine qc_iV (As := [.int (iI (μ 24 0))]) (rest := [.int (iI ((μ 25 0) + 1))]) (wc := WSb cI a (mset (mset μ 25 (fun _ => (μ 25 0) + 1)) 26 (fun _ => 0))) (wc2 := WSb cI a (mset (mset μ 25 (fun _ => (μ 25 0) + 1)) 26 (fun _ => 0))) (ws2 := WSb cI a (mset (mset μ 25 (fun _ => (μ 25 0) + 1)) 26 (fun _ => 0))) M w hA hl (k_barsAt l D cI cZ cJ a (mset (mset μ 25 (fun _ => (μ 25 0) + 1)) 26 (fun _ => 0)) (μ 24 0) (by show (0 ≤ μ 24 0 ∧ μ 24 0 < 8) ∧ 0 ≤ μ 18 (μ 24 0) ∧ μ 18 (μ 24 0) < 6; omega)) gX4_goToNextTick_X4_barsAt rfl ⟨rfl, rfl, by decide, by decide⟩ ⟨Nat.zero_le _, Nat.zero_le _⟩ 1 ⟨rfl, by decide +kernel⟩ rfl [true, true, true, true, true, true] rfl rfl 3 rfl rfl rfl (Nat.le_of_ble_eq_true rfl) rfl dX4_goToNextTick_45 (fun H locs w => ?_)
    refine q_top (y := μ 13 (μ 18 (μ 24 0))) (by rfl) ?_
    have i3 := hI.2.2 (μ 18 (μ 24 0)) i2.1 i2.2
    refine q_icmp_lt (tgt := 55) M dX4_goToNextTick_48 (by decide) (by omega) (fun c48 => ?_) (fun c48 => ?_)
    · have e23 : t23 μ = μ 23 0 := by unfold t23; rw [if_neg (by omega), if_pos (by omega)]
      have e24 : t24 μ = μ 24 0 := by unfold t24; rw [if_neg (by omega), if_pos (by omega)]
      have e25 : t25 μ = (μ 25 0) + 1 := by unfold t25; rw [if_neg (by omega), if_pos (by omega)]
      have e26 : t26 μ = 0 := by unfold t26; rw [if_neg (by omega)]
      have w : wW D A zs.heap (WSb cI a (mset (mset (mset (mset μ 23 (fun _ => t23 μ)) 24 (fun _ => t24 μ)) 25 (fun _ => t25 μ)) 26 (fun _ => t26 μ))) H locs := by rw [e23, e24, e25, e26]; exact w
      exact kret _ _ _ _ dX4_goToNextTick_55 w
    · refine q_aln M dX4_goToNextTick_51 (lv_at hl 0 rfl) ?_
      refine qc_vV (As := []) (rest := []) (wc := WH0 cI a (mset (mset μ 25 (fun _ => (μ 25 0) + 1)) 26 (fun _ => 0))) (wc2 := WH0 cI a (mset (mset (mset (mset μ 23 (fun _ => (if μ 24 0 + 1 < μ 22 0 then 1 else 0))) 24 (fun _ => μ 24 0 + 1)) 25 (fun _ => 0)) 26 (fun _ => 0))) (ws2 := WSb cI a (mset (mset (mset (mset μ 23 (fun _ => (if μ 24 0 + 1 < μ 22 0 then 1 else 0))) 24 (fun _ => μ 24 0 + 1)) 25 (fun _ => 0)) 26 (fun _ => 0))) M w hA hl (k_goToNextSong l D cI cZ cJ a (mset (mset μ 25 (fun _ => (μ 25 0) + 1)) 26 (fun _ => 0)) (by show (0 ≤ μ 22 0 ∧ μ 22 0 ≤ 8) ∧ 0 ≤ μ 24 0 ∧ μ 24 0 < 8; omega)) gX4_goToNextTick_X4_goToNextSong rfl ⟨rfl, rfl, by decide, by decide⟩ ⟨Nat.zero_le _, Nat.zero_le _⟩ 0 ⟨rfl, by decide +kernel⟩ rfl [false, false, false, true] rfl rfl 3 rfl rfl rfl (Nat.le_of_ble_eq_true rfl) rfl dX4_goToNextTick_52 (fun H locs w => ?_)
      have e23 : t23 μ = (if μ 24 0 + 1 < μ 22 0 then 1 else 0) := by unfold t23; rw [if_neg (by omega), if_neg (by omega)]
      have e24 : t24 μ = μ 24 0 + 1 := by unfold t24; rw [if_neg (by omega), if_neg (by omega)]
      have e25 : t25 μ = 0 := by unfold t25; rw [if_neg (by omega), if_neg (by omega)]
      have e26 : t26 μ = 0 := by unfold t26; rw [if_neg (by omega)]
      have w : wW D A zs.heap (WSb cI a (mset (mset (mset (mset μ 23 (fun _ => t23 μ)) 24 (fun _ => t24 μ)) 25 (fun _ => t25 μ)) 26 (fun _ => t26 μ))) H locs := by rw [e23, e24, e25, e26]; exact w
      exact kret _ _ _ _ dX4_goToNextTick_55 w
  · have e23 : t23 μ = μ 23 0 := by unfold t23; rw [if_pos (by omega)]
    have e24 : t24 μ = μ 24 0 := by unfold t24; rw [if_pos (by omega)]
    have e25 : t25 μ = μ 25 0 := by unfold t25; rw [if_pos (by omega)]
    have e26 : t26 μ = (μ 26 0) + 1 := by unfold t26; rw [if_pos (by omega)]
    have w : wW D A zs.heap (WSb cI a (mset (mset (mset (mset μ 23 (fun _ => t23 μ)) 24 (fun _ => t24 μ)) 25 (fun _ => t25 μ)) 26 (fun _ => t26 μ))) H locs := by rw [e23, e24, e25, e26]; exact w
    exact kret _ _ _ _ dX4_goToNextTick_20 w

set_option maxHeartbeats 4000000 in
set_option maxRecDepth 100000 in
/-- Show.codeAhead -/
theorem k_codeAhead (l : Launch) (D : va_G) (cI cZ cJ : ClassId) (a : Nat → Nat) (μ : Nat → Int → Int) (h : Int) (hP : IP μ) (hI : IH μ) (hB : IB μ) (hc : (0 ≤ h ∧ h ≤ 3) ∧ (0 ≤ μ 24 0 ∧ μ 24 0 ≤ μ 22 0) ∧ 0 ≤ μ 25 0 ∧ μ 25 0 < 64) : Ci l D (tY cI cZ cJ) yX4_codeAhead wsX4_codeAhead rmX4_codeAhead [.ref (a 3), .int (iI h)] (WShw cI a μ) (cAh μ h) (WShw cI a μ) := by
  have i1 := hI.1
  refine qi_of (by decide +kernel) rfl (Nat.le_of_ble_eq_true rfl) ?_
  intro zp ze zs zm zargs zbelow zmeth zc A Q ls M hA w hl kret
  have hl : lv_has ls 4 [(0, .ref (a 3)), (1, .int (iI h))] := hl
  have in4 : ∀ w ∈ u_ws RX4 TX4 7, w ∈ wsX4_codeAhead := by decide +kernel
  refine q_aln M dX4_codeAhead_0 (lv_at hl 0 rfl) ?_
  refine q_get (v := .int (iI (μ 24 0))) M w in4 36 4 rfl rfl (by decide) (by decide +kernel) rfl rfl dX4_codeAhead_1 ?_
  refine q_isn (lv' := [(2, .int (iI (μ 24 0))), (0, .ref (a 3)), (1, .int (iI h))]) M dX4_codeAhead_4 rfl hl (by decide) rfl (fun ls hl => ?_)
  refine q_aln M dX4_codeAhead_5 (lv_at hl 1 rfl) ?_
  refine q_get (v := .int (iI (μ 25 0))) M w in4 36 5 rfl rfl (by decide) (by decide +kernel) rfl rfl dX4_codeAhead_6 ?_
  refine q_iln M dX4_codeAhead_9 (lv_at hl 2 rfl) ?_
  refine q_add M dX4_codeAhead_10 ?_
  refine q_isn (lv' := [(3, .int (iI ((μ 25 0) + h))), (2, .int (iI (μ 24 0))), (0, .ref (a 3)), (1, .int (iI h))]) M dX4_codeAhead_11 rfl hl (by decide) rfl (fun ls hl => ?_)
  have lp12 : ∀ (n12 : Nat) (x : Int) (r : Int) (k : Int), (0 ≤ x ∧ x ≤ μ 22 0) → (0 ≤ r ∧ r < 70) → (0 ≤ k ∧ k ≤ x) → (itI (fun _ st => caS μ st) (μ 24 0, μ 25 0 + h) k = (x, r)) → (9 - x : Int) < (n12 : Int) → ∀ (H : Heap) (locs : List Loc) (ls : Array Slot), wW D A zs.heap (WShw cI a μ) H locs → lv_has ls 4 [(0, .ref (a 3)), (1, .int (iI h)), (2, .int (iI x)), (3, .int (iI r))] → W zp l ze rmX4_codeAhead zs zm zargs zbelow zmeth zc H locs 0 0 Q (F0 zm 12 ls []) := by
    intro n12
    induction n12 with
    | zero => intro x r k hj hr hk he hm H locs ls w hl; exfalso; omega
    | succ n12 ih12 =>
      intro x r k hj hr hk he hm12 H locs ls w hl
      refine q_iln M dX4_codeAhead_12 (lv_at hl 2 rfl) ?_
      refine q_aln M dX4_codeAhead_13 (lv_at hl 0 rfl) ?_
      refine q_get (v := .int (iI (μ 22 0))) M w in4 36 2 rfl rfl (by decide) (by decide +kernel) rfl rfl dX4_codeAhead_14 ?_
      refine q_icmp_ge (tgt := 43) M dX4_codeAhead_17 (by decide) (by omega) (fun c17 => ?_) (fun c17 => ?_)
      · have hz : cAt μ h = (x, r) := itI_fix (by omega) he (fun _ => by unfold caS; exact if_neg (fun q => by have := q.1; dsimp only at this; omega))
        refine q_iln M dX4_codeAhead_43 (lv_at hl 2 rfl) ?_
        refine q_aln M dX4_codeAhead_44 (lv_at hl 0 rfl) ?_
        refine q_get (v := .int (iI (μ 22 0))) M w in4 36 2 rfl rfl (by decide) (by decide +kernel) rfl rfl dX4_codeAhead_45 ?_
        refine q_icmp_ge (tgt := 70) M dX4_codeAhead_48 (by decide) (by omega) (fun c48 => ?_) (fun c48 => ?_)
        · refine q_ic M dX4_codeAhead_70 ?_
          exact kret _ _ _ _ _ dX4_codeAhead_71 w (by unfold cAh cAz; rw [hz]; exact (if_neg (by show ¬ x < μ 22 0; omega)).symm)
        · have i4 := hI.2.1 x hj.1 c48
          have i6 := hI.2.2 (μ 18 x) i4.1 i4.2
          have i5 := hB (μ 18 x) r i4.1 i4.2 hr.1 (by omega)
          refine q_aln M dX4_codeAhead_51 (lv_at hl 0 rfl) ?_
          refine q_get (v := .ref (a 2)) M w in4 36 0 rfl rfl (by decide) (by decide +kernel) rfl rfl dX4_codeAhead_52 ?_
          refine q_aln M dX4_codeAhead_55 (lv_at hl 0 rfl) ?_
          refine q_get (v := .ref (a 46)) M w in4 36 1 rfl rfl (by decide) (by decide +kernel) rfl rfl dX4_codeAhead_56 ?_
          refine q_iln M dX4_codeAhead_59 (lv_at hl 2 rfl) ?_
          refine qc_iV (As := [.int (iI x)]) (rest := [.ref (a 2)]) (wc := WRow cI (a 46) (a 47) 8 (μ 18)) (wc2 := WRow cI (a 46) (a 47) 8 (μ 18)) (ws2 := WShw cI a μ) M w hA hl (k_get l D cI cZ cJ _ _ _ _ x (by omega)) gX4_codeAhead_X3_get rfl ⟨rfl, rfl, by decide, by decide⟩ ⟨Nat.zero_le _, Nat.zero_le _⟩ 1 ⟨rfl, by decide +kernel⟩ rfl [false, false, false, false, false, false, false, false, false, false, false, false, false, false, false, false, false, false, false, false, false, false, false, false, false, false, false, false, false, false, false, false, false, false, false, false, false, true, true] rfl rfl 37 rfl rfl rfl (Nat.le_of_ble_eq_true rfl) rfl dX4_codeAhead_60 (fun H locs w => ?_)
          refine q_iln M dX4_codeAhead_63 (lv_at hl 3 rfl) ?_
          refine qc_iV (As := [.int (iI ((μ 18) x)), .int (iI r)]) (rest := []) (wc := WSng cI a μ (μ 13) (μ 14) (μ 15) (μ 16) (μ 17)) (wc2 := WSng cI a μ (μ 13) (μ 14) (μ 15) (μ 16) (μ 17)) (ws2 := WShw cI a μ) M w hA hl (k_codeOf l D cI cZ cJ a μ (μ 13) (μ 14) (μ 15) (μ 16) (μ 17) ((μ 18) x) r hP (by omega)) gX4_codeAhead_X5_codeOf rfl ⟨rfl, rfl, by decide, by decide⟩ ⟨Nat.zero_le _, Nat.zero_le _⟩ 2 ⟨rfl, by decide +kernel⟩ rfl [true, true, true, true, true, true, true, true, true, true, true, true, true, true, true, true, true, true, true, true, true, true, true, true, true, true, true, true, true, true, true, true, true, true, true, true] rfl rfl 15 rfl rfl rfl (Nat.le_of_ble_eq_true rfl) rfl dX4_codeAhead_64 (fun H locs w => ?_)
          refine q_go (tgt := 71) M dX4_codeAhead_67 (by decide) ?_
          exact kret _ _ _ _ _ dX4_codeAhead_71 w (by unfold cAh cAz; rw [hz]; exact (if_pos c48).symm)
      · have i2 := hI.2.1 x hj.1 c17
        refine q_iln M dX4_codeAhead_20 (lv_at hl 3 rfl) ?_
        refine q_aln M dX4_codeAhead_21 (lv_at hl 0 rfl) ?_
        refine q_iln M dX4_codeAhead_22 (lv_at hl 2 rfl) ?_
        refine qc_iV (As := [.int (iI x)]) (rest := [.int (iI r)]) (wc := WSb cI a μ) (wc2 := WSb cI a μ) (ws2 := WShw cI a μ) M w hA hl (k_barsAt l D cI cZ cJ a μ x (by omega)) gX4_codeAhead_X4_barsAt rfl ⟨rfl, rfl, by decide, by decide⟩ ⟨Nat.zero_le _, Nat.zero_le _⟩ 1 ⟨rfl, by decide +kernel⟩ rfl [false, false, false, false, false, false, false, false, false, false, false, false, false, false, false, true, false, false, false, false, false, false, false, false, false, false, true, true, false, false, false, false, false, false, false, false, true, true, true] rfl rfl 36 rfl rfl rfl (Nat.le_of_ble_eq_true rfl) rfl dX4_codeAhead_23 (fun H locs w => ?_)
        have i3 := hI.2.2 (μ 18 x) i2.1 i2.2
        refine q_icmp_lt (tgt := 43) M dX4_codeAhead_26 (by decide) (by omega) (fun c26 => ?_) (fun c26 => ?_)
        · have hz : cAt μ h = (x, r) := itI_fix (by omega) he (fun _ => by unfold caS; exact if_neg (fun q => by have := q.2; dsimp only at this; omega))
          refine q_iln M dX4_codeAhead_43 (lv_at hl 2 rfl) ?_
          refine q_aln M dX4_codeAhead_44 (lv_at hl 0 rfl) ?_
          refine q_get (v := .int (iI (μ 22 0))) M w in4 36 2 rfl rfl (by decide) (by decide +kernel) rfl rfl dX4_codeAhead_45 ?_
          refine q_icmp_ge (tgt := 70) M dX4_codeAhead_48 (by decide) (by omega) (fun c48 => ?_) (fun c48 => ?_)
          · refine q_ic M dX4_codeAhead_70 ?_
            exact kret _ _ _ _ _ dX4_codeAhead_71 w (by unfold cAh cAz; rw [hz]; exact (if_neg (by show ¬ x < μ 22 0; omega)).symm)
          · have i4 := hI.2.1 x hj.1 c48
            have i6 := hI.2.2 (μ 18 x) i4.1 i4.2
            have i5 := hB (μ 18 x) r i4.1 i4.2 hr.1 (by omega)
            refine q_aln M dX4_codeAhead_51 (lv_at hl 0 rfl) ?_
            refine q_get (v := .ref (a 2)) M w in4 36 0 rfl rfl (by decide) (by decide +kernel) rfl rfl dX4_codeAhead_52 ?_
            refine q_aln M dX4_codeAhead_55 (lv_at hl 0 rfl) ?_
            refine q_get (v := .ref (a 46)) M w in4 36 1 rfl rfl (by decide) (by decide +kernel) rfl rfl dX4_codeAhead_56 ?_
            refine q_iln M dX4_codeAhead_59 (lv_at hl 2 rfl) ?_
            refine qc_iV (As := [.int (iI x)]) (rest := [.ref (a 2)]) (wc := WRow cI (a 46) (a 47) 8 (μ 18)) (wc2 := WRow cI (a 46) (a 47) 8 (μ 18)) (ws2 := WShw cI a μ) M w hA hl (k_get l D cI cZ cJ _ _ _ _ x (by omega)) gX4_codeAhead_X3_get rfl ⟨rfl, rfl, by decide, by decide⟩ ⟨Nat.zero_le _, Nat.zero_le _⟩ 1 ⟨rfl, by decide +kernel⟩ rfl [false, false, false, false, false, false, false, false, false, false, false, false, false, false, false, false, false, false, false, false, false, false, false, false, false, false, false, false, false, false, false, false, false, false, false, false, false, true, true] rfl rfl 37 rfl rfl rfl (Nat.le_of_ble_eq_true rfl) rfl dX4_codeAhead_60 (fun H locs w => ?_)
            refine q_iln M dX4_codeAhead_63 (lv_at hl 3 rfl) ?_
            refine qc_iV (As := [.int (iI ((μ 18) x)), .int (iI r)]) (rest := []) (wc := WSng cI a μ (μ 13) (μ 14) (μ 15) (μ 16) (μ 17)) (wc2 := WSng cI a μ (μ 13) (μ 14) (μ 15) (μ 16) (μ 17)) (ws2 := WShw cI a μ) M w hA hl (k_codeOf l D cI cZ cJ a μ (μ 13) (μ 14) (μ 15) (μ 16) (μ 17) ((μ 18) x) r hP (by omega)) gX4_codeAhead_X5_codeOf rfl ⟨rfl, rfl, by decide, by decide⟩ ⟨Nat.zero_le _, Nat.zero_le _⟩ 2 ⟨rfl, by decide +kernel⟩ rfl [true, true, true, true, true, true, true, true, true, true, true, true, true, true, true, true, true, true, true, true, true, true, true, true, true, true, true, true, true, true, true, true, true, true, true, true] rfl rfl 15 rfl rfl rfl (Nat.le_of_ble_eq_true rfl) rfl dX4_codeAhead_64 (fun H locs w => ?_)
            refine q_go (tgt := 71) M dX4_codeAhead_67 (by decide) ?_
            exact kret _ _ _ _ _ dX4_codeAhead_71 w (by unfold cAh cAz; rw [hz]; exact (if_pos c48).symm)
        · refine q_iln M dX4_codeAhead_29 (lv_at hl 3 rfl) ?_
          refine q_aln M dX4_codeAhead_30 (lv_at hl 0 rfl) ?_
          refine q_iln M dX4_codeAhead_31 (lv_at hl 2 rfl) ?_
          refine qc_iV (As := [.int (iI x)]) (rest := [.int (iI r)]) (wc := WSb cI a μ) (wc2 := WSb cI a μ) (ws2 := WShw cI a μ) M w hA hl (k_barsAt l D cI cZ cJ a μ x (by omega)) gX4_codeAhead_X4_barsAt rfl ⟨rfl, rfl, by decide, by decide⟩ ⟨Nat.zero_le _, Nat.zero_le _⟩ 1 ⟨rfl, by decide +kernel⟩ rfl [false, false, false, false, false, false, false, false, false, false, false, false, false, false, false, true, false, false, false, false, false, false, false, false, false, false, true, true, false, false, false, false, false, false, false, false, true, true, true] rfl rfl 36 rfl rfl rfl (Nat.le_of_ble_eq_true rfl) rfl dX4_codeAhead_32 (fun H locs w => ?_)
          refine q_sub M dX4_codeAhead_35 ?_
          refine q_isn (lv' := [(3, .int (iI (r - (μ 13 (μ 18 x))))), (0, .ref (a 3)), (1, .int (iI h)), (2, .int (iI x))]) M dX4_codeAhead_36 rfl hl (by decide) rfl (fun ls hl => ?_)
          refine q_inc (z := x) (lv' := [(2, .int (iI (x + 1))), (3, .int (iI (r - (μ 13 (μ 18 x))))), (0, .ref (a 3)), (1, .int (iI h))]) M dX4_codeAhead_37 hl (k := 3) rfl (by decide) rfl (fun ls hl => ?_)
          refine q_go (tgt := 12) M dX4_codeAhead_40 (by decide) ?_
          have he2 : itI (fun _ st => caS μ st) (μ 24 0, μ 25 0 + h) (k + 1) = (x + 1, r - μ 13 (μ 18 x)) := by rw [itI_s _ _ hk.1, he]; unfold caS; exact if_pos ⟨c17, by show μ 13 (μ 18 x) ≤ r; omega⟩
          exact ih12 (x + 1) (r - μ 13 (μ 18 x)) (k + 1) (by omega) (by omega) (by omega) he2 (by omega) _ _ _ w (lv_sub hl [2, 3, 0, 1] rfl)
  exact lp12 10 (μ 24 0) (μ 25 0 + h) 0 (by omega) (by omega) (by omega) (itI_0 _ _) (by omega) _ _ _ w (lv_sub hl [2, 3, 1, 0] rfl)
