set_option maxHeartbeats 4000000 in
set_option maxRecDepth 100000 in
/-- Arrays.fill -/
theorem k_fill (l : Launch) (D : va_G) (cI cZ cJ : ClassId) (b2 n : Nat) (f : Int → Int) (v : Int) (hn : (n : Int) < 2147483648) : Cv l D (tY cI cZ cJ) yJ7_fill_53178 wsJ7_fill_53178 rmJ7_fill_53178 [.ref b2, .int (iI v)] (WArr cI b2 n f) (WArr cI b2 n (fun _ => v)) := by
  refine qv_of (by decide +kernel) rfl (Nat.le_of_ble_eq_true rfl) ?_
  intro zp ze zs zm zargs zbelow zmeth zc A Q ls M hA w hl kret
  have hl : lv_has ls 4 [(0, .ref b2), (1, .int (iI v))] := hl
  refine q_ic M dJ7_fill_53178_0 ?_
  refine q_isn (lv' := [(2, .int (iI 0)), (0, .ref b2), (1, .int (iI v))]) M dJ7_fill_53178_1 rfl hl (by decide) rfl (fun ls hl => ?_)
  refine q_aln M dJ7_fill_53178_2 (lv_at hl 1 rfl) ?_
  refine q_alen M w 0 0 rfl rfl dJ7_fill_53178_3 ?_
  refine q_isn (lv' := [(3, .int (iI ((n : Nat) : Int))), (2, .int (iI 0)), (0, .ref b2), (1, .int (iI v))]) M dJ7_fill_53178_4 rfl hl (by decide) rfl (fun ls hl => ?_)
  have lp5 : ∀ (n5 : Nat) (i : Int) (g : Int → Int), (0 ≤ i ∧ i ≤ n) → (∀ j : Int, 0 ≤ j → j < i → g j = v) → (n - i : Int) < (n5 : Int) → ∀ (H : Heap) (locs : List Loc) (ls : Array Slot), wW D A zs.heap (WArr cI b2 n g) H locs → lv_has ls 4 [(0, .ref b2), (1, .int (iI v)), (2, .int (iI i)), (3, .int (iI ((n : Nat) : Int)))] → W zp l ze rmJ7_fill_53178 zs zm zargs zbelow zmeth zc H locs 0 0 Q (F0 zm 5 ls []) := by
    intro n5
    induction n5 with
    | zero => intro i g h1 h2 hm H locs ls w hl; exfalso; omega
    | succ n5 ih5 =>
      intro i g h1 h2 hm5 H locs ls w hl
      refine q_iln M dJ7_fill_53178_5 (lv_at hl 2 rfl) ?_
      refine q_iln M dJ7_fill_53178_6 (lv_at hl 3 rfl) ?_
      refine q_icmp_ge (tgt := 20) M dJ7_fill_53178_7 (by decide) (by omega) (fun c7 => ?_) (fun c7 => ?_)
      · have w := WArr_cong (g := fun _ => v) w (fun j h3 h4 => h2 j h3 (by omega))
        exact kret _ _ _ _ dJ7_fill_53178_20 w
      · refine q_aln M dJ7_fill_53178_10 (lv_at hl 0 rfl) ?_
        refine q_iln M dJ7_fill_53178_11 (lv_at hl 2 rfl) ?_
        refine q_iln M dJ7_fill_53178_12 (lv_at hl 1 rfl) ?_
        refine q_iast (f := g) (ws2 := WArr cI b2 n (iU g i v)) M w 0 0 rfl rfl (by omega) rfl dJ7_fill_53178_13 (fun H locs w => ?_)
        refine q_inc (z := i) (lv' := [(2, .int (iI (i + 1))), (0, .ref b2), (1, .int (iI v)), (3, .int (iI ((n : Nat) : Int)))]) M dJ7_fill_53178_14 hl (k := 2) rfl (by decide) rfl (fun ls hl => ?_)
        refine q_go (tgt := 5) M dJ7_fill_53178_17 (by decide) ?_
        exact ih5 (i + 1) (iU g i v) (by omega) (iU_fill h2) (by omega) _ _ _ w (lv_sub hl [1, 2, 0, 3] rfl)
  exact lp5 (n + 1) 0 f (by omega) (by intro j h1 h2; omega) (by omega) _ _ _ w (lv_sub hl [2, 3, 1, 0] rfl)

set_option maxHeartbeats 4000000 in
set_option maxRecDepth 100000 in
/-- Row.get -/
theorem k_get (l : Launch) (D : va_G) (cI cZ cJ : ClassId) (b b2 n : Nat) (f : Int → Int) (i : Int) (hi : (0 ≤ i ∧ i < n) ∧ (n : Int) < 2147483648) : Ci l D (tY cI cZ cJ) yX3_get wsX3_get rmX3_get [.ref b, .int (iI i)] (WRow cI b b2 n f) (f i) (WRow cI b b2 n f) := by
  refine qi_of (by decide +kernel) rfl (Nat.le_of_ble_eq_true rfl) ?_
  intro zp ze zs zm zargs zbelow zmeth zc A Q ls M hA w hl kret
  have hl : lv_has ls 2 [(0, .ref b), (1, .int (iI i))] := hl
  have in3 : ∀ w ∈ u_ws RX3 TX3 1, w ∈ wsX3_get := by decide +kernel
  refine q_iln M dX3_get_0 (lv_at hl 1 rfl) ?_
  refine q_if_lt (tgt := 22) M dX3_get_1 (by decide) (by omega) (fun c1 => ?_) (fun c1 => ?_)
  · exfalso; omega
  · refine q_iln M dX3_get_4 (lv_at hl 1 rfl) ?_
    refine q_aln M dX3_get_5 (lv_at hl 0 rfl) ?_
    refine q_get (v := .ref b2) M w in3 0 0 rfl rfl (by decide) (by decide +kernel) rfl rfl dX3_get_6 ?_
    refine q_alen M w 1 0 rfl rfl dX3_get_9 ?_
    refine q_icmp_ge (tgt := 22) M dX3_get_10 (by decide) (by omega) (fun c10 => ?_) (fun c10 => ?_)
    · exfalso; omega
    · refine q_aln M dX3_get_13 (lv_at hl 0 rfl) ?_
      refine q_get (v := .ref b2) M w in3 0 0 rfl rfl (by decide) (by decide +kernel) rfl rfl dX3_get_14 ?_
      refine q_iln M dX3_get_17 (lv_at hl 1 rfl) ?_
      refine q_iald (f := f) M w 1 0 rfl rfl (by omega) dX3_get_18 ?_
      refine q_go (tgt := 23) M dX3_get_19 (by decide) ?_
      exact kret _ _ _ _ _ dX3_get_23 w rfl

set_option maxHeartbeats 4000000 in
set_option maxRecDepth 100000 in
/-- Row.replace -/
theorem k_replace (l : Launch) (D : va_G) (cI cZ cJ : ClassId) (b b2 n : Nat) (f : Int → Int) (i v : Int) (hi : (0 ≤ i ∧ i < n) ∧ (n : Int) < 2147483648) : Ci l D (tY cI cZ cJ) yX3_replace wsX3_replace rmX3_replace [.ref b, .int (iI i), .int (iI v)] (WRow cI b b2 n f) (f i) (WRow cI b b2 n (iU f i v)) := by
  refine qi_of (by decide +kernel) rfl (Nat.le_of_ble_eq_true rfl) ?_
  intro zp ze zs zm zargs zbelow zmeth zc A Q ls M hA w hl kret
  have hl : lv_has ls 4 [(0, .ref b), (1, .int (iI i)), (2, .int (iI v))] := hl
  have in3 : ∀ w ∈ u_ws RX3 TX3 1, w ∈ wsX3_replace := by decide +kernel
  refine q_iln M dX3_replace_0 (lv_at hl 1 rfl) ?_
  refine q_if_lt (tgt := 13) M dX3_replace_1 (by decide) (by omega) (fun c1 => ?_) (fun c1 => ?_)
  · exfalso; omega
  · refine q_iln M dX3_replace_4 (lv_at hl 1 rfl) ?_
    refine q_aln M dX3_replace_5 (lv_at hl 0 rfl) ?_
    refine q_get (v := .ref b2) M w in3 0 0 rfl rfl (by decide) (by decide +kernel) rfl rfl dX3_replace_6 ?_
    refine q_alen M w 1 0 rfl rfl dX3_replace_9 ?_
    refine q_icmp_lt (tgt := 15) M dX3_replace_10 (by decide) (by omega) (fun c10 => ?_) (fun c10 => ?_)
    · refine q_aln M dX3_replace_15 (lv_at hl 0 rfl) ?_
      refine q_get (v := .ref b2) M w in3 0 0 rfl rfl (by decide) (by decide +kernel) rfl rfl dX3_replace_16 ?_
      refine q_iln M dX3_replace_19 (lv_at hl 1 rfl) ?_
      refine q_iald (f := f) M w 1 0 rfl rfl (by omega) dX3_replace_20 ?_
      refine q_isn (lv' := [(3, .int (iI (f i))), (0, .ref b), (1, .int (iI i)), (2, .int (iI v))]) M dX3_replace_21 rfl hl (by decide) rfl (fun ls hl => ?_)
      refine q_aln M dX3_replace_22 (lv_at hl 1 rfl) ?_
      refine q_get (v := .ref b2) M w in3 0 0 rfl rfl (by decide) (by decide +kernel) rfl rfl dX3_replace_23 ?_
      refine q_iln M dX3_replace_26 (lv_at hl 2 rfl) ?_
      refine q_iln M dX3_replace_27 (lv_at hl 3 rfl) ?_
      refine q_iast (f := f) (ws2 := WRow cI b b2 n (iU f i v)) M w 1 0 rfl rfl (by omega) rfl dX3_replace_28 (fun H locs w => ?_)
      refine q_iln M dX3_replace_29 (lv_at hl 0 rfl) ?_
      exact kret _ _ _ _ _ dX3_replace_30 w rfl
    · exfalso; omega

set_option maxHeartbeats 4000000 in
set_option maxRecDepth 100000 in
/-- Row.setAll -/
theorem k_setAll (l : Launch) (D : va_G) (cI cZ cJ : ClassId) (b b2 n : Nat) (f : Int → Int) (v : Int) (hi : (n : Int) < 2147483648) : Cv l D (tY cI cZ cJ) yX3_setAll wsX3_setAll rmX3_setAll [.ref b, .int (iI v)] (WRow cI b b2 n f) (WRow cI b b2 n (fun _ => v)) := by
  refine qv_of (by decide +kernel) rfl (Nat.le_of_ble_eq_true rfl) ?_
  intro zp ze zs zm zargs zbelow zmeth zc A Q ls M hA w hl kret
  have hl : lv_has ls 2 [(0, .ref b), (1, .int (iI v))] := hl
  have in3 : ∀ w ∈ u_ws RX3 TX3 1, w ∈ wsX3_setAll := by decide +kernel
  refine q_aln M dX3_setAll_0 (lv_at hl 0 rfl) ?_
  refine q_get (v := .ref b2) M w in3 0 0 rfl rfl (by decide) (by decide +kernel) rfl rfl dX3_setAll_1 ?_
  refine q_iln M dX3_setAll_4 (lv_at hl 1 rfl) ?_
  refine qc_vS (As := [.ref b2, .int (iI v)]) (rest := []) (wc := WArr cI b2 n f) (wc2 := WArr cI b2 n (fun _ => v)) (ws2 := WRow cI b b2 n (fun _ => v)) M w hA hl (k_fill l D cI cZ cJ b2 n f v (by omega)) gX3_setAll_J7_fill_53178 rfl ⟨rfl, rfl, by decide, by decide⟩ ⟨Nat.zero_le _, Nat.zero_le _⟩ 2 (by decide +kernel) rfl [false, true] rfl rfl rfl (Nat.le_of_ble_eq_true rfl) rfl dX3_setAll_5 (fun H locs w => ?_)
  exact kret _ _ _ _ dX3_setAll_8 w
