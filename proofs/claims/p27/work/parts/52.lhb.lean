/-! THE LAW: low, has, begins, uses -/
set_option maxHeartbeats 4000000 in
set_option maxRecDepth 100000 in
theorem k_low (l : Launch) (D : va_G) (cI cZ cJ : ClassId) (v n : Int) (hn : 0 < n ∧ n < 2147483648) : Ke l D (tY cI cZ cJ) yL_low wsL_low rmL_low [.int (iI v), .int (iI n)] ([]) (fun (z : Int) (_ : Unit) => 0 ≤ z ∧ z < n) (fun _ => []) := by
  refine ke_of (by decide +kernel) rfl (Nat.le_of_ble_eq_true rfl) ?_
  intro zp ze zs zm zargs zbelow zmeth zc A Q ls M hA w hl kret
  have hl : lv_has ls 2 [(0, .int (iI v)), (1, .int (iI n))] := hl
  refine q_iln M dL_low_0 (lv_at hl 0 rfl) ?_
  refine q_ldc (n := 2147483647) M (by decide +kernel) dL_low_1 ?_
  refine q_and M dL_low_3 ?_
  refine q_iln M dL_low_4 (lv_at hl 1 rfl) ?_
  have ha := anI_p v
  refine q_rem M dL_low_5 (by omega) ?_
  exact kret _ _ _ _ _ () dL_low_6 w (⟨Int.emod_nonneg _ (by omega), Int.emod_lt_of_pos _ (by omega)⟩)

set_option maxHeartbeats 4000000 in
set_option maxRecDepth 100000 in
theorem k_has (l : Launch) (D : va_G) (cI cZ cJ : ClassId) (o : Nat → Nat) (κ : Nat → Int → Int) (b t s : Int) (hb : 0 ≤ b ∧ b < 24) (hb2 : b % 8 / 2 < 3) (ht : 0 ≤ t ∧ t < 4) (hs : 0 ≤ s ∧ s < 16) : Ci l D (tY cI cZ cJ) yL_has wsL_has rmL_has [.int (iI b), .int (iI t), .int (iI s), .ref (o 0), .ref (o 1), .ref (o 2), .ref (o 3)] (WLhas cI o κ) (hF κ b t s) (WLhas cI o κ) := by
  refine qi_of (by decide +kernel) rfl (Nat.le_of_ble_eq_true rfl) ?_
  intro zp ze zs zm zargs zbelow zmeth zc A Q ls M hA w hl kret
  have hl : lv_has ls 9 [(0, .int (iI b)), (1, .int (iI t)), (2, .int (iI s)), (3, .ref (o 0)), (4, .ref (o 1)), (5, .ref (o 2)), (6, .ref (o 3))] := hl
  refine q_iln M dL_has_0 (lv_at hl 0 rfl) ?_
  refine q_bp M dL_has_1 (by decide +kernel) ?_
  refine q_rem M dL_has_3 (by omega) ?_
  refine q_ic M dL_has_4 ?_
  refine q_div M dL_has_5 (by omega) ?_
  refine q_is (lv' := [(7, .int (iI ((b % 8) / 2))), (0, .int (iI b)), (1, .int (iI t)), (2, .int (iI s)), (3, .ref (o 0)), (4, .ref (o 1)), (5, .ref (o 2)), (6, .ref (o 3))]) M dL_has_6 hl (by decide) rfl (fun ls hl => ?_)
  refine q_bp M dL_has_8 (by decide +kernel) ?_
  refine q_iln M dL_has_10 (lv_at hl 2 rfl) ?_
  refine q_mul M dL_has_11 ?_
  refine q_iln M dL_has_12 (lv_at hl 3 rfl) ?_
  refine q_add M dL_has_13 ?_
  refine q_is (lv' := [(8, .int (iI ((16 * t) + s))), (7, .int (iI ((b % 8) / 2))), (0, .int (iI b)), (1, .int (iI t)), (2, .int (iI s)), (3, .ref (o 0)), (4, .ref (o 1)), (5, .ref (o 2)), (6, .ref (o 3))]) M dL_has_14 hl (by decide) rfl (fun ls hl => ?_)
  refine q_iln M dL_has_16 (lv_at hl 2 rfl) ?_
  refine q_ic M dL_has_17 ?_
  refine q_rem M dL_has_18 (by omega) ?_
  refine q_ic M dL_has_19 ?_
  refine q_icmp_ne (tgt := 49) M dL_has_20 (by decide) (by omega) (fun c20 => ?_) (fun c20 => ?_)
  · refine q_il M dL_has_49 (lv_at hl 1 rfl) ?_
    refine q_if_ne (tgt := 61) M dL_has_51 (by decide) (by omega) (fun c51 => ?_) (fun c51 => ?_)
    · refine q_il M dL_has_61 (lv_at hl 1 rfl) ?_
      refine q_ic M dL_has_63 ?_
      refine q_icmp_ne (tgt := 75) M dL_has_64 (by decide) (by omega) (fun c64 => ?_) (fun c64 => ?_)
      · refine q_al M dL_has_75 (lv_at hl 7 rfl) ?_
        refine q_il M dL_has_77 (lv_at hl 0 rfl) ?_
        refine q_iald (f := κ 2) M w 2 0 rfl rfl (by omega) dL_has_79 ?_
        exact kret _ _ _ _ _ dL_has_80 w (by unfold hF; first | rw [if_pos (by omega)] | rw [if_neg (by omega), if_pos (by omega)] | rw [if_neg (by omega), if_neg (by omega), if_pos (by omega)] | rw [if_neg (by omega), if_neg (by omega), if_neg (by omega)])
      · refine q_al M dL_has_67 (lv_at hl 6 rfl) ?_
        refine q_il M dL_has_69 (lv_at hl 0 rfl) ?_
        refine q_iald (f := κ 1) M w 1 0 rfl rfl (by omega) dL_has_71 ?_
        refine q_go (tgt := 80) M dL_has_72 (by decide) ?_
        exact kret _ _ _ _ _ dL_has_80 w (by unfold hF; first | rw [if_pos (by omega)] | rw [if_neg (by omega), if_pos (by omega)] | rw [if_neg (by omega), if_neg (by omega), if_pos (by omega)] | rw [if_neg (by omega), if_neg (by omega), if_neg (by omega)])
    · refine q_aln M dL_has_54 (lv_at hl 5 rfl) ?_
      refine q_il M dL_has_55 (lv_at hl 0 rfl) ?_
      refine q_iald (f := κ 0) M w 0 0 rfl rfl (by omega) dL_has_57 ?_
      refine q_go (tgt := 80) M dL_has_58 (by decide) ?_
      exact kret _ _ _ _ _ dL_has_80 w (by unfold hF; first | rw [if_pos (by omega)] | rw [if_neg (by omega), if_pos (by omega)] | rw [if_neg (by omega), if_neg (by omega), if_pos (by omega)] | rw [if_neg (by omega), if_neg (by omega), if_neg (by omega)])
  · refine q_iln M dL_has_23 (lv_at hl 4 rfl) ?_
    refine q_bp M dL_has_24 (by decide +kernel) ?_
    refine q_icmp_le (tgt := 49) M dL_has_26 (by decide) (by omega) (fun c26 => ?_) (fun c26 => ?_)
    · refine q_il M dL_has_49 (lv_at hl 1 rfl) ?_
      refine q_if_ne (tgt := 61) M dL_has_51 (by decide) (by omega) (fun c51 => ?_) (fun c51 => ?_)
      · refine q_il M dL_has_61 (lv_at hl 1 rfl) ?_
        refine q_ic M dL_has_63 ?_
        refine q_icmp_ne (tgt := 75) M dL_has_64 (by decide) (by omega) (fun c64 => ?_) (fun c64 => ?_)
        · refine q_al M dL_has_75 (lv_at hl 7 rfl) ?_
          refine q_il M dL_has_77 (lv_at hl 0 rfl) ?_
          refine q_iald (f := κ 2) M w 2 0 rfl rfl (by omega) dL_has_79 ?_
          exact kret _ _ _ _ _ dL_has_80 w (by unfold hF; first | rw [if_pos (by omega)] | rw [if_neg (by omega), if_pos (by omega)] | rw [if_neg (by omega), if_neg (by omega), if_pos (by omega)] | rw [if_neg (by omega), if_neg (by omega), if_neg (by omega)])
        · refine q_al M dL_has_67 (lv_at hl 6 rfl) ?_
          refine q_il M dL_has_69 (lv_at hl 0 rfl) ?_
          refine q_iald (f := κ 1) M w 1 0 rfl rfl (by omega) dL_has_71 ?_
          refine q_go (tgt := 80) M dL_has_72 (by decide) ?_
          exact kret _ _ _ _ _ dL_has_80 w (by unfold hF; first | rw [if_pos (by omega)] | rw [if_neg (by omega), if_pos (by omega)] | rw [if_neg (by omega), if_neg (by omega), if_pos (by omega)] | rw [if_neg (by omega), if_neg (by omega), if_neg (by omega)])
      · refine q_aln M dL_has_54 (lv_at hl 5 rfl) ?_
        refine q_il M dL_has_55 (lv_at hl 0 rfl) ?_
        refine q_iald (f := κ 0) M w 0 0 rfl rfl (by omega) dL_has_57 ?_
        refine q_go (tgt := 80) M dL_has_58 (by decide) ?_
        exact kret _ _ _ _ _ dL_has_80 w (by unfold hF; first | rw [if_pos (by omega)] | rw [if_neg (by omega), if_pos (by omega)] | rw [if_neg (by omega), if_neg (by omega), if_pos (by omega)] | rw [if_neg (by omega), if_neg (by omega), if_neg (by omega)])
    · refine q_al M dL_has_29 (lv_at hl 8 rfl) ?_
      refine q_bp M dL_has_31 (by decide +kernel) ?_
      refine q_il M dL_has_33 (lv_at hl 1 rfl) ?_
      refine q_mul M dL_has_35 ?_
      refine q_ic M dL_has_36 ?_
      refine q_iln M dL_has_37 (lv_at hl 3 rfl) ?_
      refine q_mul M dL_has_38 ?_
      refine q_add M dL_has_39 ?_
      refine q_iln M dL_has_40 (lv_at hl 4 rfl) ?_
      refine q_add M dL_has_41 ?_
      refine q_bp M dL_has_42 (by decide +kernel) ?_
      refine q_sub M dL_has_44 ?_
      refine q_iald (f := κ 3) M w 3 0 rfl rfl (by omega) dL_has_45 ?_
      refine q_go (tgt := 80) M dL_has_46 (by decide) ?_
      exact kret _ _ _ _ _ dL_has_80 w (by unfold hF; first | rw [if_pos (by omega)] | rw [if_neg (by omega), if_pos (by omega)] | rw [if_neg (by omega), if_neg (by omega), if_pos (by omega)] | rw [if_neg (by omega), if_neg (by omega), if_neg (by omega)])

set_option maxHeartbeats 4000000 in
set_option maxRecDepth 100000 in
theorem k_begins (l : Launch) (D : va_G) (cI cZ cJ : ClassId) (o : Nat → Nat) (κ : Nat → Int → Int) (b s : Int) (hb : 0 ≤ b ∧ b < 24) (hs : 0 ≤ s ∧ s < 16) : Ci l D (tY cI cZ cJ) yL_begins wsL_begins rmL_begins [.int (iI b), .int (iI s), .ref (o 4)] (WLbeg cI o κ) (hB κ b s) (WLbeg cI o κ) := by
  refine qi_of (by decide +kernel) rfl (Nat.le_of_ble_eq_true rfl) ?_
  intro zp ze zs zm zargs zbelow zmeth zc A Q ls M hA w hl kret
  have hl : lv_has ls 3 [(0, .int (iI b)), (1, .int (iI s)), (2, .ref (o 4))] := hl
  refine q_bp M dL_begins_0 (by decide +kernel) ?_
  refine q_iln M dL_begins_2 (lv_at hl 1 rfl) ?_
  refine q_mul M dL_begins_3 ?_
  refine q_iln M dL_begins_4 (lv_at hl 1 rfl) ?_
  refine q_ic M dL_begins_5 ?_
  refine q_and M dL_begins_6 ?_
  refine q_top (y := s % 2) (by exact anI_1 s) ?_
  refine q_aln M dL_begins_7 (lv_at hl 2 rfl) ?_
  refine q_iln M dL_begins_8 (lv_at hl 0 rfl) ?_
  refine q_bp M dL_begins_9 (by decide +kernel) ?_
  refine q_rem M dL_begins_11 (by omega) ?_
  refine q_ic M dL_begins_12 ?_
  refine q_div M dL_begins_13 (by omega) ?_
  refine q_iald (f := κ 4) M w 0 0 rfl rfl (by omega) dL_begins_14 ?_
  refine q_mul M dL_begins_15 ?_
  refine q_add M dL_begins_16 ?_
  exact kret _ _ _ _ _ dL_begins_17 w rfl

set_option maxHeartbeats 4000000 in
set_option maxRecDepth 100000 in
theorem k_uses (l : Launch) (D : va_G) (cI cZ cJ : ClassId) (o : Nat → Nat) (κ : Nat → Int → Int) (ν : Nat → Int → Int) (hU : UH ν κ) : Kv l D (tY cI cZ cJ) yL_uses wsL_uses rmL_uses [.ref (o 0), .ref (o 1), .ref (o 2), .ref (o 3), .ref (o 4), .ref (o 8), .ref (o 9), .ref (o 10)] (WLuse cI o κ) (fun (g : Int → Int) => uI ν κ g 64) (fun g => WLuse cI o (mset κ 9 g)) := by
  obtain ⟨hIP, hnow, ht24, h14, hLA, ⟨hg18, hq1⟩, ⟨hq2, hq3⟩, hLC⟩ := hU
  refine kv_of (by decide +kernel) rfl (Nat.le_of_ble_eq_true rfl) ?_
  intro zp ze zs zm zargs zbelow zmeth zc A Q ls M hA w hl kret
  have hl : lv_has ls 13 [(0, .ref (o 0)), (1, .ref (o 1)), (2, .ref (o 2)), (3, .ref (o 3)), (4, .ref (o 4)), (5, .ref (o 8)), (6, .ref (o 9)), (7, .ref (o 10))] := hl
  refine q_bp M dL_uses_0 (by decide +kernel) ?_
  refine q_is (lv' := [(8, .int (iI 8)), (0, .ref (o 0)), (1, .ref (o 1)), (2, .ref (o 2)), (3, .ref (o 3)), (4, .ref (o 4)), (5, .ref (o 8)), (6, .ref (o 9)), (7, .ref (o 10))]) M dL_uses_2 hl (by decide) rfl (fun ls hl => ?_)
  have lp4 : ∀ (n4 : Nat) (k : Int) (g : Int → Int), (8 ≤ k ∧ k ≤ 16) → (∀ j, 0 ≤ j → j < 8 → g j = κ 9 j) → (∀ j, 8 ≤ j → j < k → g j = 1000000) → (16 - k : Int) < (n4 : Int) → ∀ (H : Heap) (locs : List Loc) (ls : Array Slot), wW D A zs.heap (WLuse cI o (mset κ 9 g)) H locs → lv_has ls 13 [(0, .ref (o 0)), (1, .ref (o 1)), (2, .ref (o 2)), (3, .ref (o 3)), (4, .ref (o 4)), (5, .ref (o 8)), (6, .ref (o 9)), (7, .ref (o 10)), (8, .int (iI k))] → W zp l ze rmL_uses zs zm zargs zbelow zmeth zc H locs 0 0 Q (F0 zm 4 ls []) := by
    intro n4
    induction n4 with
    | zero => intro k g hk hg1 hg2 hm H locs ls w hl; exfalso; omega
    | succ n4 ih4 =>
      intro k g hk hg1 hg2 hm4 H locs ls w hl
      refine q_il M dL_uses_4 (lv_at hl 8 rfl) ?_
      refine q_bp M dL_uses_6 (by decide +kernel) ?_
      refine q_icmp_ge (tgt := 24) M dL_uses_8 (by decide) (by omega) (fun c8 => ?_) (fun c8 => ?_)
      · refine q_al M dL_uses_24 (lv_at hl 5 rfl) ?_
        refine q_ic M dL_uses_26 ?_
        refine q_iald (f := κ 8) M w 5 0 rfl rfl (by omega) dL_uses_27 ?_
        refine q_top (y := ν 23 0) (by exact hq2) ?_
        refine q_ic M dL_uses_28 ?_
        refine q_add M dL_uses_29 ?_
        refine q_is (lv' := [(8, .int (iI ((ν 23 0) + 3))), (0, .ref (o 0)), (1, .ref (o 1)), (2, .ref (o 2)), (3, .ref (o 3)), (4, .ref (o 4)), (5, .ref (o 8)), (6, .ref (o 9)), (7, .ref (o 10))]) M dL_uses_30 hl (by decide) rfl (fun ls hl => ?_)
        have lp32 : ∀ (n32 : Nat) (b : Int) (g : Int → Int), (ν 23 0 - 1 ≤ b ∧ b ≤ ν 23 0 + 3) → (uI ν κ g (16 * (3 - (b - ν 23 0)))) → (b - ν 23 0 + 1 : Int) < (n32 : Int) → ∀ (H : Heap) (locs : List Loc) (ls : Array Slot), wW D A zs.heap (WLuse cI o (mset κ 9 g)) H locs → lv_has ls 13 [(0, .ref (o 0)), (1, .ref (o 1)), (2, .ref (o 2)), (3, .ref (o 3)), (4, .ref (o 4)), (5, .ref (o 8)), (6, .ref (o 9)), (7, .ref (o 10)), (8, .int (iI b))] → W zp l ze rmL_uses zs zm zargs zbelow zmeth zc H locs 0 0 Q (F0 zm 32 ls []) := by
          intro n32
          induction n32 with
          | zero => intro b g hb hg hm H locs ls w hl; exfalso; omega
          | succ n32 ih32 =>
            intro b g hb hg hm32 H locs ls w hl
            refine q_il M dL_uses_32 (lv_at hl 8 rfl) ?_
            refine q_al M dL_uses_34 (lv_at hl 5 rfl) ?_
            refine q_ic M dL_uses_36 ?_
            refine q_iald (f := κ 8) M w 5 0 rfl rfl (by omega) dL_uses_37 ?_
            refine q_top (y := ν 23 0) (by exact hq2) ?_
            refine q_icmp_lt (tgt := 173) M dL_uses_38 (by decide) (by omega) (fun c38 => ?_) (fun c38 => ?_)
            · exact kret _ _ _ _ g dL_uses_173 w (by have hg := hg; rw [show 16 * (3 - (b - ν 23 0)) = 64 by omega] at hg; exact hg)
            · refine q_bp M dL_uses_41 (by decide +kernel) ?_
              refine q_is (lv' := [(9, .int (iI 15)), (0, .ref (o 0)), (1, .ref (o 1)), (2, .ref (o 2)), (3, .ref (o 3)), (4, .ref (o 4)), (5, .ref (o 8)), (6, .ref (o 9)), (7, .ref (o 10)), (8, .int (iI b))]) M dL_uses_43 hl (by decide) rfl (fun ls hl => ?_)
              have lp45 : ∀ (n45 : Nat) (x : Int) (g2 : Int → Int), (-1 ≤ x ∧ x ≤ 15) → (uI ν κ g2 (16 * (3 - (b - ν 23 0)) + (15 - x))) → (x + 1 : Int) < (n45 : Int) → ∀ (H : Heap) (locs : List Loc) (ls : Array Slot), wW D A zs.heap (WLuse cI o (mset κ 9 g2)) H locs → lv_has ls 13 [(0, .ref (o 0)), (1, .ref (o 1)), (2, .ref (o 2)), (3, .ref (o 3)), (4, .ref (o 4)), (5, .ref (o 8)), (6, .ref (o 9)), (7, .ref (o 10)), (8, .int (iI b)), (9, .int (iI x))] → W zp l ze rmL_uses zs zm zargs zbelow zmeth zc H locs 0 0 Q (F0 zm 45 ls []) := by
                intro n45
                induction n45 with
                | zero => intro x g2 hx hg2 hm H locs ls w hl; exfalso; omega
                | succ n45 ih45 =>
                  intro x g2 hx hg2 hm45 H locs ls w hl
                  refine q_il M dL_uses_45 (lv_at hl 9 rfl) ?_
                  refine q_if_lt (tgt := 167) M dL_uses_47 (by decide) (by omega) (fun c47 => ?_) (fun c47 => ?_)
                  · have hgb : uI ν κ g2 (16 * (3 - (b + -1 - ν 23 0))) := by
                     rw [show 16 * (3 - (b + -1 - ν 23 0)) = 16 * (3 - (b - ν 23 0)) + (15 - x) by omega]; exact hg2
                    refine q_inc (z := b) (lv' := [(8, .int (iI (b + (-1)))), (0, .ref (o 0)), (1, .ref (o 1)), (2, .ref (o 2)), (3, .ref (o 3)), (4, .ref (o 4)), (5, .ref (o 8)), (6, .ref (o 9)), (7, .ref (o 10)), (9, .int (iI x))]) M dL_uses_167 hl (k := 8) rfl (by decide) rfl (fun ls hl => ?_)
                    refine q_go (tgt := 32) M dL_uses_170 (by decide) ?_
                    exact ih32 (b + -1) g2 (by omega) hgb (by omega) _ _ _ w (lv_sub hl [1, 2, 3, 4, 5, 6, 7, 8, 0] rfl)
                  · refine q_il M dL_uses_50 (lv_at hl 8 rfl) ?_
                    refine q_al M dL_uses_52 (lv_at hl 5 rfl) ?_
                    refine q_ic M dL_uses_54 ?_
                    refine q_iald (f := κ 8) M w 5 0 rfl rfl (by omega) dL_uses_55 ?_
                    refine q_top (y := ν 18 (ν 14 0)) (by exact hq1) ?_
                    refine q_icmp_ge (tgt := 167) M dL_uses_56 (by decide) (by omega) (fun c56 => ?_) (fun c56 => ?_)
                    · have hgb : uI ν κ g2 (16 * (3 - (b + -1 - ν 23 0))) := by
                       rw [show 16 * (3 - (b + -1 - ν 23 0)) = 16 * (3 - (b - ν 23 0)) + 16 by omega]
                       refine uI_bar (by omega) (by omega) (x + 1).toNat (by omega) ?_
                       rw [show 16 * (3 - (b - ν 23 0)) + 16 - ((x + 1).toNat : Int) = 16 * (3 - (b - ν 23 0)) + (15 - x) by omega]; exact hg2
                      refine q_inc (z := b) (lv' := [(8, .int (iI (b + (-1)))), (0, .ref (o 0)), (1, .ref (o 1)), (2, .ref (o 2)), (3, .ref (o 3)), (4, .ref (o 4)), (5, .ref (o 8)), (6, .ref (o 9)), (7, .ref (o 10)), (9, .int (iI x))]) M dL_uses_167 hl (k := 8) rfl (by decide) rfl (fun ls hl => ?_)
                      refine q_go (tgt := 32) M dL_uses_170 (by decide) ?_
                      exact ih32 (b + -1) g2 (by omega) hgb (by omega) _ _ _ w (lv_sub hl [1, 2, 3, 4, 5, 6, 7, 8, 0] rfl)
                    · obtain ⟨⟨h16, h17⟩, hr, hr8⟩ := LC_c hLC h14 (i := b) (by omega)
                      have htf := tOf_bd hIP (cB ν b) x
                      refine q_sp M dL_uses_59 (by decide +kernel) ?_
                      refine q_il M dL_uses_62 (lv_at hl 8 rfl) ?_
                      refine q_al M dL_uses_64 (lv_at hl 5 rfl) ?_
                      refine q_ic M dL_uses_66 ?_
                      refine q_iald (f := κ 8) M w 5 0 rfl rfl (by omega) dL_uses_67 ?_
                      refine q_top (y := ν 23 0) (by exact hq2) ?_
                      refine q_sub M dL_uses_68 ?_
                      refine q_mul M dL_uses_69 ?_
                      refine q_al M dL_uses_70 (lv_at hl 7 rfl) ?_
                      refine q_il M dL_uses_72 (lv_at hl 8 rfl) ?_
                      refine q_iald (f := κ 10) M w 7 0 rfl rfl (by omega) dL_uses_74 ?_
                      refine q_il M dL_uses_75 (lv_at hl 9 rfl) ?_
                      refine q_al M dL_uses_77 (lv_at hl 4 rfl) ?_
                      refine qc_iS (As := [.int (iI ((κ 10) b)), .int (iI x), .ref (o 4)]) (rest := [.int (iI (192 * (b - (ν 23 0))))]) (wc := WLbeg cI o κ) (wc2 := WLbeg cI o κ) (ws2 := WLuse cI o (mset κ 9 g2)) M w hA hl (k_begins l D cI cZ cJ o κ ((κ 10) b) x (by omega) (by omega)) gL_uses_L_begins rfl ⟨rfl, rfl, by decide, by decide⟩ ⟨Nat.zero_le _, Nat.zero_le _⟩ 3 (by decide +kernel) rfl [false, false, false, false, true] rfl rfl rfl (Nat.le_of_ble_eq_true rfl) rfl dL_uses_79 (fun H locs w => ?_)
                      refine q_top (y := tOf (vw ν) (cB ν b) x) (by exact hB_tOf hLA hr8 h16 h17) ?_
                      refine q_add M dL_uses_82 ?_
                      refine q_al M dL_uses_83 (lv_at hl 5 rfl) ?_
                      refine q_ic M dL_uses_85 ?_
                      refine q_iald (f := κ 8) M w 5 0 rfl rfl (by omega) dL_uses_86 ?_
                      refine q_top (y := ν 24 0) (by exact hq3) ?_
                      refine q_sub M dL_uses_87 ?_
                      have hlv : nL ν (16 * (b - ν 23 0) + x) = ((192 * (b - (ν 23 0))) + (tOf (vw ν) (cB ν b) x)) - (ν 24 0) := by
                        unfold nL
                        rw [show (16 * (b - ν 23 0) + x) / 16 = b - ν 23 0 by omega, show (16 * (b - ν 23 0) + x) % 16 = x by omega, show ν 23 0 + (b - ν 23 0) = b by omega]
                      have hlb : -200 ≤ ((192 * (b - (ν 23 0))) + (tOf (vw ν) (cB ν b) x)) - (ν 24 0) ∧ ((192 * (b - (ν 23 0))) + (tOf (vw ν) (cB ν b) x)) - (ν 24 0) ≤ 1000 := by omega
                      generalize ((192 * (b - (ν 23 0))) + (tOf (vw ν) (cB ν b) x)) - (ν 24 0) = later at hlv hlb ⊢
                      refine q_is (lv' := [(10, .int (iI later)), (0, .ref (o 0)), (1, .ref (o 1)), (2, .ref (o 2)), (3, .ref (o 3)), (4, .ref (o 4)), (5, .ref (o 8)), (6, .ref (o 9)), (7, .ref (o 10)), (8, .int (iI b)), (9, .int (iI x))]) M dL_uses_88 hl (by decide) rfl (fun ls hl => ?_)
                      refine q_ic M dL_uses_90 ?_
                      refine q_is (lv' := [(11, .int (iI 0)), (10, .int (iI later)), (0, .ref (o 0)), (1, .ref (o 1)), (2, .ref (o 2)), (3, .ref (o 3)), (4, .ref (o 4)), (5, .ref (o 8)), (6, .ref (o 9)), (7, .ref (o 10)), (8, .int (iI b)), (9, .int (iI x))]) M dL_uses_91 hl (by decide) rfl (fun ls hl => ?_)
                      have lp93 : ∀ (n93 : Nat) (t : Int) (g3 : Int → Int), (0 ≤ t ∧ t ≤ 4) → (t = 0 ∨ 0 < later) → (uJ ν κ g3 (63 - (16 * (b - ν 23 0) + x)) later t (cB ν b) x) → (4 - t : Int) < (n93 : Int) → ∀ (H : Heap) (locs : List Loc) (ls : Array Slot), wW D A zs.heap (WLuse cI o (mset κ 9 g3)) H locs → lv_has ls 13 [(0, .ref (o 0)), (1, .ref (o 1)), (2, .ref (o 2)), (3, .ref (o 3)), (4, .ref (o 4)), (5, .ref (o 8)), (6, .ref (o 9)), (7, .ref (o 10)), (8, .int (iI b)), (9, .int (iI x)), (10, .int (iI later)), (11, .int (iI t))] → W zp l ze rmL_uses zs zm zargs zbelow zmeth zc H locs 0 0 Q (F0 zm 93 ls []) := by
                        intro n93
                        induction n93 with
                        | zero => intro t g3 ht hlt hg3 hm H locs ls w hl; exfalso; omega
                        | succ n93 ih93 =>
                          intro t g3 ht hlt hg3 hm93 H locs ls w hl
                          refine q_il M dL_uses_93 (lv_at hl 11 rfl) ?_
                          refine q_ic M dL_uses_95 ?_
                          refine q_icmp_ge (tgt := 161) M dL_uses_96 (by decide) (by omega) (fun c96 => ?_) (fun c96 => ?_)
                          · have hgx : uI ν κ g3 (16 * (3 - (b - ν 23 0)) + (15 - (x + -1))) := by
                             rw [show 16 * (3 - (b - ν 23 0)) + (15 - (x + -1)) = 64 - (16 * (b - ν 23 0) + x) by omega]
                             refine uJ_e (later := later) (t := t) (c := cB ν b) (by omega) (by rw [show (16 * (b - ν 23 0) + x) / 16 = b - ν 23 0 by omega]; omega) hlv (by rw [show (16 * (b - ν 23 0) + x) / 16 = b - ν 23 0 by omega, show ν 23 0 + (b - ν 23 0) = b by omega]) ?_ (by omega)
                             rw [show (16 * (b - ν 23 0) + x) % 16 = x by omega]; exact hg3
                            refine q_inc (z := x) (lv' := [(9, .int (iI (x + (-1)))), (0, .ref (o 0)), (1, .ref (o 1)), (2, .ref (o 2)), (3, .ref (o 3)), (4, .ref (o 4)), (5, .ref (o 8)), (6, .ref (o 9)), (7, .ref (o 10)), (8, .int (iI b)), (10, .int (iI later)), (11, .int (iI t))]) M dL_uses_161 hl (k := 9) rfl (by decide) rfl (fun ls hl => ?_)
                            refine q_go (tgt := 45) M dL_uses_164 (by decide) ?_
                            exact ih45 (x + -1) g3 (by omega) hgx (by omega) _ _ _ w (lv_sub hl [1, 2, 3, 4, 5, 6, 7, 8, 9, 0] rfl)
                          · refine q_il M dL_uses_99 (lv_at hl 10 rfl) ?_
                            refine q_if_le (tgt := 161) M dL_uses_101 (by decide) (by omega) (fun c101 => ?_) (fun c101 => ?_)
                            · have hgx : uI ν κ g3 (16 * (3 - (b - ν 23 0)) + (15 - (x + -1))) := by
                               rw [show 16 * (3 - (b - ν 23 0)) + (15 - (x + -1)) = 64 - (16 * (b - ν 23 0) + x) by omega]
                               refine uJ_e (later := later) (t := t) (c := cB ν b) (by omega) (by rw [show (16 * (b - ν 23 0) + x) / 16 = b - ν 23 0 by omega]; omega) hlv (by rw [show (16 * (b - ν 23 0) + x) / 16 = b - ν 23 0 by omega, show ν 23 0 + (b - ν 23 0) = b by omega]) ?_ (by omega)
                               rw [show (16 * (b - ν 23 0) + x) % 16 = x by omega]; exact hg3
                              refine q_inc (z := x) (lv' := [(9, .int (iI (x + (-1)))), (0, .ref (o 0)), (1, .ref (o 1)), (2, .ref (o 2)), (3, .ref (o 3)), (4, .ref (o 4)), (5, .ref (o 8)), (6, .ref (o 9)), (7, .ref (o 10)), (8, .int (iI b)), (10, .int (iI later)), (11, .int (iI t))]) M dL_uses_161 hl (k := 9) rfl (by decide) rfl (fun ls hl => ?_)
                              refine q_go (tgt := 45) M dL_uses_164 (by decide) ?_
                              exact ih45 (x + -1) g3 (by omega) hgx (by omega) _ _ _ w (lv_sub hl [1, 2, 3, 4, 5, 6, 7, 8, 9, 0] rfl)
                            · refine q_al M dL_uses_104 (lv_at hl 7 rfl) ?_
                              refine q_il M dL_uses_106 (lv_at hl 8 rfl) ?_
                              refine q_iald (f := κ 10) M w 7 0 rfl rfl (by omega) dL_uses_108 ?_
                              refine q_il M dL_uses_109 (lv_at hl 11 rfl) ?_
                              refine q_il M dL_uses_111 (lv_at hl 9 rfl) ?_
                              refine q_aln M dL_uses_113 (lv_at hl 0 rfl) ?_
                              refine q_aln M dL_uses_114 (lv_at hl 1 rfl) ?_
                              refine q_aln M dL_uses_115 (lv_at hl 2 rfl) ?_
                              refine q_aln M dL_uses_116 (lv_at hl 3 rfl) ?_
                              refine qc_iS (As := [.int (iI ((κ 10) b)), .int (iI t), .int (iI x), .ref (o 0), .ref (o 1), .ref (o 2), .ref (o 3)]) (rest := []) (wc := WLhas cI o κ) (wc2 := WLhas cI o κ) (ws2 := WLuse cI o (mset κ 9 g3)) M w hA hl (k_has l D cI cZ cJ o κ ((κ 10) b) t x (by omega) (by omega) (by omega) (by omega)) gL_uses_L_has rfl ⟨rfl, rfl, by decide, by decide⟩ ⟨Nat.zero_le _, Nat.zero_le _⟩ 7 (by decide +kernel) rfl [true, true, true, true] rfl rfl rfl (Nat.le_of_ble_eq_true rfl) rfl dL_uses_117 (fun H locs w => ?_)
                              refine q_top (y := sA (vw ν) (cB ν b) t x + 1) (by exact hF_sA hLA hr8 h16 h17 (by omega) (by omega)) ?_
                              have hsb := sA_bd hIP (cB ν b) t x
                              refine q_is (lv' := [(12, .int (iI (sA (vw ν) (cB ν b) t x + 1))), (0, .ref (o 0)), (1, .ref (o 1)), (2, .ref (o 2)), (3, .ref (o 3)), (4, .ref (o 4)), (5, .ref (o 8)), (6, .ref (o 9)), (7, .ref (o 10)), (8, .int (iI b)), (9, .int (iI x)), (10, .int (iI later)), (11, .int (iI t))]) M dL_uses_120 hl (by decide) rfl (fun ls hl => ?_)
                              refine q_al M dL_uses_122 (lv_at hl 7 rfl) ?_
                              refine q_il M dL_uses_124 (lv_at hl 0 rfl) ?_
                              refine q_if_ne (tgt := 134) M dL_uses_126 (by decide) (by omega) (fun c126 => ?_) (fun c126 => ?_)
                              · refine q_bp M dL_uses_134 (by decide +kernel) ?_
                                refine q_il M dL_uses_136 (lv_at hl 0 rfl) ?_
                                refine q_add M dL_uses_138 ?_
                                refine q_il M dL_uses_139 (lv_at hl 0 rfl) ?_
                                refine q_if_ne (tgt := 152) M dL_uses_141 (by decide) (by omega) (fun c141 => ?_) (fun c141 => ?_)
                                · refine q_il M dL_uses_152 (lv_at hl 11 rfl) ?_
                                  refine q_iast (f := g3) (ws2 := WLuse cI o (mset κ 9 (iU g3 (7 + (sA (vw ν) (cB ν b) t x + 1)) later))) M w 6 0 rfl rfl (by omega) rfl dL_uses_154 (fun H locs w => ?_)
                                  refine q_inc (z := t) (lv' := [(11, .int (iI (t + 1))), (12, .int (iI (sA (vw ν) (cB ν b) t x + 1))), (0, .ref (o 0)), (1, .ref (o 1)), (2, .ref (o 2)), (3, .ref (o 3)), (4, .ref (o 4)), (5, .ref (o 8)), (6, .ref (o 9)), (7, .ref (o 10)), (8, .int (iI b)), (9, .int (iI x)), (10, .int (iI later))]) M dL_uses_155 hl (k := 12) rfl (by decide) rfl (fun ls hl => ?_)
                                  refine q_go (tgt := 93) M dL_uses_158 (by decide) ?_
                                  exact ih93 (t + 1) _ (by omega) (Or.inr (by omega)) (uJ_s (by omega) hg3 rfl (by omega)) (by omega) _ _ _ w (lv_sub hl [2, 3, 4, 5, 6, 7, 8, 9, 10, 11, 12, 0] rfl)
                                · exfalso; omega
                              · refine q_bp M dL_uses_129 (by decide +kernel) ?_
                                refine q_go (tgt := 139) M dL_uses_131 (by decide) ?_
                                refine q_il M dL_uses_139 (lv_at hl 0 rfl) ?_
                                refine q_if_ne (tgt := 152) M dL_uses_141 (by decide) (by omega) (fun c141 => ?_) (fun c141 => ?_)
                                · exfalso; omega
                                · refine q_al M dL_uses_144 (lv_at hl 7 rfl) ?_
                                  refine q_bp M dL_uses_146 (by decide +kernel) ?_
                                  refine q_iald (f := g3) M w 6 0 rfl rfl (by omega) dL_uses_148 ?_
                                  refine q_go (tgt := 154) M dL_uses_149 (by decide) ?_
                                  refine q_iast (f := g3) (ws2 := WLuse cI o (mset κ 9 (iU g3 8 (g3 8)))) M w 6 0 rfl rfl (by omega) rfl dL_uses_154 (fun H locs w => ?_)
                                  refine q_inc (z := t) (lv' := [(11, .int (iI (t + 1))), (12, .int (iI (sA (vw ν) (cB ν b) t x + 1))), (0, .ref (o 0)), (1, .ref (o 1)), (2, .ref (o 2)), (3, .ref (o 3)), (4, .ref (o 4)), (5, .ref (o 8)), (6, .ref (o 9)), (7, .ref (o 10)), (8, .int (iI b)), (9, .int (iI x)), (10, .int (iI later))]) M dL_uses_155 hl (k := 12) rfl (by decide) rfl (fun ls hl => ?_)
                                  refine q_go (tgt := 93) M dL_uses_158 (by decide) ?_
                                  exact ih93 (t + 1) _ (by omega) (Or.inr (by omega)) (by rw [iU_self]; exact uJ_n hg3 (by omega)) (by omega) _ _ _ w (lv_sub hl [2, 3, 4, 5, 6, 7, 8, 9, 10, 11, 12, 0] rfl)
                      exact lp93 5 0 g2 (by omega) (Or.inl rfl) (by rw [show 63 - (16 * (b - ν 23 0) + x) = 16 * (3 - (b - ν 23 0)) + (15 - x) by omega]; exact uJ_0 hg2 _ _ _) (by omega) _ _ _ w (lv_sub hl [2, 3, 4, 5, 6, 7, 8, 9, 10, 11, 1, 0] rfl)
              exact lp45 17 15 g (by omega) (by rw [show 16 * (3 - (b - ν 23 0)) + (15 - 15) = 16 * (3 - (b - ν 23 0)) by omega]; exact hg) (by omega) _ _ _ w (lv_sub hl [1, 2, 3, 4, 5, 6, 7, 8, 9, 0] rfl)
        exact lp32 6 (ν 23 0 + 3) g (by omega) (by rw [show 16 * (3 - (ν 23 0 + 3 - ν 23 0)) = 0 by omega]; exact uI_0 hg1 (fun j h1 h2 => hg2 j h1 (by omega))) (by omega) _ _ _ w (lv_sub hl [1, 2, 3, 4, 5, 6, 7, 8, 0] rfl)
      · refine q_al M dL_uses_11 (lv_at hl 6 rfl) ?_
        refine q_il M dL_uses_13 (lv_at hl 8 rfl) ?_
        refine q_ldc (n := 1000000) M (by decide +kernel) dL_uses_15 ?_
        refine q_iast (f := g) (ws2 := WLuse cI o (mset κ 9 (iU g k 1000000))) M w 6 0 rfl rfl (by omega) rfl dL_uses_17 (fun H locs w => ?_)
        refine q_inc (z := k) (lv' := [(8, .int (iI (k + 1))), (0, .ref (o 0)), (1, .ref (o 1)), (2, .ref (o 2)), (3, .ref (o 3)), (4, .ref (o 4)), (5, .ref (o 8)), (6, .ref (o 9)), (7, .ref (o 10))]) M dL_uses_18 hl (k := 8) rfl (by decide) rfl (fun ls hl => ?_)
        refine q_go (tgt := 4) M dL_uses_21 (by decide) ?_
        exact ih4 (k + 1) (iU g k 1000000) (by omega) (fun j h1 h2 => by rw [iU_n g _ (by omega)]; exact hg1 j h1 h2) (fun j h1 h2 => (Decidable.em (j = k)).elim (fun q => by rw [q]; exact iU_s g k _) (fun q => (iU_n g _ q).trans (hg2 j h1 (by omega)))) (by omega) _ _ _ w (lv_sub hl [1, 2, 3, 4, 5, 6, 7, 8, 0] rfl)
  exact lp4 9 8 (κ 9) (by omega) (fun _ _ _ => rfl) (fun j h1 h2 => by omega) (by omega) _ _ _ w (lv_sub hl [1, 2, 3, 4, 5, 6, 7, 8, 0] rfl)
