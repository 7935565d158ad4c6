/-! THE LAW'S ACTS: steps -/
theorem can_cs {μ ν κ : Nat → Int → Int} (h : Rel μ ν) (hL : LR ν κ) : (μ 23 0 = 0 ∧ ν 21 0 = 0 ∧ κ 8 1 = 0) ∨ (μ 23 0 = 1 ∧ ν 21 0 = 1 ∧ κ 8 1 = ν 18 (ν 14 0) ∧ (0 < ν 18 (ν 14 0) ∧ ν 18 (ν 14 0) ≤ 64) ∧ κ 8 2 = ν 23 0 ∧ κ 8 3 = ν 24 0 ∧ 0 ≤ ν 23 0 ∧ ν 23 0 < ν 18 (ν 14 0)) := by
  have e := h.2.2.2.1.2.2.2.1
  obtain ⟨-, -, -, -, -, h0, h1⟩ := hL
  rcases h.2.2.2.1.2.2.2.2 with q | q
  · exact Or.inl ⟨q, by omega, h0 (by omega)⟩
  · obtain ⟨⟨a1, a2⟩, ⟨a3, a4⟩, -⟩ := h1 (by omega)
    obtain ⟨⟨n1, n2⟩, -⟩ := Rel_now h q
    exact Or.inr ⟨q, by omega, a2, ⟨by omega, a1⟩, a3, a4, n1, n2⟩
theorem LR_st0 {ν κ : Nat → Int → Int} {A B C F : Int → Int} (h : LR ν κ) (hA : ∀ j, A j = κ 0 j) (hB : ∀ j, B j = κ 1 j) (hC : ∀ j, C j = κ 2 j) (hF : ∀ j, F j = κ 3 j) : LR ν (mset (mset (mset (mset κ 0 A) 1 B) 2 C) 3 F) := by
  obtain ⟨⟨h1, h2, h3⟩, h4⟩ := h
  refine ⟨⟨fun k a b => ?_, fun k a b => (hF k).trans (h2 k a b), h3⟩, h4⟩
  obtain ⟨q1, q2, q3⟩ := h1 k a b
  exact ⟨(hA k).trans q1, (hB k).trans q2, (hC k).trans q3⟩
theorem LR_st1 {ν κ : Nat → Int → Int} {A B C F : Int → Int} {p t s v : Int} (h : LR ν κ) (hp : 0 ≤ p ∧ p < 3) (ht : 0 ≤ t ∧ t < 4) (hs : 0 ≤ s ∧ s < 16) (hA : ∀ j, A j = if p = 0 then iU (κ 0) (16 * t + s) v j else κ 0 j) (hB : ∀ j, B j = if p = 1 then iU (κ 1) (16 * t + s) v j else κ 1 j) (hC : ∀ j, C j = if p = 2 then iU (κ 2) (16 * t + s) v j else κ 2 j) (hF : ∀ j, F j = κ 3 j) (g : Int → Int) : LR (mset (mset ν 0 g) 3 (iU (ν 3) ((p * 4 + t) * 16 + s) (v - 1))) (mset (mset (mset (mset κ 0 A) 1 B) 2 C) 3 F) := by
  obtain ⟨⟨h1, h2, h3⟩, h4⟩ := h
  refine ⟨⟨fun k a b => ?_, fun k a b => (hF k).trans (h2 k a b), h3⟩, h4⟩
  obtain ⟨q1, q2, q3⟩ := h1 k a b
  have i0 := iU_0 (ν 3) ((p * 4 + t) * 16 + s) (v - 1) k
  have i1 := iU_0 (ν 3) ((p * 4 + t) * 16 + s) (v - 1) (64 + k)
  have i2 := iU_0 (ν 3) ((p * 4 + t) * 16 + s) (v - 1) (128 + k)
  have j0 := iU_0 (κ 0) (16 * t + s) v k
  have j1 := iU_0 (κ 1) (16 * t + s) v k
  have j2 := iU_0 (κ 2) (16 * t + s) v k
  refine ⟨?_, ?_, ?_⟩
  · show A k = iU (ν 3) ((p * 4 + t) * 16 + s) (v - 1) k + 1
    rw [hA]
    by_cases z : p = 0
    · rw [if_pos z]; omega
    · rw [if_neg z]; omega
  · show B k = iU (ν 3) ((p * 4 + t) * 16 + s) (v - 1) (64 + k) + 1
    rw [hB]
    by_cases z : p = 1
    · rw [if_pos z]; omega
    · rw [if_neg z]; omega
  · show C k = iU (ν 3) ((p * 4 + t) * 16 + s) (v - 1) (128 + k) + 1
    rw [hC]
    by_cases z : p = 2
    · rw [if_pos z]; omega
    · rw [if_neg z]; omega
theorem LR_st2 {ν κ : Nat → Int → Int} {A B C F : Int → Int} {p t s v : Int} (h : LR ν κ) (hA : ∀ j, A j = κ 0 j) (hB : ∀ j, B j = κ 1 j) (hC : ∀ j, C j = κ 2 j) (hF : ∀ j, F j = iU (κ 3) (16 * p + 4 * t + s - 12) v j) (g : Int → Int) : LR (mset (mset ν 0 g) 4 (iU (ν 4) ((p * 4 + t) * 4 + s - 12) (v - 1))) (mset (mset (mset (mset κ 0 A) 1 B) 2 C) 3 F) := by
  obtain ⟨⟨h1, h2, h3⟩, h4⟩ := h
  refine ⟨⟨fun k a b => ?_, fun k a b => ?_, h3⟩, h4⟩
  · obtain ⟨q1, q2, q3⟩ := h1 k a b
    exact ⟨(hA k).trans q1, (hB k).trans q2, (hC k).trans q3⟩
  · show F k = iU (ν 4) ((p * 4 + t) * 4 + s - 12) (v - 1) k + 1
    have i0 := iU_0 (ν 4) ((p * 4 + t) * 4 + s - 12) (v - 1) k
    have j0 := iU_0 (κ 3) (16 * p + 4 * t + s - 12) v k
    have := h2 k a b
    rw [hF]
    omega

set_option maxHeartbeats 4000000 in
set_option maxRecDepth 100000 in
theorem k_steps (l : Launch) (hfl : l.stackTraces = false) (D : va_G) (cI cZ cJ : ClassId) (a o : Nat → Nat) (μ ν κ : Nat → Int → Int) (hR : Rel μ ν) (hL : LR ν κ) (zz : Int) : Le l D (tY cI cZ cJ) yL_steps wsL_steps rmL_steps [.ref (a 0), .int (iI zz), .ref (o 0), .ref (o 1), .ref (o 2), .ref (o 3), .ref (o 8)] (WLstp cI o κ ++ WAll cI a μ) (fun (z : Int) (x : (Int → Int) × (Int → Int) × (Int → Int) × (Int → Int) × (Nat → Int → Int)) => z = 1 ∧ ∃ ν2, Rel x.2.2.2.2 ν2 ∧ LR ν2 (mset (mset (mset (mset κ 0 x.1) 1 x.2.1) 2 x.2.2.1) 3 x.2.2.2.1)) (fun x => WLstp cI o (mset (mset (mset (mset κ 0 x.1) 1 x.2.1) 2 x.2.2.1) 3 x.2.2.2.1) ++ WAll cI a x.2.2.2.2) := by
  have h23 := hR.2.2.2.1.2.2.2.2
  have b22 := hR.2.2.2.1.2.1
  have e22 := hR.2.2.2.1.1
  have hcan := can_cs hR hL
  refine le_of (by decide +kernel) rfl (Nat.le_of_ble_eq_true rfl) (fun _ _ q => Or.inr q.1) ?_
  intro zp ze zs zm zargs zbelow zmeth zc A Q ls M hA w hl hT kret
  have hl : lv_has ls 15 [(0, .ref (a 0)), (1, .int (iI zz)), (2, .ref (o 0)), (3, .ref (o 1)), (4, .ref (o 2)), (5, .ref (o 3)), (6, .ref (o 8))] := hl
  refine q_iln M dL_steps_0 (lv_at hl 1 rfl) ?_
  refine q_ic M dL_steps_1 ?_
  refine qe_iS (As := [.int (iI zz), .int (iI 3)]) (rest := []) (wc := []) (G := fun x2 => WLstp cI o κ ++ WAll cI a μ) M w hA hl (k_low l D cI cZ cJ zz 3 (by omega)) gL_steps_L_low rfl ⟨rfl, rfl, by decide, by decide⟩ ⟨by show 0 ≤ 5; omega, by show 0 ≤ 30; omega⟩ 2 (by decide +kernel) rfl [] rfl (fun _ => rfl) rfl (Nat.le_of_ble_eq_true rfl) (fun _ => rfl) dL_steps_2 (fun z2 x2 h2 H locs w => ?_)
  refine q_is (lv' := [(7, .int (iI z2)), (0, .ref (a 0)), (1, .int (iI zz)), (2, .ref (o 0)), (3, .ref (o 1)), (4, .ref (o 2)), (5, .ref (o 3)), (6, .ref (o 8))]) M dL_steps_5 hl (by decide) rfl (fun ls hl => ?_)
  refine q_iln M dL_steps_7 (lv_at hl 2 rfl) ?_
  refine q_ic M dL_steps_8 ?_
  refine q_shr M dL_steps_9 ?_
  refine q_ic M dL_steps_10 ?_
  refine qe_iS (As := [.int (iI (shR zz 2)), .int (iI 4)]) (rest := []) (wc := []) (G := fun x11 => WLstp cI o κ ++ WAll cI a μ) M w hA hl (k_low l D cI cZ cJ (shR zz 2) 4 (by omega)) gL_steps_L_low rfl ⟨rfl, rfl, by decide, by decide⟩ ⟨by show 0 ≤ 5; omega, by show 0 ≤ 30; omega⟩ 2 (by decide +kernel) rfl [] rfl (fun _ => rfl) rfl (Nat.le_of_ble_eq_true rfl) (fun _ => rfl) dL_steps_11 (fun z11 x11 h11 H locs w => ?_)
  refine q_is (lv' := [(8, .int (iI z11)), (7, .int (iI z2)), (0, .ref (a 0)), (1, .int (iI zz)), (2, .ref (o 0)), (3, .ref (o 1)), (4, .ref (o 2)), (5, .ref (o 3)), (6, .ref (o 8))]) M dL_steps_14 hl (by decide) rfl (fun ls hl => ?_)
  refine q_iln M dL_steps_16 (lv_at hl 3 rfl) ?_
  refine q_ic M dL_steps_17 ?_
  refine q_shr M dL_steps_18 ?_
  refine q_bp M dL_steps_19 (by decide +kernel) ?_
  refine qe_iS (As := [.int (iI (shR zz 4)), .int (iI 16)]) (rest := []) (wc := []) (G := fun x21 => WLstp cI o κ ++ WAll cI a μ) M w hA hl (k_low l D cI cZ cJ (shR zz 4) 16 (by omega)) gL_steps_L_low rfl ⟨rfl, rfl, by decide, by decide⟩ ⟨by show 0 ≤ 5; omega, by show 0 ≤ 30; omega⟩ 2 (by decide +kernel) rfl [] rfl (fun _ => rfl) rfl (Nat.le_of_ble_eq_true rfl) (fun _ => rfl) dL_steps_21 (fun z21 x21 h21 H locs w => ?_)
  refine q_is (lv' := [(9, .int (iI z21)), (8, .int (iI z11)), (7, .int (iI z2)), (0, .ref (a 0)), (1, .int (iI zz)), (2, .ref (o 0)), (3, .ref (o 1)), (4, .ref (o 2)), (5, .ref (o 3)), (6, .ref (o 8))]) M dL_steps_24 hl (by decide) rfl (fun ls hl => ?_)
  refine q_iln M dL_steps_26 (lv_at hl 4 rfl) ?_
  refine q_bp M dL_steps_27 (by decide +kernel) ?_
  refine q_shr M dL_steps_29 ?_
  refine q_iln M dL_steps_30 (lv_at hl 4 rfl) ?_
  refine q_bp M dL_steps_31 (by decide +kernel) ?_
  refine q_shr M dL_steps_33 ?_
  refine q_ic M dL_steps_34 ?_
  refine qe_iS (As := [.int (iI (shR zz 12)), .int (iI 2)]) (rest := [.int (iI (shR zz 7))]) (wc := []) (G := fun x35 => WLstp cI o κ ++ WAll cI a μ) M w hA hl (k_low l D cI cZ cJ (shR zz 12) 2 (by omega)) gL_steps_L_low rfl ⟨rfl, rfl, by decide, by decide⟩ ⟨by show 0 ≤ 5; omega, by show 0 ≤ 30; omega⟩ 2 (by decide +kernel) rfl [] rfl (fun _ => rfl) rfl (Nat.le_of_ble_eq_true rfl) (fun _ => rfl) dL_steps_35 (fun z35 x35 h35 H locs w => ?_)
  have jn38 : ∀ (n9 : Int) (H : Heap) (locs : List Loc) (ls : Array Slot), (0 < n9 ∧ n9 ≤ 9) → wW D A zs.heap (WLstp cI o κ ++ WAll cI a μ) H locs → lv_has ls 15 [(9, .int (iI z21)), (8, .int (iI z11)), (7, .int (iI z2)), (0, .ref (a 0)), (1, .int (iI zz)), (2, .ref (o 0)), (3, .ref (o 1)), (4, .ref (o 2)), (5, .ref (o 3)), (6, .ref (o 8))] → W zp l ze rmL_steps zs zm zargs zbelow zmeth zc H locs 0 0 Q (F0 zm 47 ls [.int (iI n9), .int (iI (shR zz 7))]) := by
    intro n9 H locs ls hn9 w hl
    refine qe_iS (As := [.int (iI (shR zz 7)), .int (iI n9)]) (rest := []) (wc := []) (G := fun x47 => WLstp cI o κ ++ WAll cI a μ) M w hA hl (k_low l D cI cZ cJ (shR zz 7) n9 (by omega)) gL_steps_L_low rfl ⟨rfl, rfl, by decide, by decide⟩ ⟨by show 0 ≤ 5; omega, by show 0 ≤ 30; omega⟩ 2 (by decide +kernel) rfl [] rfl (fun _ => rfl) rfl (Nat.le_of_ble_eq_true rfl) (fun _ => rfl) dL_steps_47 (fun z47 x47 h47 H locs w => ?_)
    refine q_is (lv' := [(10, .int (iI z47)), (9, .int (iI z21)), (8, .int (iI z11)), (7, .int (iI z2)), (0, .ref (a 0)), (1, .int (iI zz)), (2, .ref (o 0)), (3, .ref (o 1)), (4, .ref (o 2)), (5, .ref (o 3)), (6, .ref (o 8))]) M dL_steps_50 hl (by decide) rfl (fun ls hl => ?_)
    refine q_il M dL_steps_52 (lv_at hl 1 rfl) ?_
    refine q_bp M dL_steps_54 (by decide +kernel) ?_
    have jn56 : ∀ (fv : Int) (H : Heap) (locs : List Loc) (ls : Array Slot), (fv = 0 ∨ fv = 1 ∧ 12 ≤ z21) → wW D A zs.heap (WLstp cI o κ ++ WAll cI a μ) H locs → lv_has ls 15 [(10, .int (iI z47)), (9, .int (iI z21)), (8, .int (iI z11)), (7, .int (iI z2)), (0, .ref (a 0)), (1, .int (iI zz)), (2, .ref (o 0)), (3, .ref (o 1)), (4, .ref (o 2)), (5, .ref (o 3)), (6, .ref (o 8))] → W zp l ze rmL_steps zs zm zargs zbelow zmeth zc H locs 0 0 Q (F0 zm 75 ls [.int (iI fv)]) := by
      intro fv H locs ls hfv w hl
      refine q_is (lv' := [(11, .int (iI fv)), (10, .int (iI z47)), (9, .int (iI z21)), (8, .int (iI z11)), (7, .int (iI z2)), (0, .ref (a 0)), (1, .int (iI zz)), (2, .ref (o 0)), (3, .ref (o 1)), (4, .ref (o 2)), (5, .ref (o 3)), (6, .ref (o 8))]) M dL_steps_75 hl (by decide) rfl (fun ls hl => ?_)
      refine q_il M dL_steps_77 (lv_at hl 0 rfl) ?_
      refine q_if_eq (tgt := 101) M dL_steps_79 (by decide) (by omega) (fun c79 => ?_) (fun c79 => ?_)
      · refine q_bp M dL_steps_101 (by decide +kernel) ?_
        refine q_il M dL_steps_103 (lv_at hl 3 rfl) ?_
        refine q_mul M dL_steps_105 ?_
        refine q_il M dL_steps_106 (lv_at hl 2 rfl) ?_
        refine q_add M dL_steps_108 ?_
        refine q_is (lv' := [(12, .int (iI ((16 * z11) + z21))), (11, .int (iI fv)), (10, .int (iI z47)), (9, .int (iI z21)), (8, .int (iI z11)), (7, .int (iI z2)), (0, .ref (a 0)), (1, .int (iI zz)), (2, .ref (o 0)), (3, .ref (o 1)), (4, .ref (o 2)), (5, .ref (o 3)), (6, .ref (o 8))]) M dL_steps_109 hl (by decide) rfl (fun ls hl => ?_)
        refine q_il M dL_steps_111 (lv_at hl 1 rfl) ?_
        refine q_if_eq (tgt := 124) M dL_steps_113 (by decide) (by omega) (fun c113 => ?_) (fun c113 => ?_)
        · refine q_il M dL_steps_124 (lv_at hl 5 rfl) ?_
          refine q_if_ne (tgt := 136) M dL_steps_126 (by decide) (by omega) (fun c126 => ?_) (fun c126 => ?_)
          · refine q_il M dL_steps_136 (lv_at hl 5 rfl) ?_
            refine q_ic M dL_steps_138 ?_
            refine q_icmp_ne (tgt := 149) M dL_steps_139 (by decide) (by omega) (fun c139 => ?_) (fun c139 => ?_)
            · refine q_al M dL_steps_149 (lv_at hl 10 rfl) ?_
              refine q_il M dL_steps_151 (lv_at hl 0 rfl) ?_
              refine q_iald (f := κ 2) M w 2 0 rfl rfl (by omega) dL_steps_153 ?_
              refine q_is (lv' := [(13, .int (iI ((κ 2) ((16 * z11) + z21)))), (12, .int (iI ((16 * z11) + z21))), (11, .int (iI fv)), (10, .int (iI z47)), (9, .int (iI z21)), (8, .int (iI z11)), (7, .int (iI z2)), (0, .ref (a 0)), (1, .int (iI zz)), (2, .ref (o 0)), (3, .ref (o 1)), (4, .ref (o 2)), (5, .ref (o 3)), (6, .ref (o 8))]) M dL_steps_154 hl (by decide) rfl (fun ls hl => ?_)
              refine q_al M dL_steps_156 (lv_at hl 13 rfl) ?_
              refine q_ic M dL_steps_158 ?_
              refine q_iald (f := κ 8) M w 4 0 rfl rfl (by omega) dL_steps_159 ?_
              refine q_if_ne (tgt := 167) M dL_steps_160 (by decide) (by omega) (fun c160 => ?_) (fun c160 => ?_)
              · refine q_ic M dL_steps_167 ?_
                refine q_is (lv' := [(14, .int (iI 0)), (13, .int (iI ((κ 2) ((16 * z11) + z21)))), (12, .int (iI ((16 * z11) + z21))), (11, .int (iI fv)), (10, .int (iI z47)), (9, .int (iI z21)), (8, .int (iI z11)), (7, .int (iI z2)), (0, .ref (a 0)), (1, .int (iI zz)), (2, .ref (o 0)), (3, .ref (o 1)), (4, .ref (o 2)), (5, .ref (o 3)), (6, .ref (o 8))]) M dL_steps_168 hl (by decide) rfl (fun ls hl => ?_)
                refine q_al M dL_steps_170 (lv_at hl 13 rfl) ?_
                refine q_il M dL_steps_172 (lv_at hl 3 rfl) ?_
                refine q_if_eq (tgt := 182) M dL_steps_174 (by decide) (by omega) (fun c174 => ?_) (fun c174 => ?_)
                · refine q_ic M dL_steps_182 ?_
                  refine q_il M dL_steps_183 (lv_at hl 3 rfl) ?_
                  refine q_if_eq (tgt := 198) M dL_steps_185 (by decide) (by omega) (fun c185 => ?_) (fun c185 => ?_)
                  · refine q_al M dL_steps_198 (lv_at hl 13 rfl) ?_
                    refine q_il M dL_steps_200 (lv_at hl 3 rfl) ?_
                    refine q_if_eq (tgt := 210) M dL_steps_202 (by decide) (by omega) (fun c202 => ?_) (fun c202 => ?_)
                    · refine q_ic M dL_steps_210 ?_
                      refine q_iald (f := κ 3) M w 3 0 rfl rfl (by omega) dL_steps_211 ?_
                      refine q_iast (f := κ 3) (ws2 := WLstp cI o (mset κ 3 (iU (κ 3) 0 ((κ 3) 0))) ++ WAll cI a μ) M w 3 0 rfl rfl (by omega) rfl dL_steps_212 (fun H locs w => ?_)
                      refine q_aln M dL_steps_213 (lv_at hl 10 rfl) ?_
                      refine q_il M dL_steps_214 (lv_at hl 3 rfl) ?_
                      refine q_if_eq (tgt := 223) M dL_steps_216 (by decide) (by omega) (fun c216 => ?_) (fun c216 => ?_)
                      · refine q_il M dL_steps_223 (lv_at hl 2 rfl) ?_
                        refine q_il M dL_steps_225 (lv_at hl 3 rfl) ?_
                        refine q_if_ne (tgt := 245) M dL_steps_227 (by decide) (by omega) (fun c227 => ?_) (fun c227 => ?_)
                        · exfalso; omega
                        · refine q_il M dL_steps_230 (lv_at hl 0 rfl) ?_
                          refine q_if_eq (tgt := 245) M dL_steps_232 (by decide) (by omega) (fun c232 => ?_) (fun c232 => ?_)
                          · refine q_aln M dL_steps_245 (lv_at hl 10 rfl) ?_
                            refine q_il M dL_steps_246 (lv_at hl 3 rfl) ?_
                            refine q_if_eq (tgt := 255) M dL_steps_248 (by decide) (by omega) (fun c248 => ?_) (fun c248 => ?_)
                            · refine q_il M dL_steps_255 (lv_at hl 2 rfl) ?_
                              refine q_iald (f := κ 0) M w 0 0 rfl rfl (by omega) dL_steps_257 ?_
                              refine q_iast (f := κ 0) (ws2 := WLstp cI o (mset (mset κ 0 (iU (κ 0) ((16 * z11) + z21) ((κ 0) ((16 * z11) + z21)))) 3 (iU (κ 3) 0 ((κ 3) 0))) ++ WAll cI a μ) M w 0 0 rfl rfl (by omega) rfl dL_steps_258 (fun H locs w => ?_)
                              refine q_aln M dL_steps_259 (lv_at hl 11 rfl) ?_
                              refine q_il M dL_steps_260 (lv_at hl 3 rfl) ?_
                              refine q_if_eq (tgt := 269) M dL_steps_262 (by decide) (by omega) (fun c262 => ?_) (fun c262 => ?_)
                              · refine q_il M dL_steps_269 (lv_at hl 2 rfl) ?_
                                refine q_il M dL_steps_271 (lv_at hl 3 rfl) ?_
                                refine q_if_ne (tgt := 292) M dL_steps_273 (by decide) (by omega) (fun c273 => ?_) (fun c273 => ?_)
                                · exfalso; omega
                                · refine q_il M dL_steps_276 (lv_at hl 0 rfl) ?_
                                  refine q_if_eq (tgt := 292) M dL_steps_278 (by decide) (by omega) (fun c278 => ?_) (fun c278 => ?_)
                                  · refine q_aln M dL_steps_292 (lv_at hl 11 rfl) ?_
                                    refine q_il M dL_steps_293 (lv_at hl 3 rfl) ?_
                                    refine q_if_eq (tgt := 302) M dL_steps_295 (by decide) (by omega) (fun c295 => ?_) (fun c295 => ?_)
                                    · refine q_il M dL_steps_302 (lv_at hl 2 rfl) ?_
                                      refine q_iald (f := κ 1) M w 1 0 rfl rfl (by omega) dL_steps_304 ?_
                                      refine q_iast (f := κ 1) (ws2 := WLstp cI o (mset (mset (mset κ 0 (iU (κ 0) ((16 * z11) + z21) ((κ 0) ((16 * z11) + z21)))) 1 (iU (κ 1) ((16 * z11) + z21) ((κ 1) ((16 * z11) + z21)))) 3 (iU (κ 3) 0 ((κ 3) 0))) ++ WAll cI a μ) M w 1 0 rfl rfl (by omega) rfl dL_steps_305 (fun H locs w => ?_)
                                      refine q_al M dL_steps_306 (lv_at hl 12 rfl) ?_
                                      refine q_il M dL_steps_308 (lv_at hl 3 rfl) ?_
                                      refine q_if_eq (tgt := 317) M dL_steps_310 (by decide) (by omega) (fun c310 => ?_) (fun c310 => ?_)
                                      · refine q_il M dL_steps_317 (lv_at hl 2 rfl) ?_
                                        refine q_il M dL_steps_319 (lv_at hl 3 rfl) ?_
                                        refine q_if_ne (tgt := 340) M dL_steps_321 (by decide) (by omega) (fun c321 => ?_) (fun c321 => ?_)
                                        · exfalso; omega
                                        · refine q_il M dL_steps_324 (lv_at hl 0 rfl) ?_
                                          refine q_if_eq (tgt := 340) M dL_steps_326 (by decide) (by omega) (fun c326 => ?_) (fun c326 => ?_)
                                          · refine q_al M dL_steps_340 (lv_at hl 12 rfl) ?_
                                            refine q_il M dL_steps_342 (lv_at hl 3 rfl) ?_
                                            refine q_if_eq (tgt := 351) M dL_steps_344 (by decide) (by omega) (fun c344 => ?_) (fun c344 => ?_)
                                            · refine q_il M dL_steps_351 (lv_at hl 2 rfl) ?_
                                              refine q_iald (f := κ 2) M w 2 0 rfl rfl (by omega) dL_steps_353 ?_
                                              refine q_iast (f := κ 2) (ws2 := WLstp cI o (mset (mset (mset (mset κ 0 (iU (κ 0) ((16 * z11) + z21) ((κ 0) ((16 * z11) + z21)))) 1 (iU (κ 1) ((16 * z11) + z21) ((κ 1) ((16 * z11) + z21)))) 2 (iU (κ 2) ((16 * z11) + z21) ((κ 2) ((16 * z11) + z21)))) 3 (iU (κ 3) 0 ((κ 3) 0))) ++ WAll cI a μ) M w 2 0 rfl rfl (by omega) rfl dL_steps_354 (fun H locs w => ?_)
                                              refine q_aln M dL_steps_355 (lv_at hl 8 rfl) ?_
                                              refine q_il M dL_steps_356 (lv_at hl 3 rfl) ?_
                                              refine q_if_eq (tgt := 365) M dL_steps_358 (by decide) (by omega) (fun c358 => ?_) (fun c358 => ?_)
                                              · refine q_ic M dL_steps_365 ?_
                                                refine q_il M dL_steps_366 (lv_at hl 7 rfl) ?_
                                                refine q_il M dL_steps_368 (lv_at hl 6 rfl) ?_
                                                refine q_il M dL_steps_370 (lv_at hl 5 rfl) ?_
                                                refine q_il M dL_steps_372 (lv_at hl 4 rfl) ?_
                                                refine q_ic M dL_steps_374 ?_
                                                refine q_sub M dL_steps_375 ?_
                                                refine qc_L (As := [.ref (a 0), .int (iI 1), .int (iI z2), .int (iI z11), .int (iI z21), .int (iI (z47 - 1))]) (rest := []) (wc := WAll cI a μ) (wc2 := WAll cI a μ) (ws2 := WLstp cI o (mset (mset (mset (mset κ 0 (iU (κ 0) ((16 * z11) + z21) ((κ 0) ((16 * z11) + z21)))) 1 (iU (κ 1) ((16 * z11) + z21) ((κ 1) ((16 * z11) + z21)))) 2 (iU (κ 2) ((16 * z11) + z21) ((κ 2) ((16 * z11) + z21)))) 3 (iU (κ 3) 0 ((κ 3) 0))) ++ WAll cI a μ) M w hA hT hl (c_setStep l hfl D cI cZ cJ a μ z2 z11 z21 (z47 - 1) (by omega) (by omega) (by omega) (by omega) h23 (-7) μ (Or.inr ⟨by rw [chk_t (show 0 ≤ z2 ∧ z2 ≤ 11 from by omega), chk_t (show 0 ≤ z11 ∧ z11 ≤ 3 from by omega), chk_t (show 0 ≤ z21 ∧ z21 ≤ 15 from by omega), chk_t (show -1 ≤ (z47 - 1) ∧ (z47 - 1) ≤ 7 from by omega), chk_f (show ¬ (μ 23 0 = 0) from by omega)]; rfl, rfl, rfl⟩)) gL_steps_L_calls rfl ⟨by decide, by decide⟩ ⟨by show 0 + 5 ≤ 5; omega, by show 0 + 30 ≤ 30; omega⟩ 6 (by decide +kernel) rfl [false, false, false, false, false, true, true, true, true, true, true, true, true, true, true, true, true, true, true, true, true, true, true, true, true, true, true, true, true, true, true, true, true, true, true, true, true, true, true, true, true, true, true, true, true, true, true, true, true, true, true, true, true, true, true] rfl rfl rfl (Nat.le_of_ble_eq_true rfl) rfl dL_steps_376 (fun H locs w => ?_)
                                                refine q_il M dL_steps_379 (lv_at hl 0 rfl) ?_
                                                refine q_if_eq (tgt := 391) M dL_steps_381 (by decide) (by omega) (fun c381 => ?_) (fun c381 => ?_)
                                                · refine q_bp M dL_steps_391 (by decide +kernel) ?_
                                                  refine q_icmp_neE (tgt := 400) (x := (-7)) (y := (-7)) M (by rfl) dL_steps_393 (by decide) ?_
                                                  refine q_ic M dL_steps_396 ?_
                                                  refine q_go (tgt := 401) M dL_steps_397 (by decide) ?_
                                                  have hP9 : (1 : Int) = 1 ∧ ∃ ν2, Rel μ ν2 ∧ LR ν2 (mset (mset (mset (mset κ 0 (iU (κ 0) ((16 * z11) + z21) ((κ 0) ((16 * z11) + z21)))) 1 (iU (κ 1) ((16 * z11) + z21) ((κ 1) ((16 * z11) + z21)))) 2 (iU (κ 2) ((16 * z11) + z21) ((κ 2) ((16 * z11) + z21)))) 3 (iU (κ 3) 0 ((κ 3) 0))) := ⟨rfl, ν, hR, LR_st0 hL (fun j => by rw [iU_self]) (fun j => by rw [iU_self]) (fun j => by rw [iU_self]) (fun j => by rw [iU_self])⟩
                                                  exact kret _ _ _ _ _ (iU (κ 0) ((16 * z11) + z21) ((κ 0) ((16 * z11) + z21)), iU (κ 1) ((16 * z11) + z21) ((κ 1) ((16 * z11) + z21)), iU (κ 2) ((16 * z11) + z21) ((κ 2) ((16 * z11) + z21)), iU (κ 3) 0 ((κ 3) 0), μ) _ _ (by decide) (by decide) dL_steps_401 w (hP9)
                                                · exfalso; omega
                                              · exfalso; omega
                                            · exfalso; omega
                                          · exfalso; omega
                                      · exfalso; omega
                                    · exfalso; omega
                                  · exfalso; omega
                              · exfalso; omega
                            · exfalso; omega
                          · exfalso; omega
                      · exfalso; omega
                    · exfalso; omega
                  · exfalso; omega
                · exfalso; omega
              · refine q_ic M dL_steps_163 ?_
                refine q_go (tgt := 168) M dL_steps_164 (by decide) ?_
                refine q_is (lv' := [(14, .int (iI 1)), (13, .int (iI ((κ 2) ((16 * z11) + z21)))), (12, .int (iI ((16 * z11) + z21))), (11, .int (iI fv)), (10, .int (iI z47)), (9, .int (iI z21)), (8, .int (iI z11)), (7, .int (iI z2)), (0, .ref (a 0)), (1, .int (iI zz)), (2, .ref (o 0)), (3, .ref (o 1)), (4, .ref (o 2)), (5, .ref (o 3)), (6, .ref (o 8))]) M dL_steps_168 hl (by decide) rfl (fun ls hl => ?_)
                refine q_al M dL_steps_170 (lv_at hl 13 rfl) ?_
                refine q_il M dL_steps_172 (lv_at hl 3 rfl) ?_
                refine q_if_eq (tgt := 182) M dL_steps_174 (by decide) (by omega) (fun c174 => ?_) (fun c174 => ?_)
                · refine q_ic M dL_steps_182 ?_
                  refine q_il M dL_steps_183 (lv_at hl 3 rfl) ?_
                  refine q_if_eq (tgt := 198) M dL_steps_185 (by decide) (by omega) (fun c185 => ?_) (fun c185 => ?_)
                  · refine q_al M dL_steps_198 (lv_at hl 13 rfl) ?_
                    refine q_il M dL_steps_200 (lv_at hl 3 rfl) ?_
                    refine q_if_eq (tgt := 210) M dL_steps_202 (by decide) (by omega) (fun c202 => ?_) (fun c202 => ?_)
                    · refine q_ic M dL_steps_210 ?_
                      refine q_iald (f := κ 3) M w 3 0 rfl rfl (by omega) dL_steps_211 ?_
                      refine q_iast (f := κ 3) (ws2 := WLstp cI o (mset κ 3 (iU (κ 3) 0 ((κ 3) 0))) ++ WAll cI a μ) M w 3 0 rfl rfl (by omega) rfl dL_steps_212 (fun H locs w => ?_)
                      refine q_aln M dL_steps_213 (lv_at hl 10 rfl) ?_
                      refine q_il M dL_steps_214 (lv_at hl 3 rfl) ?_
                      refine q_if_eq (tgt := 223) M dL_steps_216 (by decide) (by omega) (fun c216 => ?_) (fun c216 => ?_)
                      · refine q_il M dL_steps_223 (lv_at hl 2 rfl) ?_
                        refine q_il M dL_steps_225 (lv_at hl 3 rfl) ?_
                        refine q_if_ne (tgt := 245) M dL_steps_227 (by decide) (by omega) (fun c227 => ?_) (fun c227 => ?_)
                        · exfalso; omega
                        · refine q_il M dL_steps_230 (lv_at hl 0 rfl) ?_
                          refine q_if_eq (tgt := 245) M dL_steps_232 (by decide) (by omega) (fun c232 => ?_) (fun c232 => ?_)
                          · exfalso; omega
                          · refine q_il M dL_steps_235 (lv_at hl 7 rfl) ?_
                            refine q_if_ne (tgt := 245) M dL_steps_237 (by decide) (by omega) (fun c237 => ?_) (fun c237 => ?_)
                            · refine q_aln M dL_steps_245 (lv_at hl 10 rfl) ?_
                              refine q_il M dL_steps_246 (lv_at hl 3 rfl) ?_
                              refine q_if_eq (tgt := 255) M dL_steps_248 (by decide) (by omega) (fun c248 => ?_) (fun c248 => ?_)
                              · refine q_il M dL_steps_255 (lv_at hl 2 rfl) ?_
                                refine q_iald (f := κ 0) M w 0 0 rfl rfl (by omega) dL_steps_257 ?_
                                refine q_iast (f := κ 0) (ws2 := WLstp cI o (mset (mset κ 0 (iU (κ 0) ((16 * z11) + z21) ((κ 0) ((16 * z11) + z21)))) 3 (iU (κ 3) 0 ((κ 3) 0))) ++ WAll cI a μ) M w 0 0 rfl rfl (by omega) rfl dL_steps_258 (fun H locs w => ?_)
                                refine q_aln M dL_steps_259 (lv_at hl 11 rfl) ?_
                                refine q_il M dL_steps_260 (lv_at hl 3 rfl) ?_
                                refine q_if_eq (tgt := 269) M dL_steps_262 (by decide) (by omega) (fun c262 => ?_) (fun c262 => ?_)
                                · refine q_il M dL_steps_269 (lv_at hl 2 rfl) ?_
                                  refine q_il M dL_steps_271 (lv_at hl 3 rfl) ?_
                                  refine q_if_ne (tgt := 292) M dL_steps_273 (by decide) (by omega) (fun c273 => ?_) (fun c273 => ?_)
                                  · exfalso; omega
                                  · refine q_il M dL_steps_276 (lv_at hl 0 rfl) ?_
                                    refine q_if_eq (tgt := 292) M dL_steps_278 (by decide) (by omega) (fun c278 => ?_) (fun c278 => ?_)
                                    · exfalso; omega
                                    · refine q_il M dL_steps_281 (lv_at hl 7 rfl) ?_
                                      refine q_ic M dL_steps_283 ?_
                                      refine q_icmp_ne (tgt := 292) M dL_steps_284 (by decide) (by omega) (fun c284 => ?_) (fun c284 => ?_)
                                      · refine q_aln M dL_steps_292 (lv_at hl 11 rfl) ?_
                                        refine q_il M dL_steps_293 (lv_at hl 3 rfl) ?_
                                        refine q_if_eq (tgt := 302) M dL_steps_295 (by decide) (by omega) (fun c295 => ?_) (fun c295 => ?_)
                                        · refine q_il M dL_steps_302 (lv_at hl 2 rfl) ?_
                                          refine q_iald (f := κ 1) M w 1 0 rfl rfl (by omega) dL_steps_304 ?_
                                          refine q_iast (f := κ 1) (ws2 := WLstp cI o (mset (mset (mset κ 0 (iU (κ 0) ((16 * z11) + z21) ((κ 0) ((16 * z11) + z21)))) 1 (iU (κ 1) ((16 * z11) + z21) ((κ 1) ((16 * z11) + z21)))) 3 (iU (κ 3) 0 ((κ 3) 0))) ++ WAll cI a μ) M w 1 0 rfl rfl (by omega) rfl dL_steps_305 (fun H locs w => ?_)
                                          refine q_al M dL_steps_306 (lv_at hl 12 rfl) ?_
                                          refine q_il M dL_steps_308 (lv_at hl 3 rfl) ?_
                                          refine q_if_eq (tgt := 317) M dL_steps_310 (by decide) (by omega) (fun c310 => ?_) (fun c310 => ?_)
                                          · refine q_il M dL_steps_317 (lv_at hl 2 rfl) ?_
                                            refine q_il M dL_steps_319 (lv_at hl 3 rfl) ?_
                                            refine q_if_ne (tgt := 340) M dL_steps_321 (by decide) (by omega) (fun c321 => ?_) (fun c321 => ?_)
                                            · exfalso; omega
                                            · refine q_il M dL_steps_324 (lv_at hl 0 rfl) ?_
                                              refine q_if_eq (tgt := 340) M dL_steps_326 (by decide) (by omega) (fun c326 => ?_) (fun c326 => ?_)
                                              · exfalso; omega
                                              · refine q_il M dL_steps_329 (lv_at hl 7 rfl) ?_
                                                refine q_ic M dL_steps_331 ?_
                                                refine q_icmp_ne (tgt := 340) M dL_steps_332 (by decide) (by omega) (fun c332 => ?_) (fun c332 => ?_)
                                                · exfalso; omega
                                                · refine q_il M dL_steps_335 (lv_at hl 4 rfl) ?_
                                                  refine q_go (tgt := 354) M dL_steps_337 (by decide) ?_
                                                  refine q_iast (f := κ 2) (ws2 := WLstp cI o (mset (mset (mset (mset κ 0 (iU (κ 0) ((16 * z11) + z21) ((κ 0) ((16 * z11) + z21)))) 1 (iU (κ 1) ((16 * z11) + z21) ((κ 1) ((16 * z11) + z21)))) 2 (iU (κ 2) ((16 * z11) + z21) z47)) 3 (iU (κ 3) 0 ((κ 3) 0))) ++ WAll cI a μ) M w 2 0 rfl rfl (by omega) rfl dL_steps_354 (fun H locs w => ?_)
                                                  refine q_aln M dL_steps_355 (lv_at hl 8 rfl) ?_
                                                  refine q_il M dL_steps_356 (lv_at hl 3 rfl) ?_
                                                  refine q_if_eq (tgt := 365) M dL_steps_358 (by decide) (by omega) (fun c358 => ?_) (fun c358 => ?_)
                                                  · refine q_ic M dL_steps_365 ?_
                                                    refine q_il M dL_steps_366 (lv_at hl 7 rfl) ?_
                                                    refine q_il M dL_steps_368 (lv_at hl 6 rfl) ?_
                                                    refine q_il M dL_steps_370 (lv_at hl 5 rfl) ?_
                                                    refine q_il M dL_steps_372 (lv_at hl 4 rfl) ?_
                                                    refine q_ic M dL_steps_374 ?_
                                                    refine q_sub M dL_steps_375 ?_
                                                    refine qc_L (As := [.ref (a 0), .int (iI 1), .int (iI z2), .int (iI z11), .int (iI z21), .int (iI (z47 - 1))]) (rest := []) (wc := WAll cI a μ) (wc2 := WAll cI a (mset μ 2 (iU (μ 2) ((z2 * 4 + z11) * 16 + z21) (z47 - 1)))) (ws2 := WLstp cI o (mset (mset (mset (mset κ 0 (iU (κ 0) ((16 * z11) + z21) ((κ 0) ((16 * z11) + z21)))) 1 (iU (κ 1) ((16 * z11) + z21) ((κ 1) ((16 * z11) + z21)))) 2 (iU (κ 2) ((16 * z11) + z21) z47)) 3 (iU (κ 3) 0 ((κ 3) 0))) ++ WAll cI a (mset μ 2 (iU (μ 2) ((z2 * 4 + z11) * 16 + z21) (z47 - 1)))) M w hA hT hl (c_setStep l hfl D cI cZ cJ a μ z2 z11 z21 (z47 - 1) (by omega) (by omega) (by omega) (by omega) h23 (μ 2 ((z2 * 4 + z11) * 16 + z21)) (mset μ 2 (iU (μ 2) ((z2 * 4 + z11) * 16 + z21) (z47 - 1))) (Or.inl ⟨by rw [chk_t (show 0 ≤ z2 ∧ z2 ≤ 11 from by omega), chk_t (show 0 ≤ z11 ∧ z11 ≤ 3 from by omega), chk_t (show 0 ≤ z21 ∧ z21 ≤ 15 from by omega), chk_t (show -1 ≤ (z47 - 1) ∧ (z47 - 1) ≤ 7 from by omega), chk_t (show μ 23 0 = 0 from by omega)]; rfl, rfl, rfl⟩)) gL_steps_L_calls rfl ⟨by decide, by decide⟩ ⟨by show 0 + 5 ≤ 5; omega, by show 0 + 30 ≤ 30; omega⟩ 6 (by decide +kernel) rfl [false, false, false, false, false, true, true, true, true, true, true, true, true, true, true, true, true, true, true, true, true, true, true, true, true, true, true, true, true, true, true, true, true, true, true, true, true, true, true, true, true, true, true, true, true, true, true, true, true, true, true, true, true, true, true] rfl rfl rfl (Nat.le_of_ble_eq_true rfl) rfl dL_steps_376 (fun H locs w => ?_)
                                                    refine q_il M dL_steps_379 (lv_at hl 0 rfl) ?_
                                                    refine q_if_eq (tgt := 391) M dL_steps_381 (by decide) (by omega) (fun c381 => ?_) (fun c381 => ?_)
                                                    · exfalso; omega
                                                    · refine q_il M dL_steps_384 (lv_at hl 1 rfl) ?_
                                                      refine q_ic M dL_steps_386 ?_
                                                      refine q_sub M dL_steps_387 ?_
                                                      refine q_go (tgt := 393) M dL_steps_388 (by decide) ?_
                                                      refine q_icmp_neE (tgt := 400) (x := μ 2 ((z2 * 4 + z11) * 16 + z21)) (y := ((κ 2) ((16 * z11) + z21)) - 1) M (by have q1 := congrFun hR.1.1.2.2.1 ((z2 * 4 + z11) * 16 + z21); have q2 := hL.1.1 (16 * z11 + z21) (by omega) (by omega); rw [show (z2 * 4 + z11) * 16 + z21 = 128 + (16 * z11 + z21) by omega] at q1 ⊢; omega) dL_steps_393 (by decide) ?_
                                                      refine q_ic M dL_steps_396 ?_
                                                      refine q_go (tgt := 401) M dL_steps_397 (by decide) ?_
                                                      have hP9 : (1 : Int) = 1 ∧ ∃ ν2, Rel (mset μ 2 (iU (μ 2) ((z2 * 4 + z11) * 16 + z21) (z47 - 1))) ν2 ∧ LR ν2 (mset (mset (mset (mset κ 0 (iU (κ 0) ((16 * z11) + z21) ((κ 0) ((16 * z11) + z21)))) 1 (iU (κ 1) ((16 * z11) + z21) ((κ 1) ((16 * z11) + z21)))) 2 (iU (κ 2) ((16 * z11) + z21) z47)) 3 (iU (κ 3) 0 ((κ 3) 0))) := ⟨rfl, _, Rel_setStep hR (by omega) (by omega), LR_st1 hL (by omega) (by omega) (by omega) (fun j => by rw [if_neg (by omega), iU_self]) (fun j => by rw [if_neg (by omega), iU_self]) (fun j => by rw [if_pos (by omega)]) (fun j => by rw [iU_self]) _⟩
                                                      exact kret _ _ _ _ _ (iU (κ 0) ((16 * z11) + z21) ((κ 0) ((16 * z11) + z21)), iU (κ 1) ((16 * z11) + z21) ((κ 1) ((16 * z11) + z21)), iU (κ 2) ((16 * z11) + z21) z47, iU (κ 3) 0 ((κ 3) 0), (mset μ 2 (iU (μ 2) ((z2 * 4 + z11) * 16 + z21) (z47 - 1)))) _ _ (by decide) (by decide) dL_steps_401 w (hP9)
                                                  · exfalso; omega
                                          · exfalso; omega
                                        · exfalso; omega
                                      · exfalso; omega
                                · exfalso; omega
                              · exfalso; omega
                            · exfalso; omega
                      · exfalso; omega
                    · exfalso; omega
                  · exfalso; omega
                · exfalso; omega
            · refine q_aln M dL_steps_142 (lv_at hl 9 rfl) ?_
              refine q_il M dL_steps_143 (lv_at hl 0 rfl) ?_
              refine q_iald (f := κ 1) M w 1 0 rfl rfl (by omega) dL_steps_145 ?_
              refine q_go (tgt := 154) M dL_steps_146 (by decide) ?_
              refine q_is (lv' := [(13, .int (iI ((κ 1) ((16 * z11) + z21)))), (12, .int (iI ((16 * z11) + z21))), (11, .int (iI fv)), (10, .int (iI z47)), (9, .int (iI z21)), (8, .int (iI z11)), (7, .int (iI z2)), (0, .ref (a 0)), (1, .int (iI zz)), (2, .ref (o 0)), (3, .ref (o 1)), (4, .ref (o 2)), (5, .ref (o 3)), (6, .ref (o 8))]) M dL_steps_154 hl (by decide) rfl (fun ls hl => ?_)
              refine q_al M dL_steps_156 (lv_at hl 13 rfl) ?_
              refine q_ic M dL_steps_158 ?_
              refine q_iald (f := κ 8) M w 4 0 rfl rfl (by omega) dL_steps_159 ?_
              refine q_if_ne (tgt := 167) M dL_steps_160 (by decide) (by omega) (fun c160 => ?_) (fun c160 => ?_)
              · refine q_ic M dL_steps_167 ?_
                refine q_is (lv' := [(14, .int (iI 0)), (13, .int (iI ((κ 1) ((16 * z11) + z21)))), (12, .int (iI ((16 * z11) + z21))), (11, .int (iI fv)), (10, .int (iI z47)), (9, .int (iI z21)), (8, .int (iI z11)), (7, .int (iI z2)), (0, .ref (a 0)), (1, .int (iI zz)), (2, .ref (o 0)), (3, .ref (o 1)), (4, .ref (o 2)), (5, .ref (o 3)), (6, .ref (o 8))]) M dL_steps_168 hl (by decide) rfl (fun ls hl => ?_)
                refine q_al M dL_steps_170 (lv_at hl 13 rfl) ?_
                refine q_il M dL_steps_172 (lv_at hl 3 rfl) ?_
                refine q_if_eq (tgt := 182) M dL_steps_174 (by decide) (by omega) (fun c174 => ?_) (fun c174 => ?_)
                · refine q_ic M dL_steps_182 ?_
                  refine q_il M dL_steps_183 (lv_at hl 3 rfl) ?_
                  refine q_if_eq (tgt := 198) M dL_steps_185 (by decide) (by omega) (fun c185 => ?_) (fun c185 => ?_)
                  · refine q_al M dL_steps_198 (lv_at hl 13 rfl) ?_
                    refine q_il M dL_steps_200 (lv_at hl 3 rfl) ?_
                    refine q_if_eq (tgt := 210) M dL_steps_202 (by decide) (by omega) (fun c202 => ?_) (fun c202 => ?_)
                    · refine q_ic M dL_steps_210 ?_
                      refine q_iald (f := κ 3) M w 3 0 rfl rfl (by omega) dL_steps_211 ?_
                      refine q_iast (f := κ 3) (ws2 := WLstp cI o (mset κ 3 (iU (κ 3) 0 ((κ 3) 0))) ++ WAll cI a μ) M w 3 0 rfl rfl (by omega) rfl dL_steps_212 (fun H locs w => ?_)
                      refine q_aln M dL_steps_213 (lv_at hl 10 rfl) ?_
                      refine q_il M dL_steps_214 (lv_at hl 3 rfl) ?_
                      refine q_if_eq (tgt := 223) M dL_steps_216 (by decide) (by omega) (fun c216 => ?_) (fun c216 => ?_)
                      · refine q_il M dL_steps_223 (lv_at hl 2 rfl) ?_
                        refine q_il M dL_steps_225 (lv_at hl 3 rfl) ?_
                        refine q_if_ne (tgt := 245) M dL_steps_227 (by decide) (by omega) (fun c227 => ?_) (fun c227 => ?_)
                        · exfalso; omega
                        · refine q_il M dL_steps_230 (lv_at hl 0 rfl) ?_
                          refine q_if_eq (tgt := 245) M dL_steps_232 (by decide) (by omega) (fun c232 => ?_) (fun c232 => ?_)
                          · refine q_aln M dL_steps_245 (lv_at hl 10 rfl) ?_
                            refine q_il M dL_steps_246 (lv_at hl 3 rfl) ?_
                            refine q_if_eq (tgt := 255) M dL_steps_248 (by decide) (by omega) (fun c248 => ?_) (fun c248 => ?_)
                            · refine q_il M dL_steps_255 (lv_at hl 2 rfl) ?_
                              refine q_iald (f := κ 0) M w 0 0 rfl rfl (by omega) dL_steps_257 ?_
                              refine q_iast (f := κ 0) (ws2 := WLstp cI o (mset (mset κ 0 (iU (κ 0) ((16 * z11) + z21) ((κ 0) ((16 * z11) + z21)))) 3 (iU (κ 3) 0 ((κ 3) 0))) ++ WAll cI a μ) M w 0 0 rfl rfl (by omega) rfl dL_steps_258 (fun H locs w => ?_)
                              refine q_aln M dL_steps_259 (lv_at hl 11 rfl) ?_
                              refine q_il M dL_steps_260 (lv_at hl 3 rfl) ?_
                              refine q_if_eq (tgt := 269) M dL_steps_262 (by decide) (by omega) (fun c262 => ?_) (fun c262 => ?_)
                              · refine q_il M dL_steps_269 (lv_at hl 2 rfl) ?_
                                refine q_il M dL_steps_271 (lv_at hl 3 rfl) ?_
                                refine q_if_ne (tgt := 292) M dL_steps_273 (by decide) (by omega) (fun c273 => ?_) (fun c273 => ?_)
                                · exfalso; omega
                                · refine q_il M dL_steps_276 (lv_at hl 0 rfl) ?_
                                  refine q_if_eq (tgt := 292) M dL_steps_278 (by decide) (by omega) (fun c278 => ?_) (fun c278 => ?_)
                                  · refine q_aln M dL_steps_292 (lv_at hl 11 rfl) ?_
                                    refine q_il M dL_steps_293 (lv_at hl 3 rfl) ?_
                                    refine q_if_eq (tgt := 302) M dL_steps_295 (by decide) (by omega) (fun c295 => ?_) (fun c295 => ?_)
                                    · refine q_il M dL_steps_302 (lv_at hl 2 rfl) ?_
                                      refine q_iald (f := κ 1) M w 1 0 rfl rfl (by omega) dL_steps_304 ?_
                                      refine q_iast (f := κ 1) (ws2 := WLstp cI o (mset (mset (mset κ 0 (iU (κ 0) ((16 * z11) + z21) ((κ 0) ((16 * z11) + z21)))) 1 (iU (κ 1) ((16 * z11) + z21) ((κ 1) ((16 * z11) + z21)))) 3 (iU (κ 3) 0 ((κ 3) 0))) ++ WAll cI a μ) M w 1 0 rfl rfl (by omega) rfl dL_steps_305 (fun H locs w => ?_)
                                      refine q_al M dL_steps_306 (lv_at hl 12 rfl) ?_
                                      refine q_il M dL_steps_308 (lv_at hl 3 rfl) ?_
                                      refine q_if_eq (tgt := 317) M dL_steps_310 (by decide) (by omega) (fun c310 => ?_) (fun c310 => ?_)
                                      · refine q_il M dL_steps_317 (lv_at hl 2 rfl) ?_
                                        refine q_il M dL_steps_319 (lv_at hl 3 rfl) ?_
                                        refine q_if_ne (tgt := 340) M dL_steps_321 (by decide) (by omega) (fun c321 => ?_) (fun c321 => ?_)
                                        · exfalso; omega
                                        · refine q_il M dL_steps_324 (lv_at hl 0 rfl) ?_
                                          refine q_if_eq (tgt := 340) M dL_steps_326 (by decide) (by omega) (fun c326 => ?_) (fun c326 => ?_)
                                          · refine q_al M dL_steps_340 (lv_at hl 12 rfl) ?_
                                            refine q_il M dL_steps_342 (lv_at hl 3 rfl) ?_
                                            refine q_if_eq (tgt := 351) M dL_steps_344 (by decide) (by omega) (fun c344 => ?_) (fun c344 => ?_)
                                            · refine q_il M dL_steps_351 (lv_at hl 2 rfl) ?_
                                              refine q_iald (f := κ 2) M w 2 0 rfl rfl (by omega) dL_steps_353 ?_
                                              refine q_iast (f := κ 2) (ws2 := WLstp cI o (mset (mset (mset (mset κ 0 (iU (κ 0) ((16 * z11) + z21) ((κ 0) ((16 * z11) + z21)))) 1 (iU (κ 1) ((16 * z11) + z21) ((κ 1) ((16 * z11) + z21)))) 2 (iU (κ 2) ((16 * z11) + z21) ((κ 2) ((16 * z11) + z21)))) 3 (iU (κ 3) 0 ((κ 3) 0))) ++ WAll cI a μ) M w 2 0 rfl rfl (by omega) rfl dL_steps_354 (fun H locs w => ?_)
                                              refine q_aln M dL_steps_355 (lv_at hl 8 rfl) ?_
                                              refine q_il M dL_steps_356 (lv_at hl 3 rfl) ?_
                                              refine q_if_eq (tgt := 365) M dL_steps_358 (by decide) (by omega) (fun c358 => ?_) (fun c358 => ?_)
                                              · refine q_ic M dL_steps_365 ?_
                                                refine q_il M dL_steps_366 (lv_at hl 7 rfl) ?_
                                                refine q_il M dL_steps_368 (lv_at hl 6 rfl) ?_
                                                refine q_il M dL_steps_370 (lv_at hl 5 rfl) ?_
                                                refine q_il M dL_steps_372 (lv_at hl 4 rfl) ?_
                                                refine q_ic M dL_steps_374 ?_
                                                refine q_sub M dL_steps_375 ?_
                                                refine qc_L (As := [.ref (a 0), .int (iI 1), .int (iI z2), .int (iI z11), .int (iI z21), .int (iI (z47 - 1))]) (rest := []) (wc := WAll cI a μ) (wc2 := WAll cI a μ) (ws2 := WLstp cI o (mset (mset (mset (mset κ 0 (iU (κ 0) ((16 * z11) + z21) ((κ 0) ((16 * z11) + z21)))) 1 (iU (κ 1) ((16 * z11) + z21) ((κ 1) ((16 * z11) + z21)))) 2 (iU (κ 2) ((16 * z11) + z21) ((κ 2) ((16 * z11) + z21)))) 3 (iU (κ 3) 0 ((κ 3) 0))) ++ WAll cI a μ) M w hA hT hl (c_setStep l hfl D cI cZ cJ a μ z2 z11 z21 (z47 - 1) (by omega) (by omega) (by omega) (by omega) h23 (-7) μ (Or.inr ⟨by rw [chk_t (show 0 ≤ z2 ∧ z2 ≤ 11 from by omega), chk_t (show 0 ≤ z11 ∧ z11 ≤ 3 from by omega), chk_t (show 0 ≤ z21 ∧ z21 ≤ 15 from by omega), chk_t (show -1 ≤ (z47 - 1) ∧ (z47 - 1) ≤ 7 from by omega), chk_f (show ¬ (μ 23 0 = 0) from by omega)]; rfl, rfl, rfl⟩)) gL_steps_L_calls rfl ⟨by decide, by decide⟩ ⟨by show 0 + 5 ≤ 5; omega, by show 0 + 30 ≤ 30; omega⟩ 6 (by decide +kernel) rfl [false, false, false, false, false, true, true, true, true, true, true, true, true, true, true, true, true, true, true, true, true, true, true, true, true, true, true, true, true, true, true, true, true, true, true, true, true, true, true, true, true, true, true, true, true, true, true, true, true, true, true, true, true, true, true] rfl rfl rfl (Nat.le_of_ble_eq_true rfl) rfl dL_steps_376 (fun H locs w => ?_)
                                                refine q_il M dL_steps_379 (lv_at hl 0 rfl) ?_
                                                refine q_if_eq (tgt := 391) M dL_steps_381 (by decide) (by omega) (fun c381 => ?_) (fun c381 => ?_)
                                                · refine q_bp M dL_steps_391 (by decide +kernel) ?_
                                                  refine q_icmp_neE (tgt := 400) (x := (-7)) (y := (-7)) M (by rfl) dL_steps_393 (by decide) ?_
                                                  refine q_ic M dL_steps_396 ?_
                                                  refine q_go (tgt := 401) M dL_steps_397 (by decide) ?_
                                                  have hP9 : (1 : Int) = 1 ∧ ∃ ν2, Rel μ ν2 ∧ LR ν2 (mset (mset (mset (mset κ 0 (iU (κ 0) ((16 * z11) + z21) ((κ 0) ((16 * z11) + z21)))) 1 (iU (κ 1) ((16 * z11) + z21) ((κ 1) ((16 * z11) + z21)))) 2 (iU (κ 2) ((16 * z11) + z21) ((κ 2) ((16 * z11) + z21)))) 3 (iU (κ 3) 0 ((κ 3) 0))) := ⟨rfl, ν, hR, LR_st0 hL (fun j => by rw [iU_self]) (fun j => by rw [iU_self]) (fun j => by rw [iU_self]) (fun j => by rw [iU_self])⟩
                                                  exact kret _ _ _ _ _ (iU (κ 0) ((16 * z11) + z21) ((κ 0) ((16 * z11) + z21)), iU (κ 1) ((16 * z11) + z21) ((κ 1) ((16 * z11) + z21)), iU (κ 2) ((16 * z11) + z21) ((κ 2) ((16 * z11) + z21)), iU (κ 3) 0 ((κ 3) 0), μ) _ _ (by decide) (by decide) dL_steps_401 w (hP9)
                                                · exfalso; omega
                                              · exfalso; omega
                                            · exfalso; omega
                                          · exfalso; omega
                                      · exfalso; omega
                                    · exfalso; omega
                                  · exfalso; omega
                              · exfalso; omega
                            · exfalso; omega
                          · exfalso; omega
                      · exfalso; omega
                    · exfalso; omega
                  · exfalso; omega
                · exfalso; omega
              · refine q_ic M dL_steps_163 ?_
                refine q_go (tgt := 168) M dL_steps_164 (by decide) ?_
                refine q_is (lv' := [(14, .int (iI 1)), (13, .int (iI ((κ 1) ((16 * z11) + z21)))), (12, .int (iI ((16 * z11) + z21))), (11, .int (iI fv)), (10, .int (iI z47)), (9, .int (iI z21)), (8, .int (iI z11)), (7, .int (iI z2)), (0, .ref (a 0)), (1, .int (iI zz)), (2, .ref (o 0)), (3, .ref (o 1)), (4, .ref (o 2)), (5, .ref (o 3)), (6, .ref (o 8))]) M dL_steps_168 hl (by decide) rfl (fun ls hl => ?_)
                refine q_al M dL_steps_170 (lv_at hl 13 rfl) ?_
                refine q_il M dL_steps_172 (lv_at hl 3 rfl) ?_
                refine q_if_eq (tgt := 182) M dL_steps_174 (by decide) (by omega) (fun c174 => ?_) (fun c174 => ?_)
                · refine q_ic M dL_steps_182 ?_
                  refine q_il M dL_steps_183 (lv_at hl 3 rfl) ?_
                  refine q_if_eq (tgt := 198) M dL_steps_185 (by decide) (by omega) (fun c185 => ?_) (fun c185 => ?_)
                  · refine q_al M dL_steps_198 (lv_at hl 13 rfl) ?_
                    refine q_il M dL_steps_200 (lv_at hl 3 rfl) ?_
                    refine q_if_eq (tgt := 210) M dL_steps_202 (by decide) (by omega) (fun c202 => ?_) (fun c202 => ?_)
                    · refine q_ic M dL_steps_210 ?_
                      refine q_iald (f := κ 3) M w 3 0 rfl rfl (by omega) dL_steps_211 ?_
                      refine q_iast (f := κ 3) (ws2 := WLstp cI o (mset κ 3 (iU (κ 3) 0 ((κ 3) 0))) ++ WAll cI a μ) M w 3 0 rfl rfl (by omega) rfl dL_steps_212 (fun H locs w => ?_)
                      refine q_aln M dL_steps_213 (lv_at hl 10 rfl) ?_
                      refine q_il M dL_steps_214 (lv_at hl 3 rfl) ?_
                      refine q_if_eq (tgt := 223) M dL_steps_216 (by decide) (by omega) (fun c216 => ?_) (fun c216 => ?_)
                      · refine q_il M dL_steps_223 (lv_at hl 2 rfl) ?_
                        refine q_il M dL_steps_225 (lv_at hl 3 rfl) ?_
                        refine q_if_ne (tgt := 245) M dL_steps_227 (by decide) (by omega) (fun c227 => ?_) (fun c227 => ?_)
                        · exfalso; omega
                        · refine q_il M dL_steps_230 (lv_at hl 0 rfl) ?_
                          refine q_if_eq (tgt := 245) M dL_steps_232 (by decide) (by omega) (fun c232 => ?_) (fun c232 => ?_)
                          · exfalso; omega
                          · refine q_il M dL_steps_235 (lv_at hl 7 rfl) ?_
                            refine q_if_ne (tgt := 245) M dL_steps_237 (by decide) (by omega) (fun c237 => ?_) (fun c237 => ?_)
                            · refine q_aln M dL_steps_245 (lv_at hl 10 rfl) ?_
                              refine q_il M dL_steps_246 (lv_at hl 3 rfl) ?_
                              refine q_if_eq (tgt := 255) M dL_steps_248 (by decide) (by omega) (fun c248 => ?_) (fun c248 => ?_)
                              · refine q_il M dL_steps_255 (lv_at hl 2 rfl) ?_
                                refine q_iald (f := κ 0) M w 0 0 rfl rfl (by omega) dL_steps_257 ?_
                                refine q_iast (f := κ 0) (ws2 := WLstp cI o (mset (mset κ 0 (iU (κ 0) ((16 * z11) + z21) ((κ 0) ((16 * z11) + z21)))) 3 (iU (κ 3) 0 ((κ 3) 0))) ++ WAll cI a μ) M w 0 0 rfl rfl (by omega) rfl dL_steps_258 (fun H locs w => ?_)
                                refine q_aln M dL_steps_259 (lv_at hl 11 rfl) ?_
                                refine q_il M dL_steps_260 (lv_at hl 3 rfl) ?_
                                refine q_if_eq (tgt := 269) M dL_steps_262 (by decide) (by omega) (fun c262 => ?_) (fun c262 => ?_)
                                · refine q_il M dL_steps_269 (lv_at hl 2 rfl) ?_
                                  refine q_il M dL_steps_271 (lv_at hl 3 rfl) ?_
                                  refine q_if_ne (tgt := 292) M dL_steps_273 (by decide) (by omega) (fun c273 => ?_) (fun c273 => ?_)
                                  · exfalso; omega
                                  · refine q_il M dL_steps_276 (lv_at hl 0 rfl) ?_
                                    refine q_if_eq (tgt := 292) M dL_steps_278 (by decide) (by omega) (fun c278 => ?_) (fun c278 => ?_)
                                    · exfalso; omega
                                    · refine q_il M dL_steps_281 (lv_at hl 7 rfl) ?_
                                      refine q_ic M dL_steps_283 ?_
                                      refine q_icmp_ne (tgt := 292) M dL_steps_284 (by decide) (by omega) (fun c284 => ?_) (fun c284 => ?_)
                                      · exfalso; omega
                                      · refine q_il M dL_steps_287 (lv_at hl 4 rfl) ?_
                                        refine q_go (tgt := 305) M dL_steps_289 (by decide) ?_
                                        refine q_iast (f := κ 1) (ws2 := WLstp cI o (mset (mset (mset κ 0 (iU (κ 0) ((16 * z11) + z21) ((κ 0) ((16 * z11) + z21)))) 1 (iU (κ 1) ((16 * z11) + z21) z47)) 3 (iU (κ 3) 0 ((κ 3) 0))) ++ WAll cI a μ) M w 1 0 rfl rfl (by omega) rfl dL_steps_305 (fun H locs w => ?_)
                                        refine q_al M dL_steps_306 (lv_at hl 12 rfl) ?_
                                        refine q_il M dL_steps_308 (lv_at hl 3 rfl) ?_
                                        refine q_if_eq (tgt := 317) M dL_steps_310 (by decide) (by omega) (fun c310 => ?_) (fun c310 => ?_)
                                        · refine q_il M dL_steps_317 (lv_at hl 2 rfl) ?_
                                          refine q_il M dL_steps_319 (lv_at hl 3 rfl) ?_
                                          refine q_if_ne (tgt := 340) M dL_steps_321 (by decide) (by omega) (fun c321 => ?_) (fun c321 => ?_)
                                          · exfalso; omega
                                          · refine q_il M dL_steps_324 (lv_at hl 0 rfl) ?_
                                            refine q_if_eq (tgt := 340) M dL_steps_326 (by decide) (by omega) (fun c326 => ?_) (fun c326 => ?_)
                                            · exfalso; omega
                                            · refine q_il M dL_steps_329 (lv_at hl 7 rfl) ?_
                                              refine q_ic M dL_steps_331 ?_
                                              refine q_icmp_ne (tgt := 340) M dL_steps_332 (by decide) (by omega) (fun c332 => ?_) (fun c332 => ?_)
                                              · refine q_al M dL_steps_340 (lv_at hl 12 rfl) ?_
                                                refine q_il M dL_steps_342 (lv_at hl 3 rfl) ?_
                                                refine q_if_eq (tgt := 351) M dL_steps_344 (by decide) (by omega) (fun c344 => ?_) (fun c344 => ?_)
                                                · refine q_il M dL_steps_351 (lv_at hl 2 rfl) ?_
                                                  refine q_iald (f := κ 2) M w 2 0 rfl rfl (by omega) dL_steps_353 ?_
                                                  refine q_iast (f := κ 2) (ws2 := WLstp cI o (mset (mset (mset (mset κ 0 (iU (κ 0) ((16 * z11) + z21) ((κ 0) ((16 * z11) + z21)))) 1 (iU (κ 1) ((16 * z11) + z21) z47)) 2 (iU (κ 2) ((16 * z11) + z21) ((κ 2) ((16 * z11) + z21)))) 3 (iU (κ 3) 0 ((κ 3) 0))) ++ WAll cI a μ) M w 2 0 rfl rfl (by omega) rfl dL_steps_354 (fun H locs w => ?_)
                                                  refine q_aln M dL_steps_355 (lv_at hl 8 rfl) ?_
                                                  refine q_il M dL_steps_356 (lv_at hl 3 rfl) ?_
                                                  refine q_if_eq (tgt := 365) M dL_steps_358 (by decide) (by omega) (fun c358 => ?_) (fun c358 => ?_)
                                                  · refine q_ic M dL_steps_365 ?_
                                                    refine q_il M dL_steps_366 (lv_at hl 7 rfl) ?_
                                                    refine q_il M dL_steps_368 (lv_at hl 6 rfl) ?_
                                                    refine q_il M dL_steps_370 (lv_at hl 5 rfl) ?_
                                                    refine q_il M dL_steps_372 (lv_at hl 4 rfl) ?_
                                                    refine q_ic M dL_steps_374 ?_
                                                    refine q_sub M dL_steps_375 ?_
                                                    refine qc_L (As := [.ref (a 0), .int (iI 1), .int (iI z2), .int (iI z11), .int (iI z21), .int (iI (z47 - 1))]) (rest := []) (wc := WAll cI a μ) (wc2 := WAll cI a (mset μ 2 (iU (μ 2) ((z2 * 4 + z11) * 16 + z21) (z47 - 1)))) (ws2 := WLstp cI o (mset (mset (mset (mset κ 0 (iU (κ 0) ((16 * z11) + z21) ((κ 0) ((16 * z11) + z21)))) 1 (iU (κ 1) ((16 * z11) + z21) z47)) 2 (iU (κ 2) ((16 * z11) + z21) ((κ 2) ((16 * z11) + z21)))) 3 (iU (κ 3) 0 ((κ 3) 0))) ++ WAll cI a (mset μ 2 (iU (μ 2) ((z2 * 4 + z11) * 16 + z21) (z47 - 1)))) M w hA hT hl (c_setStep l hfl D cI cZ cJ a μ z2 z11 z21 (z47 - 1) (by omega) (by omega) (by omega) (by omega) h23 (μ 2 ((z2 * 4 + z11) * 16 + z21)) (mset μ 2 (iU (μ 2) ((z2 * 4 + z11) * 16 + z21) (z47 - 1))) (Or.inl ⟨by rw [chk_t (show 0 ≤ z2 ∧ z2 ≤ 11 from by omega), chk_t (show 0 ≤ z11 ∧ z11 ≤ 3 from by omega), chk_t (show 0 ≤ z21 ∧ z21 ≤ 15 from by omega), chk_t (show -1 ≤ (z47 - 1) ∧ (z47 - 1) ≤ 7 from by omega), chk_t (show μ 23 0 = 0 from by omega)]; rfl, rfl, rfl⟩)) gL_steps_L_calls rfl ⟨by decide, by decide⟩ ⟨by show 0 + 5 ≤ 5; omega, by show 0 + 30 ≤ 30; omega⟩ 6 (by decide +kernel) rfl [false, false, false, false, false, true, true, true, true, true, true, true, true, true, true, true, true, true, true, true, true, true, true, true, true, true, true, true, true, true, true, true, true, true, true, true, true, true, true, true, true, true, true, true, true, true, true, true, true, true, true, true, true, true, true] rfl rfl rfl (Nat.le_of_ble_eq_true rfl) rfl dL_steps_376 (fun H locs w => ?_)
                                                    refine q_il M dL_steps_379 (lv_at hl 0 rfl) ?_
                                                    refine q_if_eq (tgt := 391) M dL_steps_381 (by decide) (by omega) (fun c381 => ?_) (fun c381 => ?_)
                                                    · exfalso; omega
                                                    · refine q_il M dL_steps_384 (lv_at hl 1 rfl) ?_
                                                      refine q_ic M dL_steps_386 ?_
                                                      refine q_sub M dL_steps_387 ?_
                                                      refine q_go (tgt := 393) M dL_steps_388 (by decide) ?_
                                                      refine q_icmp_neE (tgt := 400) (x := μ 2 ((z2 * 4 + z11) * 16 + z21)) (y := ((κ 1) ((16 * z11) + z21)) - 1) M (by have q1 := congrFun hR.1.1.2.2.1 ((z2 * 4 + z11) * 16 + z21); have q2 := hL.1.1 (16 * z11 + z21) (by omega) (by omega); rw [show (z2 * 4 + z11) * 16 + z21 = 64 + (16 * z11 + z21) by omega] at q1 ⊢; omega) dL_steps_393 (by decide) ?_
                                                      refine q_ic M dL_steps_396 ?_
                                                      refine q_go (tgt := 401) M dL_steps_397 (by decide) ?_
                                                      have hP9 : (1 : Int) = 1 ∧ ∃ ν2, Rel (mset μ 2 (iU (μ 2) ((z2 * 4 + z11) * 16 + z21) (z47 - 1))) ν2 ∧ LR ν2 (mset (mset (mset (mset κ 0 (iU (κ 0) ((16 * z11) + z21) ((κ 0) ((16 * z11) + z21)))) 1 (iU (κ 1) ((16 * z11) + z21) z47)) 2 (iU (κ 2) ((16 * z11) + z21) ((κ 2) ((16 * z11) + z21)))) 3 (iU (κ 3) 0 ((κ 3) 0))) := ⟨rfl, _, Rel_setStep hR (by omega) (by omega), LR_st1 hL (by omega) (by omega) (by omega) (fun j => by rw [if_neg (by omega), iU_self]) (fun j => by rw [if_pos (by omega)]) (fun j => by rw [if_neg (by omega), iU_self]) (fun j => by rw [iU_self]) _⟩
                                                      exact kret _ _ _ _ _ (iU (κ 0) ((16 * z11) + z21) ((κ 0) ((16 * z11) + z21)), iU (κ 1) ((16 * z11) + z21) z47, iU (κ 2) ((16 * z11) + z21) ((κ 2) ((16 * z11) + z21)), iU (κ 3) 0 ((κ 3) 0), (mset μ 2 (iU (μ 2) ((z2 * 4 + z11) * 16 + z21) (z47 - 1)))) _ _ (by decide) (by decide) dL_steps_401 w (hP9)
                                                  · exfalso; omega
                                                · exfalso; omega
                                              · exfalso; omega
                                        · exfalso; omega
                                · exfalso; omega
                              · exfalso; omega
                            · exfalso; omega
                      · exfalso; omega
                    · exfalso; omega
                  · exfalso; omega
                · exfalso; omega
          · refine q_aln M dL_steps_129 (lv_at hl 8 rfl) ?_
            refine q_il M dL_steps_130 (lv_at hl 0 rfl) ?_
            refine q_iald (f := κ 0) M w 0 0 rfl rfl (by omega) dL_steps_132 ?_
            refine q_go (tgt := 154) M dL_steps_133 (by decide) ?_
            refine q_is (lv' := [(13, .int (iI ((κ 0) ((16 * z11) + z21)))), (12, .int (iI ((16 * z11) + z21))), (11, .int (iI fv)), (10, .int (iI z47)), (9, .int (iI z21)), (8, .int (iI z11)), (7, .int (iI z2)), (0, .ref (a 0)), (1, .int (iI zz)), (2, .ref (o 0)), (3, .ref (o 1)), (4, .ref (o 2)), (5, .ref (o 3)), (6, .ref (o 8))]) M dL_steps_154 hl (by decide) rfl (fun ls hl => ?_)
            refine q_al M dL_steps_156 (lv_at hl 13 rfl) ?_
            refine q_ic M dL_steps_158 ?_
            refine q_iald (f := κ 8) M w 4 0 rfl rfl (by omega) dL_steps_159 ?_
            refine q_if_ne (tgt := 167) M dL_steps_160 (by decide) (by omega) (fun c160 => ?_) (fun c160 => ?_)
            · refine q_ic M dL_steps_167 ?_
              refine q_is (lv' := [(14, .int (iI 0)), (13, .int (iI ((κ 0) ((16 * z11) + z21)))), (12, .int (iI ((16 * z11) + z21))), (11, .int (iI fv)), (10, .int (iI z47)), (9, .int (iI z21)), (8, .int (iI z11)), (7, .int (iI z2)), (0, .ref (a 0)), (1, .int (iI zz)), (2, .ref (o 0)), (3, .ref (o 1)), (4, .ref (o 2)), (5, .ref (o 3)), (6, .ref (o 8))]) M dL_steps_168 hl (by decide) rfl (fun ls hl => ?_)
              refine q_al M dL_steps_170 (lv_at hl 13 rfl) ?_
              refine q_il M dL_steps_172 (lv_at hl 3 rfl) ?_
              refine q_if_eq (tgt := 182) M dL_steps_174 (by decide) (by omega) (fun c174 => ?_) (fun c174 => ?_)
              · refine q_ic M dL_steps_182 ?_
                refine q_il M dL_steps_183 (lv_at hl 3 rfl) ?_
                refine q_if_eq (tgt := 198) M dL_steps_185 (by decide) (by omega) (fun c185 => ?_) (fun c185 => ?_)
                · refine q_al M dL_steps_198 (lv_at hl 13 rfl) ?_
                  refine q_il M dL_steps_200 (lv_at hl 3 rfl) ?_
                  refine q_if_eq (tgt := 210) M dL_steps_202 (by decide) (by omega) (fun c202 => ?_) (fun c202 => ?_)
                  · refine q_ic M dL_steps_210 ?_
                    refine q_iald (f := κ 3) M w 3 0 rfl rfl (by omega) dL_steps_211 ?_
                    refine q_iast (f := κ 3) (ws2 := WLstp cI o (mset κ 3 (iU (κ 3) 0 ((κ 3) 0))) ++ WAll cI a μ) M w 3 0 rfl rfl (by omega) rfl dL_steps_212 (fun H locs w => ?_)
                    refine q_aln M dL_steps_213 (lv_at hl 10 rfl) ?_
                    refine q_il M dL_steps_214 (lv_at hl 3 rfl) ?_
                    refine q_if_eq (tgt := 223) M dL_steps_216 (by decide) (by omega) (fun c216 => ?_) (fun c216 => ?_)
                    · refine q_il M dL_steps_223 (lv_at hl 2 rfl) ?_
                      refine q_il M dL_steps_225 (lv_at hl 3 rfl) ?_
                      refine q_if_ne (tgt := 245) M dL_steps_227 (by decide) (by omega) (fun c227 => ?_) (fun c227 => ?_)
                      · exfalso; omega
                      · refine q_il M dL_steps_230 (lv_at hl 0 rfl) ?_
                        refine q_if_eq (tgt := 245) M dL_steps_232 (by decide) (by omega) (fun c232 => ?_) (fun c232 => ?_)
                        · refine q_aln M dL_steps_245 (lv_at hl 10 rfl) ?_
                          refine q_il M dL_steps_246 (lv_at hl 3 rfl) ?_
                          refine q_if_eq (tgt := 255) M dL_steps_248 (by decide) (by omega) (fun c248 => ?_) (fun c248 => ?_)
                          · refine q_il M dL_steps_255 (lv_at hl 2 rfl) ?_
                            refine q_iald (f := κ 0) M w 0 0 rfl rfl (by omega) dL_steps_257 ?_
                            refine q_iast (f := κ 0) (ws2 := WLstp cI o (mset (mset κ 0 (iU (κ 0) ((16 * z11) + z21) ((κ 0) ((16 * z11) + z21)))) 3 (iU (κ 3) 0 ((κ 3) 0))) ++ WAll cI a μ) M w 0 0 rfl rfl (by omega) rfl dL_steps_258 (fun H locs w => ?_)
                            refine q_aln M dL_steps_259 (lv_at hl 11 rfl) ?_
                            refine q_il M dL_steps_260 (lv_at hl 3 rfl) ?_
                            refine q_if_eq (tgt := 269) M dL_steps_262 (by decide) (by omega) (fun c262 => ?_) (fun c262 => ?_)
                            · refine q_il M dL_steps_269 (lv_at hl 2 rfl) ?_
                              refine q_il M dL_steps_271 (lv_at hl 3 rfl) ?_
                              refine q_if_ne (tgt := 292) M dL_steps_273 (by decide) (by omega) (fun c273 => ?_) (fun c273 => ?_)
                              · exfalso; omega
                              · refine q_il M dL_steps_276 (lv_at hl 0 rfl) ?_
                                refine q_if_eq (tgt := 292) M dL_steps_278 (by decide) (by omega) (fun c278 => ?_) (fun c278 => ?_)
                                · refine q_aln M dL_steps_292 (lv_at hl 11 rfl) ?_
                                  refine q_il M dL_steps_293 (lv_at hl 3 rfl) ?_
                                  refine q_if_eq (tgt := 302) M dL_steps_295 (by decide) (by omega) (fun c295 => ?_) (fun c295 => ?_)
                                  · refine q_il M dL_steps_302 (lv_at hl 2 rfl) ?_
                                    refine q_iald (f := κ 1) M w 1 0 rfl rfl (by omega) dL_steps_304 ?_
                                    refine q_iast (f := κ 1) (ws2 := WLstp cI o (mset (mset (mset κ 0 (iU (κ 0) ((16 * z11) + z21) ((κ 0) ((16 * z11) + z21)))) 1 (iU (κ 1) ((16 * z11) + z21) ((κ 1) ((16 * z11) + z21)))) 3 (iU (κ 3) 0 ((κ 3) 0))) ++ WAll cI a μ) M w 1 0 rfl rfl (by omega) rfl dL_steps_305 (fun H locs w => ?_)
                                    refine q_al M dL_steps_306 (lv_at hl 12 rfl) ?_
                                    refine q_il M dL_steps_308 (lv_at hl 3 rfl) ?_
                                    refine q_if_eq (tgt := 317) M dL_steps_310 (by decide) (by omega) (fun c310 => ?_) (fun c310 => ?_)
                                    · refine q_il M dL_steps_317 (lv_at hl 2 rfl) ?_
                                      refine q_il M dL_steps_319 (lv_at hl 3 rfl) ?_
                                      refine q_if_ne (tgt := 340) M dL_steps_321 (by decide) (by omega) (fun c321 => ?_) (fun c321 => ?_)
                                      · exfalso; omega
                                      · refine q_il M dL_steps_324 (lv_at hl 0 rfl) ?_
                                        refine q_if_eq (tgt := 340) M dL_steps_326 (by decide) (by omega) (fun c326 => ?_) (fun c326 => ?_)
                                        · refine q_al M dL_steps_340 (lv_at hl 12 rfl) ?_
                                          refine q_il M dL_steps_342 (lv_at hl 3 rfl) ?_
                                          refine q_if_eq (tgt := 351) M dL_steps_344 (by decide) (by omega) (fun c344 => ?_) (fun c344 => ?_)
                                          · refine q_il M dL_steps_351 (lv_at hl 2 rfl) ?_
                                            refine q_iald (f := κ 2) M w 2 0 rfl rfl (by omega) dL_steps_353 ?_
                                            refine q_iast (f := κ 2) (ws2 := WLstp cI o (mset (mset (mset (mset κ 0 (iU (κ 0) ((16 * z11) + z21) ((κ 0) ((16 * z11) + z21)))) 1 (iU (κ 1) ((16 * z11) + z21) ((κ 1) ((16 * z11) + z21)))) 2 (iU (κ 2) ((16 * z11) + z21) ((κ 2) ((16 * z11) + z21)))) 3 (iU (κ 3) 0 ((κ 3) 0))) ++ WAll cI a μ) M w 2 0 rfl rfl (by omega) rfl dL_steps_354 (fun H locs w => ?_)
                                            refine q_aln M dL_steps_355 (lv_at hl 8 rfl) ?_
                                            refine q_il M dL_steps_356 (lv_at hl 3 rfl) ?_
                                            refine q_if_eq (tgt := 365) M dL_steps_358 (by decide) (by omega) (fun c358 => ?_) (fun c358 => ?_)
                                            · refine q_ic M dL_steps_365 ?_
                                              refine q_il M dL_steps_366 (lv_at hl 7 rfl) ?_
                                              refine q_il M dL_steps_368 (lv_at hl 6 rfl) ?_
                                              refine q_il M dL_steps_370 (lv_at hl 5 rfl) ?_
                                              refine q_il M dL_steps_372 (lv_at hl 4 rfl) ?_
                                              refine q_ic M dL_steps_374 ?_
                                              refine q_sub M dL_steps_375 ?_
                                              refine qc_L (As := [.ref (a 0), .int (iI 1), .int (iI z2), .int (iI z11), .int (iI z21), .int (iI (z47 - 1))]) (rest := []) (wc := WAll cI a μ) (wc2 := WAll cI a μ) (ws2 := WLstp cI o (mset (mset (mset (mset κ 0 (iU (κ 0) ((16 * z11) + z21) ((κ 0) ((16 * z11) + z21)))) 1 (iU (κ 1) ((16 * z11) + z21) ((κ 1) ((16 * z11) + z21)))) 2 (iU (κ 2) ((16 * z11) + z21) ((κ 2) ((16 * z11) + z21)))) 3 (iU (κ 3) 0 ((κ 3) 0))) ++ WAll cI a μ) M w hA hT hl (c_setStep l hfl D cI cZ cJ a μ z2 z11 z21 (z47 - 1) (by omega) (by omega) (by omega) (by omega) h23 (-7) μ (Or.inr ⟨by rw [chk_t (show 0 ≤ z2 ∧ z2 ≤ 11 from by omega), chk_t (show 0 ≤ z11 ∧ z11 ≤ 3 from by omega), chk_t (show 0 ≤ z21 ∧ z21 ≤ 15 from by omega), chk_t (show -1 ≤ (z47 - 1) ∧ (z47 - 1) ≤ 7 from by omega), chk_f (show ¬ (μ 23 0 = 0) from by omega)]; rfl, rfl, rfl⟩)) gL_steps_L_calls rfl ⟨by decide, by decide⟩ ⟨by show 0 + 5 ≤ 5; omega, by show 0 + 30 ≤ 30; omega⟩ 6 (by decide +kernel) rfl [false, false, false, false, false, true, true, true, true, true, true, true, true, true, true, true, true, true, true, true, true, true, true, true, true, true, true, true, true, true, true, true, true, true, true, true, true, true, true, true, true, true, true, true, true, true, true, true, true, true, true, true, true, true, true] rfl rfl rfl (Nat.le_of_ble_eq_true rfl) rfl dL_steps_376 (fun H locs w => ?_)
                                              refine q_il M dL_steps_379 (lv_at hl 0 rfl) ?_
                                              refine q_if_eq (tgt := 391) M dL_steps_381 (by decide) (by omega) (fun c381 => ?_) (fun c381 => ?_)
                                              · refine q_bp M dL_steps_391 (by decide +kernel) ?_
                                                refine q_icmp_neE (tgt := 400) (x := (-7)) (y := (-7)) M (by rfl) dL_steps_393 (by decide) ?_
                                                refine q_ic M dL_steps_396 ?_
                                                refine q_go (tgt := 401) M dL_steps_397 (by decide) ?_
                                                have hP9 : (1 : Int) = 1 ∧ ∃ ν2, Rel μ ν2 ∧ LR ν2 (mset (mset (mset (mset κ 0 (iU (κ 0) ((16 * z11) + z21) ((κ 0) ((16 * z11) + z21)))) 1 (iU (κ 1) ((16 * z11) + z21) ((κ 1) ((16 * z11) + z21)))) 2 (iU (κ 2) ((16 * z11) + z21) ((κ 2) ((16 * z11) + z21)))) 3 (iU (κ 3) 0 ((κ 3) 0))) := ⟨rfl, ν, hR, LR_st0 hL (fun j => by rw [iU_self]) (fun j => by rw [iU_self]) (fun j => by rw [iU_self]) (fun j => by rw [iU_self])⟩
                                                exact kret _ _ _ _ _ (iU (κ 0) ((16 * z11) + z21) ((κ 0) ((16 * z11) + z21)), iU (κ 1) ((16 * z11) + z21) ((κ 1) ((16 * z11) + z21)), iU (κ 2) ((16 * z11) + z21) ((κ 2) ((16 * z11) + z21)), iU (κ 3) 0 ((κ 3) 0), μ) _ _ (by decide) (by decide) dL_steps_401 w (hP9)
                                              · exfalso; omega
                                            · exfalso; omega
                                          · exfalso; omega
                                        · exfalso; omega
                                    · exfalso; omega
                                  · exfalso; omega
                                · exfalso; omega
                            · exfalso; omega
                          · exfalso; omega
                        · exfalso; omega
                    · exfalso; omega
                  · exfalso; omega
                · exfalso; omega
              · exfalso; omega
            · refine q_ic M dL_steps_163 ?_
              refine q_go (tgt := 168) M dL_steps_164 (by decide) ?_
              refine q_is (lv' := [(14, .int (iI 1)), (13, .int (iI ((κ 0) ((16 * z11) + z21)))), (12, .int (iI ((16 * z11) + z21))), (11, .int (iI fv)), (10, .int (iI z47)), (9, .int (iI z21)), (8, .int (iI z11)), (7, .int (iI z2)), (0, .ref (a 0)), (1, .int (iI zz)), (2, .ref (o 0)), (3, .ref (o 1)), (4, .ref (o 2)), (5, .ref (o 3)), (6, .ref (o 8))]) M dL_steps_168 hl (by decide) rfl (fun ls hl => ?_)
              refine q_al M dL_steps_170 (lv_at hl 13 rfl) ?_
              refine q_il M dL_steps_172 (lv_at hl 3 rfl) ?_
              refine q_if_eq (tgt := 182) M dL_steps_174 (by decide) (by omega) (fun c174 => ?_) (fun c174 => ?_)
              · refine q_ic M dL_steps_182 ?_
                refine q_il M dL_steps_183 (lv_at hl 3 rfl) ?_
                refine q_if_eq (tgt := 198) M dL_steps_185 (by decide) (by omega) (fun c185 => ?_) (fun c185 => ?_)
                · refine q_al M dL_steps_198 (lv_at hl 13 rfl) ?_
                  refine q_il M dL_steps_200 (lv_at hl 3 rfl) ?_
                  refine q_if_eq (tgt := 210) M dL_steps_202 (by decide) (by omega) (fun c202 => ?_) (fun c202 => ?_)
                  · refine q_ic M dL_steps_210 ?_
                    refine q_iald (f := κ 3) M w 3 0 rfl rfl (by omega) dL_steps_211 ?_
                    refine q_iast (f := κ 3) (ws2 := WLstp cI o (mset κ 3 (iU (κ 3) 0 ((κ 3) 0))) ++ WAll cI a μ) M w 3 0 rfl rfl (by omega) rfl dL_steps_212 (fun H locs w => ?_)
                    refine q_aln M dL_steps_213 (lv_at hl 10 rfl) ?_
                    refine q_il M dL_steps_214 (lv_at hl 3 rfl) ?_
                    refine q_if_eq (tgt := 223) M dL_steps_216 (by decide) (by omega) (fun c216 => ?_) (fun c216 => ?_)
                    · refine q_il M dL_steps_223 (lv_at hl 2 rfl) ?_
                      refine q_il M dL_steps_225 (lv_at hl 3 rfl) ?_
                      refine q_if_ne (tgt := 245) M dL_steps_227 (by decide) (by omega) (fun c227 => ?_) (fun c227 => ?_)
                      · exfalso; omega
                      · refine q_il M dL_steps_230 (lv_at hl 0 rfl) ?_
                        refine q_if_eq (tgt := 245) M dL_steps_232 (by decide) (by omega) (fun c232 => ?_) (fun c232 => ?_)
                        · exfalso; omega
                        · refine q_il M dL_steps_235 (lv_at hl 7 rfl) ?_
                          refine q_if_ne (tgt := 245) M dL_steps_237 (by decide) (by omega) (fun c237 => ?_) (fun c237 => ?_)
                          · exfalso; omega
                          · refine q_il M dL_steps_240 (lv_at hl 4 rfl) ?_
                            refine q_go (tgt := 258) M dL_steps_242 (by decide) ?_
                            refine q_iast (f := κ 0) (ws2 := WLstp cI o (mset (mset κ 0 (iU (κ 0) ((16 * z11) + z21) z47)) 3 (iU (κ 3) 0 ((κ 3) 0))) ++ WAll cI a μ) M w 0 0 rfl rfl (by omega) rfl dL_steps_258 (fun H locs w => ?_)
                            refine q_aln M dL_steps_259 (lv_at hl 11 rfl) ?_
                            refine q_il M dL_steps_260 (lv_at hl 3 rfl) ?_
                            refine q_if_eq (tgt := 269) M dL_steps_262 (by decide) (by omega) (fun c262 => ?_) (fun c262 => ?_)
                            · refine q_il M dL_steps_269 (lv_at hl 2 rfl) ?_
                              refine q_il M dL_steps_271 (lv_at hl 3 rfl) ?_
                              refine q_if_ne (tgt := 292) M dL_steps_273 (by decide) (by omega) (fun c273 => ?_) (fun c273 => ?_)
                              · exfalso; omega
                              · refine q_il M dL_steps_276 (lv_at hl 0 rfl) ?_
                                refine q_if_eq (tgt := 292) M dL_steps_278 (by decide) (by omega) (fun c278 => ?_) (fun c278 => ?_)
                                · exfalso; omega
                                · refine q_il M dL_steps_281 (lv_at hl 7 rfl) ?_
                                  refine q_ic M dL_steps_283 ?_
                                  refine q_icmp_ne (tgt := 292) M dL_steps_284 (by decide) (by omega) (fun c284 => ?_) (fun c284 => ?_)
                                  · refine q_aln M dL_steps_292 (lv_at hl 11 rfl) ?_
                                    refine q_il M dL_steps_293 (lv_at hl 3 rfl) ?_
                                    refine q_if_eq (tgt := 302) M dL_steps_295 (by decide) (by omega) (fun c295 => ?_) (fun c295 => ?_)
                                    · refine q_il M dL_steps_302 (lv_at hl 2 rfl) ?_
                                      refine q_iald (f := κ 1) M w 1 0 rfl rfl (by omega) dL_steps_304 ?_
                                      refine q_iast (f := κ 1) (ws2 := WLstp cI o (mset (mset (mset κ 0 (iU (κ 0) ((16 * z11) + z21) z47)) 1 (iU (κ 1) ((16 * z11) + z21) ((κ 1) ((16 * z11) + z21)))) 3 (iU (κ 3) 0 ((κ 3) 0))) ++ WAll cI a μ) M w 1 0 rfl rfl (by omega) rfl dL_steps_305 (fun H locs w => ?_)
                                      refine q_al M dL_steps_306 (lv_at hl 12 rfl) ?_
                                      refine q_il M dL_steps_308 (lv_at hl 3 rfl) ?_
                                      refine q_if_eq (tgt := 317) M dL_steps_310 (by decide) (by omega) (fun c310 => ?_) (fun c310 => ?_)
                                      · refine q_il M dL_steps_317 (lv_at hl 2 rfl) ?_
                                        refine q_il M dL_steps_319 (lv_at hl 3 rfl) ?_
                                        refine q_if_ne (tgt := 340) M dL_steps_321 (by decide) (by omega) (fun c321 => ?_) (fun c321 => ?_)
                                        · exfalso; omega
                                        · refine q_il M dL_steps_324 (lv_at hl 0 rfl) ?_
                                          refine q_if_eq (tgt := 340) M dL_steps_326 (by decide) (by omega) (fun c326 => ?_) (fun c326 => ?_)
                                          · exfalso; omega
                                          · refine q_il M dL_steps_329 (lv_at hl 7 rfl) ?_
                                            refine q_ic M dL_steps_331 ?_
                                            refine q_icmp_ne (tgt := 340) M dL_steps_332 (by decide) (by omega) (fun c332 => ?_) (fun c332 => ?_)
                                            · refine q_al M dL_steps_340 (lv_at hl 12 rfl) ?_
                                              refine q_il M dL_steps_342 (lv_at hl 3 rfl) ?_
                                              refine q_if_eq (tgt := 351) M dL_steps_344 (by decide) (by omega) (fun c344 => ?_) (fun c344 => ?_)
                                              · refine q_il M dL_steps_351 (lv_at hl 2 rfl) ?_
                                                refine q_iald (f := κ 2) M w 2 0 rfl rfl (by omega) dL_steps_353 ?_
                                                refine q_iast (f := κ 2) (ws2 := WLstp cI o (mset (mset (mset (mset κ 0 (iU (κ 0) ((16 * z11) + z21) z47)) 1 (iU (κ 1) ((16 * z11) + z21) ((κ 1) ((16 * z11) + z21)))) 2 (iU (κ 2) ((16 * z11) + z21) ((κ 2) ((16 * z11) + z21)))) 3 (iU (κ 3) 0 ((κ 3) 0))) ++ WAll cI a μ) M w 2 0 rfl rfl (by omega) rfl dL_steps_354 (fun H locs w => ?_)
                                                refine q_aln M dL_steps_355 (lv_at hl 8 rfl) ?_
                                                refine q_il M dL_steps_356 (lv_at hl 3 rfl) ?_
                                                refine q_if_eq (tgt := 365) M dL_steps_358 (by decide) (by omega) (fun c358 => ?_) (fun c358 => ?_)
                                                · refine q_ic M dL_steps_365 ?_
                                                  refine q_il M dL_steps_366 (lv_at hl 7 rfl) ?_
                                                  refine q_il M dL_steps_368 (lv_at hl 6 rfl) ?_
                                                  refine q_il M dL_steps_370 (lv_at hl 5 rfl) ?_
                                                  refine q_il M dL_steps_372 (lv_at hl 4 rfl) ?_
                                                  refine q_ic M dL_steps_374 ?_
                                                  refine q_sub M dL_steps_375 ?_
                                                  refine qc_L (As := [.ref (a 0), .int (iI 1), .int (iI z2), .int (iI z11), .int (iI z21), .int (iI (z47 - 1))]) (rest := []) (wc := WAll cI a μ) (wc2 := WAll cI a (mset μ 2 (iU (μ 2) ((z2 * 4 + z11) * 16 + z21) (z47 - 1)))) (ws2 := WLstp cI o (mset (mset (mset (mset κ 0 (iU (κ 0) ((16 * z11) + z21) z47)) 1 (iU (κ 1) ((16 * z11) + z21) ((κ 1) ((16 * z11) + z21)))) 2 (iU (κ 2) ((16 * z11) + z21) ((κ 2) ((16 * z11) + z21)))) 3 (iU (κ 3) 0 ((κ 3) 0))) ++ WAll cI a (mset μ 2 (iU (μ 2) ((z2 * 4 + z11) * 16 + z21) (z47 - 1)))) M w hA hT hl (c_setStep l hfl D cI cZ cJ a μ z2 z11 z21 (z47 - 1) (by omega) (by omega) (by omega) (by omega) h23 (μ 2 ((z2 * 4 + z11) * 16 + z21)) (mset μ 2 (iU (μ 2) ((z2 * 4 + z11) * 16 + z21) (z47 - 1))) (Or.inl ⟨by rw [chk_t (show 0 ≤ z2 ∧ z2 ≤ 11 from by omega), chk_t (show 0 ≤ z11 ∧ z11 ≤ 3 from by omega), chk_t (show 0 ≤ z21 ∧ z21 ≤ 15 from by omega), chk_t (show -1 ≤ (z47 - 1) ∧ (z47 - 1) ≤ 7 from by omega), chk_t (show μ 23 0 = 0 from by omega)]; rfl, rfl, rfl⟩)) gL_steps_L_calls rfl ⟨by decide, by decide⟩ ⟨by show 0 + 5 ≤ 5; omega, by show 0 + 30 ≤ 30; omega⟩ 6 (by decide +kernel) rfl [false, false, false, false, false, true, true, true, true, true, true, true, true, true, true, true, true, true, true, true, true, true, true, true, true, true, true, true, true, true, true, true, true, true, true, true, true, true, true, true, true, true, true, true, true, true, true, true, true, true, true, true, true, true, true] rfl rfl rfl (Nat.le_of_ble_eq_true rfl) rfl dL_steps_376 (fun H locs w => ?_)
                                                  refine q_il M dL_steps_379 (lv_at hl 0 rfl) ?_
                                                  refine q_if_eq (tgt := 391) M dL_steps_381 (by decide) (by omega) (fun c381 => ?_) (fun c381 => ?_)
                                                  · exfalso; omega
                                                  · refine q_il M dL_steps_384 (lv_at hl 1 rfl) ?_
                                                    refine q_ic M dL_steps_386 ?_
                                                    refine q_sub M dL_steps_387 ?_
                                                    refine q_go (tgt := 393) M dL_steps_388 (by decide) ?_
                                                    refine q_icmp_neE (tgt := 400) (x := μ 2 ((z2 * 4 + z11) * 16 + z21)) (y := ((κ 0) ((16 * z11) + z21)) - 1) M (by have q1 := congrFun hR.1.1.2.2.1 ((z2 * 4 + z11) * 16 + z21); have q2 := hL.1.1 (16 * z11 + z21) (by omega) (by omega); rw [show (z2 * 4 + z11) * 16 + z21 = 16 * z11 + z21 by omega] at q1 ⊢; omega) dL_steps_393 (by decide) ?_
                                                    refine q_ic M dL_steps_396 ?_
                                                    refine q_go (tgt := 401) M dL_steps_397 (by decide) ?_
                                                    have hP9 : (1 : Int) = 1 ∧ ∃ ν2, Rel (mset μ 2 (iU (μ 2) ((z2 * 4 + z11) * 16 + z21) (z47 - 1))) ν2 ∧ LR ν2 (mset (mset (mset (mset κ 0 (iU (κ 0) ((16 * z11) + z21) z47)) 1 (iU (κ 1) ((16 * z11) + z21) ((κ 1) ((16 * z11) + z21)))) 2 (iU (κ 2) ((16 * z11) + z21) ((κ 2) ((16 * z11) + z21)))) 3 (iU (κ 3) 0 ((κ 3) 0))) := ⟨rfl, _, Rel_setStep hR (by omega) (by omega), LR_st1 hL (by omega) (by omega) (by omega) (fun j => by rw [if_pos (by omega)]) (fun j => by rw [if_neg (by omega), iU_self]) (fun j => by rw [if_neg (by omega), iU_self]) (fun j => by rw [iU_self]) _⟩
                                                    exact kret _ _ _ _ _ (iU (κ 0) ((16 * z11) + z21) z47, iU (κ 1) ((16 * z11) + z21) ((κ 1) ((16 * z11) + z21)), iU (κ 2) ((16 * z11) + z21) ((κ 2) ((16 * z11) + z21)), iU (κ 3) 0 ((κ 3) 0), (mset μ 2 (iU (μ 2) ((z2 * 4 + z11) * 16 + z21) (z47 - 1)))) _ _ (by decide) (by decide) dL_steps_401 w (hP9)
                                                · exfalso; omega
                                              · exfalso; omega
                                            · exfalso; omega
                                      · exfalso; omega
                                    · exfalso; omega
                                  · exfalso; omega
                            · exfalso; omega
                    · exfalso; omega
                  · exfalso; omega
                · exfalso; omega
              · exfalso; omega
        · exfalso; omega
      · refine q_bp M dL_steps_82 (by decide +kernel) ?_
        refine q_il M dL_steps_84 (lv_at hl 4 rfl) ?_
        refine q_mul M dL_steps_86 ?_
        refine q_ic M dL_steps_87 ?_
        refine q_il M dL_steps_88 (lv_at hl 3 rfl) ?_
        refine q_mul M dL_steps_90 ?_
        refine q_add M dL_steps_91 ?_
        refine q_il M dL_steps_92 (lv_at hl 2 rfl) ?_
        refine q_add M dL_steps_94 ?_
        refine q_bp M dL_steps_95 (by decide +kernel) ?_
        refine q_sub M dL_steps_97 ?_
        refine q_go (tgt := 109) M dL_steps_98 (by decide) ?_
        refine q_is (lv' := [(12, .int (iI ((((16 * z2) + (4 * z11)) + z21) - 12))), (11, .int (iI fv)), (10, .int (iI z47)), (9, .int (iI z21)), (8, .int (iI z11)), (7, .int (iI z2)), (0, .ref (a 0)), (1, .int (iI zz)), (2, .ref (o 0)), (3, .ref (o 1)), (4, .ref (o 2)), (5, .ref (o 3)), (6, .ref (o 8))]) M dL_steps_109 hl (by decide) rfl (fun ls hl => ?_)
        refine q_il M dL_steps_111 (lv_at hl 1 rfl) ?_
        refine q_if_eq (tgt := 124) M dL_steps_113 (by decide) (by omega) (fun c113 => ?_) (fun c113 => ?_)
        · exfalso; omega
        · refine q_al M dL_steps_116 (lv_at hl 11 rfl) ?_
          refine q_il M dL_steps_118 (lv_at hl 0 rfl) ?_
          refine q_iald (f := κ 3) M w 3 0 rfl rfl (by omega) dL_steps_120 ?_
          refine q_go (tgt := 154) M dL_steps_121 (by decide) ?_
          refine q_is (lv' := [(13, .int (iI ((κ 3) ((((16 * z2) + (4 * z11)) + z21) - 12)))), (12, .int (iI ((((16 * z2) + (4 * z11)) + z21) - 12))), (11, .int (iI fv)), (10, .int (iI z47)), (9, .int (iI z21)), (8, .int (iI z11)), (7, .int (iI z2)), (0, .ref (a 0)), (1, .int (iI zz)), (2, .ref (o 0)), (3, .ref (o 1)), (4, .ref (o 2)), (5, .ref (o 3)), (6, .ref (o 8))]) M dL_steps_154 hl (by decide) rfl (fun ls hl => ?_)
          refine q_al M dL_steps_156 (lv_at hl 13 rfl) ?_
          refine q_ic M dL_steps_158 ?_
          refine q_iald (f := κ 8) M w 4 0 rfl rfl (by omega) dL_steps_159 ?_
          refine q_if_ne (tgt := 167) M dL_steps_160 (by decide) (by omega) (fun c160 => ?_) (fun c160 => ?_)
          · refine q_ic M dL_steps_167 ?_
            refine q_is (lv' := [(14, .int (iI 0)), (13, .int (iI ((κ 3) ((((16 * z2) + (4 * z11)) + z21) - 12)))), (12, .int (iI ((((16 * z2) + (4 * z11)) + z21) - 12))), (11, .int (iI fv)), (10, .int (iI z47)), (9, .int (iI z21)), (8, .int (iI z11)), (7, .int (iI z2)), (0, .ref (a 0)), (1, .int (iI zz)), (2, .ref (o 0)), (3, .ref (o 1)), (4, .ref (o 2)), (5, .ref (o 3)), (6, .ref (o 8))]) M dL_steps_168 hl (by decide) rfl (fun ls hl => ?_)
            refine q_al M dL_steps_170 (lv_at hl 13 rfl) ?_
            refine q_il M dL_steps_172 (lv_at hl 3 rfl) ?_
            refine q_if_eq (tgt := 182) M dL_steps_174 (by decide) (by omega) (fun c174 => ?_) (fun c174 => ?_)
            · exfalso; omega
            · refine q_il M dL_steps_177 (lv_at hl 2 rfl) ?_
              refine q_go (tgt := 183) M dL_steps_179 (by decide) ?_
              refine q_il M dL_steps_183 (lv_at hl 3 rfl) ?_
              refine q_if_eq (tgt := 198) M dL_steps_185 (by decide) (by omega) (fun c185 => ?_) (fun c185 => ?_)
              · exfalso; omega
              · refine q_il M dL_steps_188 (lv_at hl 0 rfl) ?_
                refine q_if_eq (tgt := 198) M dL_steps_190 (by decide) (by omega) (fun c190 => ?_) (fun c190 => ?_)
                · refine q_al M dL_steps_198 (lv_at hl 13 rfl) ?_
                  refine q_il M dL_steps_200 (lv_at hl 3 rfl) ?_
                  refine q_if_eq (tgt := 210) M dL_steps_202 (by decide) (by omega) (fun c202 => ?_) (fun c202 => ?_)
                  · exfalso; omega
                  · refine q_il M dL_steps_205 (lv_at hl 2 rfl) ?_
                    refine q_go (tgt := 211) M dL_steps_207 (by decide) ?_
                    refine q_iald (f := κ 3) M w 3 0 rfl rfl (by omega) dL_steps_211 ?_
                    refine q_iast (f := κ 3) (ws2 := WLstp cI o (mset κ 3 (iU (κ 3) ((((16 * z2) + (4 * z11)) + z21) - 12) ((κ 3) ((((16 * z2) + (4 * z11)) + z21) - 12)))) ++ WAll cI a μ) M w 3 0 rfl rfl (by omega) rfl dL_steps_212 (fun H locs w => ?_)
                    refine q_aln M dL_steps_213 (lv_at hl 10 rfl) ?_
                    refine q_il M dL_steps_214 (lv_at hl 3 rfl) ?_
                    refine q_if_eq (tgt := 223) M dL_steps_216 (by decide) (by omega) (fun c216 => ?_) (fun c216 => ?_)
                    · exfalso; omega
                    · refine q_ic M dL_steps_219 ?_
                      refine q_go (tgt := 225) M dL_steps_220 (by decide) ?_
                      refine q_il M dL_steps_225 (lv_at hl 3 rfl) ?_
                      refine q_if_ne (tgt := 245) M dL_steps_227 (by decide) (by omega) (fun c227 => ?_) (fun c227 => ?_)
                      · refine q_aln M dL_steps_245 (lv_at hl 10 rfl) ?_
                        refine q_il M dL_steps_246 (lv_at hl 3 rfl) ?_
                        refine q_if_eq (tgt := 255) M dL_steps_248 (by decide) (by omega) (fun c248 => ?_) (fun c248 => ?_)
                        · exfalso; omega
                        · refine q_ic M dL_steps_251 ?_
                          refine q_go (tgt := 257) M dL_steps_252 (by decide) ?_
                          refine q_iald (f := κ 0) M w 0 0 rfl rfl (by omega) dL_steps_257 ?_
                          refine q_iast (f := κ 0) (ws2 := WLstp cI o (mset (mset κ 0 (iU (κ 0) 0 ((κ 0) 0))) 3 (iU (κ 3) ((((16 * z2) + (4 * z11)) + z21) - 12) ((κ 3) ((((16 * z2) + (4 * z11)) + z21) - 12)))) ++ WAll cI a μ) M w 0 0 rfl rfl (by omega) rfl dL_steps_258 (fun H locs w => ?_)
                          refine q_aln M dL_steps_259 (lv_at hl 11 rfl) ?_
                          refine q_il M dL_steps_260 (lv_at hl 3 rfl) ?_
                          refine q_if_eq (tgt := 269) M dL_steps_262 (by decide) (by omega) (fun c262 => ?_) (fun c262 => ?_)
                          · exfalso; omega
                          · refine q_ic M dL_steps_265 ?_
                            refine q_go (tgt := 271) M dL_steps_266 (by decide) ?_
                            refine q_il M dL_steps_271 (lv_at hl 3 rfl) ?_
                            refine q_if_ne (tgt := 292) M dL_steps_273 (by decide) (by omega) (fun c273 => ?_) (fun c273 => ?_)
                            · refine q_aln M dL_steps_292 (lv_at hl 11 rfl) ?_
                              refine q_il M dL_steps_293 (lv_at hl 3 rfl) ?_
                              refine q_if_eq (tgt := 302) M dL_steps_295 (by decide) (by omega) (fun c295 => ?_) (fun c295 => ?_)
                              · exfalso; omega
                              · refine q_ic M dL_steps_298 ?_
                                refine q_go (tgt := 304) M dL_steps_299 (by decide) ?_
                                refine q_iald (f := κ 1) M w 1 0 rfl rfl (by omega) dL_steps_304 ?_
                                refine q_iast (f := κ 1) (ws2 := WLstp cI o (mset (mset (mset κ 0 (iU (κ 0) 0 ((κ 0) 0))) 1 (iU (κ 1) 0 ((κ 1) 0))) 3 (iU (κ 3) ((((16 * z2) + (4 * z11)) + z21) - 12) ((κ 3) ((((16 * z2) + (4 * z11)) + z21) - 12)))) ++ WAll cI a μ) M w 1 0 rfl rfl (by omega) rfl dL_steps_305 (fun H locs w => ?_)
                                refine q_al M dL_steps_306 (lv_at hl 12 rfl) ?_
                                refine q_il M dL_steps_308 (lv_at hl 3 rfl) ?_
                                refine q_if_eq (tgt := 317) M dL_steps_310 (by decide) (by omega) (fun c310 => ?_) (fun c310 => ?_)
                                · exfalso; omega
                                · refine q_ic M dL_steps_313 ?_
                                  refine q_go (tgt := 319) M dL_steps_314 (by decide) ?_
                                  refine q_il M dL_steps_319 (lv_at hl 3 rfl) ?_
                                  refine q_if_ne (tgt := 340) M dL_steps_321 (by decide) (by omega) (fun c321 => ?_) (fun c321 => ?_)
                                  · refine q_al M dL_steps_340 (lv_at hl 12 rfl) ?_
                                    refine q_il M dL_steps_342 (lv_at hl 3 rfl) ?_
                                    refine q_if_eq (tgt := 351) M dL_steps_344 (by decide) (by omega) (fun c344 => ?_) (fun c344 => ?_)
                                    · exfalso; omega
                                    · refine q_ic M dL_steps_347 ?_
                                      refine q_go (tgt := 353) M dL_steps_348 (by decide) ?_
                                      refine q_iald (f := κ 2) M w 2 0 rfl rfl (by omega) dL_steps_353 ?_
                                      refine q_iast (f := κ 2) (ws2 := WLstp cI o (mset (mset (mset (mset κ 0 (iU (κ 0) 0 ((κ 0) 0))) 1 (iU (κ 1) 0 ((κ 1) 0))) 2 (iU (κ 2) 0 ((κ 2) 0))) 3 (iU (κ 3) ((((16 * z2) + (4 * z11)) + z21) - 12) ((κ 3) ((((16 * z2) + (4 * z11)) + z21) - 12)))) ++ WAll cI a μ) M w 2 0 rfl rfl (by omega) rfl dL_steps_354 (fun H locs w => ?_)
                                      refine q_aln M dL_steps_355 (lv_at hl 8 rfl) ?_
                                      refine q_il M dL_steps_356 (lv_at hl 3 rfl) ?_
                                      refine q_if_eq (tgt := 365) M dL_steps_358 (by decide) (by omega) (fun c358 => ?_) (fun c358 => ?_)
                                      · exfalso; omega
                                      · refine q_ic M dL_steps_361 ?_
                                        refine q_go (tgt := 366) M dL_steps_362 (by decide) ?_
                                        refine q_il M dL_steps_366 (lv_at hl 7 rfl) ?_
                                        refine q_il M dL_steps_368 (lv_at hl 6 rfl) ?_
                                        refine q_il M dL_steps_370 (lv_at hl 5 rfl) ?_
                                        refine q_il M dL_steps_372 (lv_at hl 4 rfl) ?_
                                        refine q_ic M dL_steps_374 ?_
                                        refine q_sub M dL_steps_375 ?_
                                        refine qc_L (As := [.ref (a 0), .int (iI 2), .int (iI z2), .int (iI z11), .int (iI z21), .int (iI (z47 - 1))]) (rest := []) (wc := WAll cI a μ) (wc2 := WAll cI a μ) (ws2 := WLstp cI o (mset (mset (mset (mset κ 0 (iU (κ 0) 0 ((κ 0) 0))) 1 (iU (κ 1) 0 ((κ 1) 0))) 2 (iU (κ 2) 0 ((κ 2) 0))) 3 (iU (κ 3) ((((16 * z2) + (4 * z11)) + z21) - 12) ((κ 3) ((((16 * z2) + (4 * z11)) + z21) - 12)))) ++ WAll cI a μ) M w hA hT hl (c_setFill l hfl D cI cZ cJ a μ z2 z11 z21 (z47 - 1) (by omega) (by omega) (by omega) (by omega) h23 (-7) μ (Or.inr ⟨by rw [chk_t (show 0 ≤ z2 ∧ z2 ≤ 11 from by omega), chk_t (show 0 ≤ z11 ∧ z11 ≤ 3 from by omega), chk_t (show 12 ≤ z21 ∧ z21 ≤ 15 from by omega), chk_t (show -1 ≤ (z47 - 1) ∧ (z47 - 1) ≤ 7 from by omega), chk_f (show ¬ (μ 23 0 = 0) from by omega)]; rfl, rfl, rfl⟩)) gL_steps_L_calls rfl ⟨by decide, by decide⟩ ⟨by show 0 + 5 ≤ 5; omega, by show 0 + 30 ≤ 30; omega⟩ 6 (by decide +kernel) rfl [false, false, false, false, false, true, true, true, true, true, true, true, true, true, true, true, true, true, true, true, true, true, true, true, true, true, true, true, true, true, true, true, true, true, true, true, true, true, true, true, true, true, true, true, true, true, true, true, true, true, true, true, true, true, true] rfl rfl rfl (Nat.le_of_ble_eq_true rfl) rfl dL_steps_376 (fun H locs w => ?_)
                                        refine q_il M dL_steps_379 (lv_at hl 0 rfl) ?_
                                        refine q_if_eq (tgt := 391) M dL_steps_381 (by decide) (by omega) (fun c381 => ?_) (fun c381 => ?_)
                                        · refine q_bp M dL_steps_391 (by decide +kernel) ?_
                                          refine q_icmp_neE (tgt := 400) (x := (-7)) (y := (-7)) M (by rfl) dL_steps_393 (by decide) ?_
                                          refine q_ic M dL_steps_396 ?_
                                          refine q_go (tgt := 401) M dL_steps_397 (by decide) ?_
                                          have hP9 : (1 : Int) = 1 ∧ ∃ ν2, Rel μ ν2 ∧ LR ν2 (mset (mset (mset (mset κ 0 (iU (κ 0) 0 ((κ 0) 0))) 1 (iU (κ 1) 0 ((κ 1) 0))) 2 (iU (κ 2) 0 ((κ 2) 0))) 3 (iU (κ 3) ((((16 * z2) + (4 * z11)) + z21) - 12) ((κ 3) ((((16 * z2) + (4 * z11)) + z21) - 12)))) := ⟨rfl, ν, hR, LR_st0 hL (fun j => by rw [iU_self]) (fun j => by rw [iU_self]) (fun j => by rw [iU_self]) (fun j => by rw [iU_self])⟩
                                          exact kret _ _ _ _ _ (iU (κ 0) 0 ((κ 0) 0), iU (κ 1) 0 ((κ 1) 0), iU (κ 2) 0 ((κ 2) 0), iU (κ 3) ((((16 * z2) + (4 * z11)) + z21) - 12) ((κ 3) ((((16 * z2) + (4 * z11)) + z21) - 12)), μ) _ _ (by decide) (by decide) dL_steps_401 w (hP9)
                                        · exfalso; omega
                                  · exfalso; omega
                            · exfalso; omega
                      · exfalso; omega
                · exfalso; omega
          · refine q_ic M dL_steps_163 ?_
            refine q_go (tgt := 168) M dL_steps_164 (by decide) ?_
            refine q_is (lv' := [(14, .int (iI 1)), (13, .int (iI ((κ 3) ((((16 * z2) + (4 * z11)) + z21) - 12)))), (12, .int (iI ((((16 * z2) + (4 * z11)) + z21) - 12))), (11, .int (iI fv)), (10, .int (iI z47)), (9, .int (iI z21)), (8, .int (iI z11)), (7, .int (iI z2)), (0, .ref (a 0)), (1, .int (iI zz)), (2, .ref (o 0)), (3, .ref (o 1)), (4, .ref (o 2)), (5, .ref (o 3)), (6, .ref (o 8))]) M dL_steps_168 hl (by decide) rfl (fun ls hl => ?_)
            refine q_al M dL_steps_170 (lv_at hl 13 rfl) ?_
            refine q_il M dL_steps_172 (lv_at hl 3 rfl) ?_
            refine q_if_eq (tgt := 182) M dL_steps_174 (by decide) (by omega) (fun c174 => ?_) (fun c174 => ?_)
            · exfalso; omega
            · refine q_il M dL_steps_177 (lv_at hl 2 rfl) ?_
              refine q_go (tgt := 183) M dL_steps_179 (by decide) ?_
              refine q_il M dL_steps_183 (lv_at hl 3 rfl) ?_
              refine q_if_eq (tgt := 198) M dL_steps_185 (by decide) (by omega) (fun c185 => ?_) (fun c185 => ?_)
              · exfalso; omega
              · refine q_il M dL_steps_188 (lv_at hl 0 rfl) ?_
                refine q_if_eq (tgt := 198) M dL_steps_190 (by decide) (by omega) (fun c190 => ?_) (fun c190 => ?_)
                · exfalso; omega
                · refine q_il M dL_steps_193 (lv_at hl 4 rfl) ?_
                  refine q_go (tgt := 212) M dL_steps_195 (by decide) ?_
                  refine q_iast (f := κ 3) (ws2 := WLstp cI o (mset κ 3 (iU (κ 3) ((((16 * z2) + (4 * z11)) + z21) - 12) z47)) ++ WAll cI a μ) M w 3 0 rfl rfl (by omega) rfl dL_steps_212 (fun H locs w => ?_)
                  refine q_aln M dL_steps_213 (lv_at hl 10 rfl) ?_
                  refine q_il M dL_steps_214 (lv_at hl 3 rfl) ?_
                  refine q_if_eq (tgt := 223) M dL_steps_216 (by decide) (by omega) (fun c216 => ?_) (fun c216 => ?_)
                  · exfalso; omega
                  · refine q_ic M dL_steps_219 ?_
                    refine q_go (tgt := 225) M dL_steps_220 (by decide) ?_
                    refine q_il M dL_steps_225 (lv_at hl 3 rfl) ?_
                    refine q_if_ne (tgt := 245) M dL_steps_227 (by decide) (by omega) (fun c227 => ?_) (fun c227 => ?_)
                    · refine q_aln M dL_steps_245 (lv_at hl 10 rfl) ?_
                      refine q_il M dL_steps_246 (lv_at hl 3 rfl) ?_
                      refine q_if_eq (tgt := 255) M dL_steps_248 (by decide) (by omega) (fun c248 => ?_) (fun c248 => ?_)
                      · exfalso; omega
                      · refine q_ic M dL_steps_251 ?_
                        refine q_go (tgt := 257) M dL_steps_252 (by decide) ?_
                        refine q_iald (f := κ 0) M w 0 0 rfl rfl (by omega) dL_steps_257 ?_
                        refine q_iast (f := κ 0) (ws2 := WLstp cI o (mset (mset κ 0 (iU (κ 0) 0 ((κ 0) 0))) 3 (iU (κ 3) ((((16 * z2) + (4 * z11)) + z21) - 12) z47)) ++ WAll cI a μ) M w 0 0 rfl rfl (by omega) rfl dL_steps_258 (fun H locs w => ?_)
                        refine q_aln M dL_steps_259 (lv_at hl 11 rfl) ?_
                        refine q_il M dL_steps_260 (lv_at hl 3 rfl) ?_
                        refine q_if_eq (tgt := 269) M dL_steps_262 (by decide) (by omega) (fun c262 => ?_) (fun c262 => ?_)
                        · exfalso; omega
                        · refine q_ic M dL_steps_265 ?_
                          refine q_go (tgt := 271) M dL_steps_266 (by decide) ?_
                          refine q_il M dL_steps_271 (lv_at hl 3 rfl) ?_
                          refine q_if_ne (tgt := 292) M dL_steps_273 (by decide) (by omega) (fun c273 => ?_) (fun c273 => ?_)
                          · refine q_aln M dL_steps_292 (lv_at hl 11 rfl) ?_
                            refine q_il M dL_steps_293 (lv_at hl 3 rfl) ?_
                            refine q_if_eq (tgt := 302) M dL_steps_295 (by decide) (by omega) (fun c295 => ?_) (fun c295 => ?_)
                            · exfalso; omega
                            · refine q_ic M dL_steps_298 ?_
                              refine q_go (tgt := 304) M dL_steps_299 (by decide) ?_
                              refine q_iald (f := κ 1) M w 1 0 rfl rfl (by omega) dL_steps_304 ?_
                              refine q_iast (f := κ 1) (ws2 := WLstp cI o (mset (mset (mset κ 0 (iU (κ 0) 0 ((κ 0) 0))) 1 (iU (κ 1) 0 ((κ 1) 0))) 3 (iU (κ 3) ((((16 * z2) + (4 * z11)) + z21) - 12) z47)) ++ WAll cI a μ) M w 1 0 rfl rfl (by omega) rfl dL_steps_305 (fun H locs w => ?_)
                              refine q_al M dL_steps_306 (lv_at hl 12 rfl) ?_
                              refine q_il M dL_steps_308 (lv_at hl 3 rfl) ?_
                              refine q_if_eq (tgt := 317) M dL_steps_310 (by decide) (by omega) (fun c310 => ?_) (fun c310 => ?_)
                              · exfalso; omega
                              · refine q_ic M dL_steps_313 ?_
                                refine q_go (tgt := 319) M dL_steps_314 (by decide) ?_
                                refine q_il M dL_steps_319 (lv_at hl 3 rfl) ?_
                                refine q_if_ne (tgt := 340) M dL_steps_321 (by decide) (by omega) (fun c321 => ?_) (fun c321 => ?_)
                                · refine q_al M dL_steps_340 (lv_at hl 12 rfl) ?_
                                  refine q_il M dL_steps_342 (lv_at hl 3 rfl) ?_
                                  refine q_if_eq (tgt := 351) M dL_steps_344 (by decide) (by omega) (fun c344 => ?_) (fun c344 => ?_)
                                  · exfalso; omega
                                  · refine q_ic M dL_steps_347 ?_
                                    refine q_go (tgt := 353) M dL_steps_348 (by decide) ?_
                                    refine q_iald (f := κ 2) M w 2 0 rfl rfl (by omega) dL_steps_353 ?_
                                    refine q_iast (f := κ 2) (ws2 := WLstp cI o (mset (mset (mset (mset κ 0 (iU (κ 0) 0 ((κ 0) 0))) 1 (iU (κ 1) 0 ((κ 1) 0))) 2 (iU (κ 2) 0 ((κ 2) 0))) 3 (iU (κ 3) ((((16 * z2) + (4 * z11)) + z21) - 12) z47)) ++ WAll cI a μ) M w 2 0 rfl rfl (by omega) rfl dL_steps_354 (fun H locs w => ?_)
                                    refine q_aln M dL_steps_355 (lv_at hl 8 rfl) ?_
                                    refine q_il M dL_steps_356 (lv_at hl 3 rfl) ?_
                                    refine q_if_eq (tgt := 365) M dL_steps_358 (by decide) (by omega) (fun c358 => ?_) (fun c358 => ?_)
                                    · exfalso; omega
                                    · refine q_ic M dL_steps_361 ?_
                                      refine q_go (tgt := 366) M dL_steps_362 (by decide) ?_
                                      refine q_il M dL_steps_366 (lv_at hl 7 rfl) ?_
                                      refine q_il M dL_steps_368 (lv_at hl 6 rfl) ?_
                                      refine q_il M dL_steps_370 (lv_at hl 5 rfl) ?_
                                      refine q_il M dL_steps_372 (lv_at hl 4 rfl) ?_
                                      refine q_ic M dL_steps_374 ?_
                                      refine q_sub M dL_steps_375 ?_
                                      refine qc_L (As := [.ref (a 0), .int (iI 2), .int (iI z2), .int (iI z11), .int (iI z21), .int (iI (z47 - 1))]) (rest := []) (wc := WAll cI a μ) (wc2 := WAll cI a (mset μ 3 (iU (μ 3) ((z2 * 4 + z11) * 4 + z21 - 12) (z47 - 1)))) (ws2 := WLstp cI o (mset (mset (mset (mset κ 0 (iU (κ 0) 0 ((κ 0) 0))) 1 (iU (κ 1) 0 ((κ 1) 0))) 2 (iU (κ 2) 0 ((κ 2) 0))) 3 (iU (κ 3) ((((16 * z2) + (4 * z11)) + z21) - 12) z47)) ++ WAll cI a (mset μ 3 (iU (μ 3) ((z2 * 4 + z11) * 4 + z21 - 12) (z47 - 1)))) M w hA hT hl (c_setFill l hfl D cI cZ cJ a μ z2 z11 z21 (z47 - 1) (by omega) (by omega) (by omega) (by omega) h23 (μ 3 ((z2 * 4 + z11) * 4 + z21 - 12)) (mset μ 3 (iU (μ 3) ((z2 * 4 + z11) * 4 + z21 - 12) (z47 - 1))) (Or.inl ⟨by rw [chk_t (show 0 ≤ z2 ∧ z2 ≤ 11 from by omega), chk_t (show 0 ≤ z11 ∧ z11 ≤ 3 from by omega), chk_t (show 12 ≤ z21 ∧ z21 ≤ 15 from by omega), chk_t (show -1 ≤ (z47 - 1) ∧ (z47 - 1) ≤ 7 from by omega), chk_t (show μ 23 0 = 0 from by omega)]; rfl, rfl, rfl⟩)) gL_steps_L_calls rfl ⟨by decide, by decide⟩ ⟨by show 0 + 5 ≤ 5; omega, by show 0 + 30 ≤ 30; omega⟩ 6 (by decide +kernel) rfl [false, false, false, false, false, true, true, true, true, true, true, true, true, true, true, true, true, true, true, true, true, true, true, true, true, true, true, true, true, true, true, true, true, true, true, true, true, true, true, true, true, true, true, true, true, true, true, true, true, true, true, true, true, true, true] rfl rfl rfl (Nat.le_of_ble_eq_true rfl) rfl dL_steps_376 (fun H locs w => ?_)
                                      refine q_il M dL_steps_379 (lv_at hl 0 rfl) ?_
                                      refine q_if_eq (tgt := 391) M dL_steps_381 (by decide) (by omega) (fun c381 => ?_) (fun c381 => ?_)
                                      · exfalso; omega
                                      · refine q_il M dL_steps_384 (lv_at hl 1 rfl) ?_
                                        refine q_ic M dL_steps_386 ?_
                                        refine q_sub M dL_steps_387 ?_
                                        refine q_go (tgt := 393) M dL_steps_388 (by decide) ?_
                                        refine q_icmp_neE (tgt := 400) (x := μ 3 ((z2 * 4 + z11) * 4 + z21 - 12)) (y := ((κ 3) ((((16 * z2) + (4 * z11)) + z21) - 12)) - 1) M (by have q1 := congrFun hR.1.1.2.2.2.1 ((z2 * 4 + z11) * 4 + z21 - 12); have q2 := hL.1.2.1 (16 * z2 + 4 * z11 + z21 - 12) (by omega) (by omega); rw [show (z2 * 4 + z11) * 4 + z21 - 12 = 16 * z2 + 4 * z11 + z21 - 12 by omega] at q1 ⊢; omega) dL_steps_393 (by decide) ?_
                                        refine q_ic M dL_steps_396 ?_
                                        refine q_go (tgt := 401) M dL_steps_397 (by decide) ?_
                                        have hP9 : (1 : Int) = 1 ∧ ∃ ν2, Rel (mset μ 3 (iU (μ 3) ((z2 * 4 + z11) * 4 + z21 - 12) (z47 - 1))) ν2 ∧ LR ν2 (mset (mset (mset (mset κ 0 (iU (κ 0) 0 ((κ 0) 0))) 1 (iU (κ 1) 0 ((κ 1) 0))) 2 (iU (κ 2) 0 ((κ 2) 0))) 3 (iU (κ 3) ((((16 * z2) + (4 * z11)) + z21) - 12) z47)) := ⟨rfl, _, Rel_setFill hR (by omega) (by omega), LR_st2 hL (fun j => by rw [iU_self]) (fun j => by rw [iU_self]) (fun j => by rw [iU_self]) (fun j => rfl) _⟩
                                        exact kret _ _ _ _ _ (iU (κ 0) 0 ((κ 0) 0), iU (κ 1) 0 ((κ 1) 0), iU (κ 2) 0 ((κ 2) 0), iU (κ 3) ((((16 * z2) + (4 * z11)) + z21) - 12) z47, (mset μ 3 (iU (μ 3) ((z2 * 4 + z11) * 4 + z21 - 12) (z47 - 1)))) _ _ (by decide) (by decide) dL_steps_401 w (hP9)
                                · exfalso; omega
                          · exfalso; omega
                    · exfalso; omega
    refine q_icmp_le (tgt := 74) M dL_steps_56 (by decide) (by omega) (fun c56 => ?_) (fun c56 => ?_)
    · refine q_ic M dL_steps_74 ?_
      exact jn56 0 _ _ _ (by omega) w (lv_sub hl [0, 1, 2, 3, 4, 5, 6, 7, 8, 9, 10] rfl)
    · refine q_iln M dL_steps_59 (lv_at hl 5 rfl) ?_
      refine q_bp M dL_steps_60 (by decide +kernel) ?_
      refine q_shr M dL_steps_62 ?_
      refine q_ic M dL_steps_63 ?_
      refine qe_iS (As := [.int (iI (shR zz 11)), .int (iI 2)]) (rest := []) (wc := []) (G := fun x64 => WLstp cI o κ ++ WAll cI a μ) M w hA hl (k_low l D cI cZ cJ (shR zz 11) 2 (by omega)) gL_steps_L_low rfl ⟨rfl, rfl, by decide, by decide⟩ ⟨by show 0 ≤ 5; omega, by show 0 ≤ 30; omega⟩ 2 (by decide +kernel) rfl [] rfl (fun _ => rfl) rfl (Nat.le_of_ble_eq_true rfl) (fun _ => rfl) dL_steps_64 (fun z64 x64 h64 H locs w => ?_)
      refine q_if_ne (tgt := 74) M dL_steps_67 (by decide) (by omega) (fun c67 => ?_) (fun c67 => ?_)
      · refine q_ic M dL_steps_74 ?_
        exact jn56 0 _ _ _ (by omega) w (lv_sub hl [0, 1, 2, 3, 4, 5, 6, 7, 8, 9, 10] rfl)
      · refine q_ic M dL_steps_70 ?_
        refine q_go (tgt := 75) M dL_steps_71 (by decide) ?_
        exact jn56 1 _ _ _ (by omega) w (lv_sub hl [0, 1, 2, 3, 4, 5, 6, 7, 8, 9, 10] rfl)
  refine q_if_ne (tgt := 46) M dL_steps_38 (by decide) (by omega) (fun c38 => ?_) (fun c38 => ?_)
  · refine q_ic M dL_steps_46 ?_
    exact jn38 4 _ _ _ (by omega) w (lv_sub hl [0, 1, 2, 3, 4, 5, 6, 7, 8, 9] rfl)
  · refine q_bp M dL_steps_41 (by decide +kernel) ?_
    refine q_go (tgt := 47) M dL_steps_43 (by decide) ?_
    exact jn38 9 _ _ _ (by omega) w (lv_sub hl [0, 1, 2, 3, 4, 5, 6, 7, 8, 9] rfl)
