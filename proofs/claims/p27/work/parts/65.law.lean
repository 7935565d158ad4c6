/-! THE LAW, from its first rows on -/
def kz : Nat → Int → Int := fun _ _ => 0
theorem LR_init {g : Int → Int} (h1 : ∀ j, 0 ≤ j → j < 8 → g j = 1) (h2 : ∀ j, 8 ≤ j → g j = 0) : LR nu0 (mset kz 5 g) := by
  refine ⟨⟨fun k a b => ⟨rfl, rfl, rfl⟩, fun k a b => rfl, fun k a b => ⟨rfl, rfl⟩⟩, ⟨fun k a b => ⟨h1 k a b, h2 _ (by omega)⟩, fun j a b => h2 _ (by omega), rfl⟩, fun s a b => ⟨⟨rfl, Int.le_refl 0, by show (0 : Int) ≤ 4; omega⟩, fun e c d => ?_⟩, ⟨⟨rfl, Int.le_refl 0, by show (0 : Int) ≤ 3; omega⟩, fun j a b => ?_⟩, ⟨fun k a b => rfl, ⟨rfl, rfl⟩, rfl, rfl, rfl⟩, fun _ => rfl, fun z => ?_⟩
  · have d : e < 0 := d
    omega
  · have b : j < 0 := b
    omega
  · have z : (0 : Int) = 1 := z
    omega

set_option maxHeartbeats 4000000 in
set_option maxRecDepth 100000 in
theorem law_run {zp : Program} {l : Launch} {ze : Env} {zs : State} {zm : MethodId} {zargs : Array Value} {zbelow : List Frame} {zmeth : Method} {zc : Code} {Q : State → Prop} {D : va_G} {cI cZ cJ : ClassId} {A : Nat → Prop} {bs L : Nat} {xs : Nat → Int32} {a o : Nat → Nat} (hfl : l.stackTraces = false) (M : qM zp zm zc code 18 zs zargs wsL_law RL D (tY cI cZ cJ)) (hA : ∀ q : Nat, zs.heap.size ≤ q → A q) (hT : qT A zs zs.heap) (hX : va_X bs L xs zs zs.heap) (hbl : bs < zs.heap.size) (hbA : ¬ A bs) (hLn : L ≤ 260)
    (hend : ∀ (H : Heap) (locs : List Loc) (ls : Array Slot) (k n : Nat), k ≤ 600104 → n ≤ 7301314 → va_S A zs.heap H locs → W zp l ze room_1 zs zm zargs zbelow zmeth zc H locs k n Q (F0 zm 400 ls [])) :
    ∀ (H : Heap) (locs : List Loc) (ls : Array Slot), wW D A zs.heap (WLall cI o kz ++ WAll cI a mu0) H locs → lv_has ls 18 [(0, .ref bs), (1, .ref (a 0)), (2, .ref (o 0)), (3, .ref (o 1)), (4, .ref (o 2)), (5, .ref (o 3)), (6, .ref (o 4)), (7, .ref (o 5)), (8, .ref (o 6)), (9, .ref (o 7)), (10, .ref (o 8)), (11, .ref (o 9)), (12, .ref (o 10)), (13, .ref (o 11))] → W zp l ze room_1 zs zm zargs zbelow zmeth zc H locs 200 60000 Q (F0 zm 78 ls []) := by
  intro H locs ls w hl
  refine q_ic M dL_law_78 ?_
  refine q_is (lv' := [(14, .int (iI 0)), (0, .ref bs), (1, .ref (a 0)), (2, .ref (o 0)), (3, .ref (o 1)), (4, .ref (o 2)), (5, .ref (o 3)), (6, .ref (o 4)), (7, .ref (o 5)), (8, .ref (o 6)), (9, .ref (o 7)), (10, .ref (o 8)), (11, .ref (o 9)), (12, .ref (o 10)), (13, .ref (o 11))]) M dL_law_79 hl (by decide) rfl (fun ls hl => ?_)
  have lp81 : ∀ (n81 : Nat) (i : Int) (g : Int → Int), (0 ≤ i ∧ i ≤ 8) → (∀ j, 0 ≤ j → j < i → g j = 1) → (∀ j, 8 ≤ j → g j = 0) → (8 - i : Int) < (n81 : Int) → ∀ (H : Heap) (locs : List Loc) (ls : Array Slot), wW D A zs.heap (WLall cI o (mset kz 5 g) ++ WAll cI a mu0) H locs → lv_has ls 18 [(0, .ref bs), (1, .ref (a 0)), (2, .ref (o 0)), (3, .ref (o 1)), (4, .ref (o 2)), (5, .ref (o 3)), (6, .ref (o 4)), (7, .ref (o 5)), (8, .ref (o 6)), (9, .ref (o 7)), (10, .ref (o 8)), (11, .ref (o 9)), (12, .ref (o 10)), (13, .ref (o 11)), (14, .int (iI i))] → W zp l ze room_1 zs zm zargs zbelow zmeth zc H locs 200 60000 Q (F0 zm 81 ls []) := by
    intro n81
    induction n81 with
    | zero => intro i g hi hg1 hg2 hm H locs ls w hl; exfalso; omega
    | succ n81 ih81 =>
      intro i g hi hg1 hg2 hm81 H locs ls w hl
      refine q_il M dL_law_81 (lv_at hl 14 rfl) ?_
      refine q_bp M dL_law_83 (by decide +kernel) ?_
      refine q_icmp_ge (tgt := 100) M dL_law_85 (by decide) (by omega) (fun c85 => ?_) (fun c85 => ?_)
      · refine q_ic M dL_law_100 ?_
        refine q_is (lv' := [(14, .int (iI 0)), (0, .ref bs), (1, .ref (a 0)), (2, .ref (o 0)), (3, .ref (o 1)), (4, .ref (o 2)), (5, .ref (o 3)), (6, .ref (o 4)), (7, .ref (o 5)), (8, .ref (o 6)), (9, .ref (o 7)), (10, .ref (o 8)), (11, .ref (o 9)), (12, .ref (o 10)), (13, .ref (o 11))]) M dL_law_101 hl (by decide) rfl (fun ls hl => ?_)
        have lp103 : ∀ (n103 : Nat) (j : Int) (κ : Nat → Int → Int) (μ : Nat → Int → Int) (ν : Nat → Int → Int), (0 ≤ j ∧ j ≤ 90) → (Rel μ ν) → (LR ν κ) → (90 - j : Int) < (n103 : Int) → ∀ (H : Heap) (locs : List Loc) (ls : Array Slot), wW D A zs.heap (WLall cI o κ ++ WAll cI a μ) H locs → lv_has ls 18 [(0, .ref bs), (1, .ref (a 0)), (2, .ref (o 0)), (3, .ref (o 1)), (4, .ref (o 2)), (5, .ref (o 3)), (6, .ref (o 4)), (7, .ref (o 5)), (8, .ref (o 6)), (9, .ref (o 7)), (10, .ref (o 8)), (11, .ref (o 9)), (12, .ref (o 10)), (13, .ref (o 11)), (14, .int (iI j))] → W zp l ze room_1 zs zm zargs zbelow zmeth zc H locs (200 + 40 * j.toNat) (60000 + 240 * j.toNat) Q (F0 zm 103 ls []) := by
          intro n103
          induction n103 with
          | zero => intro j κ μ ν hj hR hL hm H locs ls w hl; exfalso; omega
          | succ n103 ih103 =>
            intro j κ μ ν hj hR hL hm103 H locs ls w hl
            refine q_il M dL_law_103 (lv_at hl 14 rfl) ?_
            refine q_bp M dL_law_105 (by decide +kernel) ?_
            refine q_icmp_ge (tgt := 400) M dL_law_107 (by decide) (by omega) (fun c107 => ?_) (fun c107 => ?_)
            · exact hend _ _ _ _ _ (by show 200 + 40 * j.toNat ≤ 600104; omega) (by show 60000 + 240 * j.toNat ≤ 7301314; omega) w.2.2
            · refine q_aln M dL_law_110 (lv_at hl 0 rfl) ?_
              refine q_il M dL_law_111 (lv_at hl 14 rfl) ?_
              refine qx_cell M w hA hX hbl hbA hl (k_cell l D (tY cI cZ cJ) bs L xs j hLn (by omega)) gL_law_L_cell ⟨by decide, by decide⟩ ⟨by show (200 + 40 * j.toNat) ≤ 600104; omega, by show (60000 + 240 * j.toNat) ≤ 7301314; omega⟩ (Nat.le_of_ble_eq_true rfl) dL_law_113 (fun z113 h113 H locs w => ?_)
              refine q_is (lv' := [(15, .int (iI z113)), (0, .ref bs), (1, .ref (a 0)), (2, .ref (o 0)), (3, .ref (o 1)), (4, .ref (o 2)), (5, .ref (o 3)), (6, .ref (o 4)), (7, .ref (o 5)), (8, .ref (o 6)), (9, .ref (o 7)), (10, .ref (o 8)), (11, .ref (o 9)), (12, .ref (o 10)), (13, .ref (o 11)), (14, .int (iI j))]) M dL_law_116 hl (by decide) rfl (fun ls hl => ?_)
              refine q_il M dL_law_118 (lv_at hl 0 rfl) ?_
              refine q_bp M dL_law_120 (by decide +kernel) ?_
              refine qe_iS (As := [.int (iI z113), .int (iI 32)]) (rest := []) (wc := []) (G := fun x122 => WLall cI o κ ++ WAll cI a μ) M w hA hl (k_low l D cI cZ cJ z113 32 (by omega)) gL_law_L_low rfl ⟨rfl, rfl, by decide, by decide⟩ ⟨by show (200 + 40 * j.toNat) ≤ 600104; omega, by show (60000 + 240 * j.toNat) ≤ 7301314; omega⟩ 2 (by decide +kernel) rfl [] rfl (fun _ => rfl) rfl (Nat.le_of_ble_eq_true rfl) (fun _ => rfl) dL_law_122 (fun z122 x122 h122 H locs w => ?_)
              refine q_is (lv' := [(16, .int (iI z122)), (15, .int (iI z113)), (0, .ref bs), (1, .ref (a 0)), (2, .ref (o 0)), (3, .ref (o 1)), (4, .ref (o 2)), (5, .ref (o 3)), (6, .ref (o 4)), (7, .ref (o 5)), (8, .ref (o 6)), (9, .ref (o 7)), (10, .ref (o 8)), (11, .ref (o 9)), (12, .ref (o 10)), (13, .ref (o 11)), (14, .int (iI j))]) M dL_law_125 hl (by decide) rfl (fun ls hl => ?_)
              refine q_ic M dL_law_127 ?_
              refine q_is (lv' := [(17, .int (iI 1)), (16, .int (iI z122)), (15, .int (iI z113)), (0, .ref bs), (1, .ref (a 0)), (2, .ref (o 0)), (3, .ref (o 1)), (4, .ref (o 2)), (5, .ref (o 3)), (6, .ref (o 4)), (7, .ref (o 5)), (8, .ref (o 6)), (9, .ref (o 7)), (10, .ref (o 8)), (11, .ref (o 9)), (12, .ref (o 10)), (13, .ref (o 11)), (14, .int (iI j))]) M dL_law_128 hl (by decide) rfl (fun ls hl => ?_)
              refine q_il M dL_law_130 (lv_at hl 17 rfl) ?_
              refine q_bp M dL_law_132 (by decide +kernel) ?_
              have jn134 : ∀ (κ2 : Nat → Int → Int) (μ2 : Nat → Int → Int) (ν2 : Nat → Int → Int) (H : Heap) (locs : List Loc) (ls : Array Slot), (Rel μ2 ν2) → (LR ν2 κ2) → wW D A zs.heap (WLall cI o κ2 ++ WAll cI a μ2) H locs → lv_has ls 18 [(0, .ref bs), (1, .ref (a 0)), (2, .ref (o 0)), (3, .ref (o 1)), (4, .ref (o 2)), (5, .ref (o 3)), (6, .ref (o 4)), (7, .ref (o 5)), (8, .ref (o 6)), (9, .ref (o 7)), (10, .ref (o 8)), (11, .ref (o 9)), (12, .ref (o 10)), (13, .ref (o 11)), (14, .int (iI j)), (15, .int (iI z113)), (16, .int (iI z122)), (17, .int (iI 1))] → W zp l ze room_1 zs zm zargs zbelow zmeth zc H locs ((200 + 40 * j.toNat) + 5) ((60000 + 240 * j.toNat) + 30) Q (F0 zm 331 ls []) := by
                intro κ2 μ2 ν2 H locs ls hR2 hL2 w hl
                refine q_il M dL_law_331 (lv_at hl 17 rfl) ?_
                refine q_if_eq (tgt := 392) M dL_law_333 (by decide) (by omega) (fun c333 => ?_) (fun c333 => ?_)
                · exfalso; omega
                · refine q_aln M dL_law_336 (lv_at hl 1 rfl) ?_
                  refine q_aln M dL_law_337 (lv_at hl 2 rfl) ?_
                  refine q_aln M dL_law_338 (lv_at hl 3 rfl) ?_
                  refine q_al M dL_law_339 (lv_at hl 4 rfl) ?_
                  refine q_al M dL_law_341 (lv_at hl 5 rfl) ?_
                  refine q_al M dL_law_343 (lv_at hl 6 rfl) ?_
                  refine q_al M dL_law_345 (lv_at hl 10 rfl) ?_
                  refine q_al M dL_law_347 (lv_at hl 11 rfl) ?_
                  refine q_al M dL_law_349 (lv_at hl 12 rfl) ?_
                  refine qe_L (As := [.ref (a 0), .ref (o 0), .ref (o 1), .ref (o 2), .ref (o 3), .ref (o 4), .ref (o 8), .ref (o 9), .ref (o 10)]) (rest := []) (wc := WLuse cI o κ2 ++ WAll cI a μ2) (G := fun x351 => WLall cI o (mset κ2 9 x351.1) ++ WAll cI a x351.2) M w hA hT hl (k_memory l hfl D cI cZ cJ a o μ2 ν2 κ2 hR2 hL2  ) gL_law_L_memory rfl ⟨by decide, by decide⟩ ⟨by show ((200 + 40 * j.toNat) + 5) + 20 ≤ 600104; omega, by show ((60000 + 240 * j.toNat) + 30) + 120 ≤ 7301314; omega⟩ 9 (by decide +kernel) rfl [true, true, true, true, true, false, false, false, true, true, true, false, true, true, true, true, true, true, true, true, true, true, true, true, true, true, true, true, true, true, true, true, true, true, true, true, true, true, true, true, true, true, true, true, true, true, true, true, true, true, true, true, true, true, true, true, true, true, true, true, true, true] rfl (fun _ => rfl) rfl (Nat.le_of_ble_eq_true rfl) (fun _ => rfl) dL_law_351 (fun z351 x351 h351 H locs w => ?_)
                  obtain ⟨e351, n351, hR351, hL351⟩ := h351
                  refine q_top (y := 1) (by exact e351) ?_
                  refine q_if_eq (tgt := 392) M dL_law_354 (by decide) (by omega) (fun c354 => ?_) (fun c354 => ?_)
                  · exfalso; omega
                  · refine q_aln M dL_law_357 (lv_at hl 1 rfl) ?_
                    refine q_il M dL_law_358 (lv_at hl 15 rfl) ?_
                    refine q_bp M dL_law_360 (by decide +kernel) ?_
                    refine q_shr M dL_law_362 ?_
                    refine q_ic M dL_law_363 ?_
                    refine qe_iS (As := [.int (iI (shR z113 6)), .int (iI 3)]) (rest := [.ref (a 0)]) (wc := []) (G := fun x364 => WLall cI o (mset κ2 9 x351.1) ++ WAll cI a x351.2) M w hA hl (k_low l D cI cZ cJ (shR z113 6) 3 (by omega)) gL_law_L_low rfl ⟨rfl, rfl, by decide, by decide⟩ ⟨by show (((200 + 40 * j.toNat) + 5) + 20) ≤ 600104; omega, by show (((60000 + 240 * j.toNat) + 30) + 120) ≤ 7301314; omega⟩ 2 (by decide +kernel) rfl [] rfl (fun _ => rfl) rfl (Nat.le_of_ble_eq_true rfl) (fun _ => rfl) dL_law_364 (fun z364 x364 h364 H locs w => ?_)
                    refine q_il M dL_law_367 (lv_at hl 15 rfl) ?_
                    refine q_bp M dL_law_369 (by decide +kernel) ?_
                    refine q_shr M dL_law_371 ?_
                    refine q_aln M dL_law_372 (lv_at hl 2 rfl) ?_
                    refine q_aln M dL_law_373 (lv_at hl 3 rfl) ?_
                    refine q_al M dL_law_374 (lv_at hl 4 rfl) ?_
                    refine q_al M dL_law_376 (lv_at hl 5 rfl) ?_
                    refine q_al M dL_law_378 (lv_at hl 6 rfl) ?_
                    refine q_al M dL_law_380 (lv_at hl 8 rfl) ?_
                    refine q_al M dL_law_382 (lv_at hl 9 rfl) ?_
                    refine q_al M dL_law_384 (lv_at hl 13 rfl) ?_
                    refine qe_L (As := [.ref (a 0), .int (iI z364), .int (iI (shR z113 8)), .ref (o 0), .ref (o 1), .ref (o 2), .ref (o 3), .ref (o 4), .ref (o 6), .ref (o 7), .ref (o 11)]) (rest := []) (wc := WLsng cI o (mset κ2 9 x351.1) ++ WAll cI a x351.2) (G := fun x386 => WLall cI o (mset (mset κ2 9 x351.1) 11 x386.1) ++ WAll cI a x386.2) M w hA hT hl (k_song l hfl D cI cZ cJ a o x351.2 n351 (mset κ2 9 x351.1) hR351 hL351 z364 (shR z113 8) (by omega)) gL_law_L_song rfl ⟨by decide, by decide⟩ ⟨by show (((200 + 40 * j.toNat) + 5) + 20) + 6 ≤ 600104; omega, by show (((60000 + 240 * j.toNat) + 30) + 120) + 36 ≤ 7301314; omega⟩ 11 (by decide +kernel) rfl [true, true, true, true, true, false, true, true, false, false, false, true, true, true, true, true, true, true, true, true, true, true, true, true, true, true, true, true, true, true, true, true, true, true, true, true, true, true, true, true, true, true, true, true, true, true, true, true, true, true, true, true, true, true, true, true, true, true, true, true, true, true] rfl (fun _ => rfl) rfl (Nat.le_of_ble_eq_true rfl) (fun _ => rfl) dL_law_386 (fun z386 x386 h386 H locs w => ?_)
                    obtain ⟨e386, n386, hR386, hL386⟩ := h386
                    refine q_top (y := 1) (by exact e386) ?_
                    refine q_if_ne (tgt := 394) M dL_law_389 (by decide) (by omega) (fun c389 => ?_) (fun c389 => ?_)
                    · refine q_inc (z := j) (lv' := [(14, .int (iI (j + 1))), (0, .ref bs), (1, .ref (a 0)), (2, .ref (o 0)), (3, .ref (o 1)), (4, .ref (o 2)), (5, .ref (o 3)), (6, .ref (o 4)), (7, .ref (o 5)), (8, .ref (o 6)), (9, .ref (o 7)), (10, .ref (o 8)), (11, .ref (o 9)), (12, .ref (o 10)), (13, .ref (o 11)), (15, .int (iI z113)), (16, .int (iI z122)), (17, .int (iI 1))]) M dL_law_394 hl (k := 14) rfl (by decide) rfl (fun ls hl => ?_)
                      refine q_go (tgt := 103) M dL_law_397 (by decide) ?_
                      refine W.widen (k := (200 + 40 * (j + 1).toNat)) (n := (60000 + 240 * (j + 1).toNat)) (by show ((((200 + 40 * j.toNat) + 5) + 20) + 6) ≤ (200 + 40 * (j + 1).toNat); omega) (by show ((((60000 + 240 * j.toNat) + 30) + 120) + 36) ≤ (60000 + 240 * (j + 1).toNat); omega) ?_
                      exact ih103 (j + 1) (mset (mset κ2 9 x351.1) 11 x386.1) x386.2 n386 (by omega) hR386 hL386 (by omega) _ _ _ w (lv_sub hl [1, 2, 3, 4, 5, 6, 7, 8, 9, 10, 11, 12, 13, 14, 0] rfl)
                    · exfalso; omega
              refine q_icmp_lt (tgt := 144) M dL_law_134 (by decide) (by omega) (fun c134 => ?_) (fun c134 => ?_)
              · refine q_aln M dL_law_144 (lv_at hl 4 rfl) ?_
                refine q_il M dL_law_145 (lv_at hl 2 rfl) ?_
                refine q_ic M dL_law_147 ?_
                refine q_shr M dL_law_148 ?_
                refine q_aln M dL_law_149 (lv_at hl 5 rfl) ?_
                refine q_aln M dL_law_150 (lv_at hl 6 rfl) ?_
                refine q_al M dL_law_151 (lv_at hl 7 rfl) ?_
                refine q_al M dL_law_153 (lv_at hl 8 rfl) ?_
                refine q_al M dL_law_155 (lv_at hl 13 rfl) ?_
                refine qe_L (As := [.ref (a 0), .int (iI (shR z113 5)), .ref (o 0), .ref (o 1), .ref (o 2), .ref (o 3), .ref (o 8)]) (rest := []) (wc := WLstp cI o κ ++ WAll cI a μ) (G := fun x157 => WLall cI o (mset (mset (mset (mset κ 0 x157.1) 1 x157.2.1) 2 x157.2.2.1) 3 x157.2.2.2.1) ++ WAll cI a x157.2.2.2.2) M w hA hT hl (k_steps l hfl D cI cZ cJ a o μ ν κ hR hL (shR z113 5) ) gL_law_L_steps rfl ⟨by decide, by decide⟩ ⟨by show (200 + 40 * j.toNat) + 5 ≤ 600104; omega, by show (60000 + 240 * j.toNat) + 30 ≤ 7301314; omega⟩ 7 (by decide +kernel) rfl [true, true, true, true, false, false, false, false, true, false, false, false, true, true, true, true, true, true, true, true, true, true, true, true, true, true, true, true, true, true, true, true, true, true, true, true, true, true, true, true, true, true, true, true, true, true, true, true, true, true, true, true, true, true, true, true, true, true, true, true, true, true] rfl (fun _ => rfl) rfl (Nat.le_of_ble_eq_true rfl) (fun _ => rfl) dL_law_157 (fun z157 x157 h157 H locs w => ?_)
                obtain ⟨e157, n157, hR157, hL157⟩ := h157
                refine q_top (y := 1) (by exact e157) ?_
                refine q_is (lv' := [(17, .int (iI 1)), (16, .int (iI z122)), (15, .int (iI z113)), (0, .ref bs), (1, .ref (a 0)), (2, .ref (o 0)), (3, .ref (o 1)), (4, .ref (o 2)), (5, .ref (o 3)), (6, .ref (o 4)), (7, .ref (o 5)), (8, .ref (o 6)), (9, .ref (o 7)), (10, .ref (o 8)), (11, .ref (o 9)), (12, .ref (o 10)), (13, .ref (o 11)), (14, .int (iI j))]) M dL_law_160 hl (by decide) rfl (fun ls hl => ?_)
                refine q_go (tgt := 331) M dL_law_162 (by decide) ?_
                exact jn134 (mset (mset (mset (mset κ 0 x157.1) 1 x157.2.1) 2 x157.2.2.1) 3 x157.2.2.2.1) x157.2.2.2.2 n157 _ _ _ hR157 hL157 w (lv_sub hl [3, 4, 5, 6, 7, 8, 9, 10, 11, 12, 13, 14, 15, 16, 17, 2, 1, 0] rfl)
              · refine q_il M dL_law_137 (lv_at hl 1 rfl) ?_
                refine q_bp M dL_law_139 (by decide +kernel) ?_
                refine q_icmp_ge (tgt := 165) M dL_law_141 (by decide) (by omega) (fun c141 => ?_) (fun c141 => ?_)
                · refine q_il M dL_law_165 (lv_at hl 1 rfl) ?_
                  refine q_bp M dL_law_167 (by decide +kernel) ?_
                  refine q_icmp_ge (tgt := 196) M dL_law_169 (by decide) (by omega) (fun c169 => ?_) (fun c169 => ?_)
                  · refine q_il M dL_law_196 (lv_at hl 1 rfl) ?_
                    refine q_bp M dL_law_198 (by decide +kernel) ?_
                    refine q_icmp_ge (tgt := 238) M dL_law_200 (by decide) (by omega) (fun c200 => ?_) (fun c200 => ?_)
                    · refine q_il M dL_law_238 (lv_at hl 1 rfl) ?_
                      refine q_bp M dL_law_240 (by decide +kernel) ?_
                      refine q_icmp_ge (tgt := 293) M dL_law_242 (by decide) (by omega) (fun c242 => ?_) (fun c242 => ?_)
                      · refine q_aln M dL_law_293 (lv_at hl 4 rfl) ?_
                        refine q_il M dL_law_294 (lv_at hl 1 rfl) ?_
                        refine q_bp M dL_law_296 (by decide +kernel) ?_
                        refine q_icmp_ne (tgt := 305) M dL_law_298 (by decide) (by omega) (fun c298 => ?_) (fun c298 => ?_)
                        · refine q_ic M dL_law_305 ?_
                          refine q_il M dL_law_306 (lv_at hl 2 rfl) ?_
                          refine q_ic M dL_law_308 ?_
                          refine q_shr M dL_law_309 ?_
                          refine q_aln M dL_law_310 (lv_at hl 5 rfl) ?_
                          refine q_aln M dL_law_311 (lv_at hl 6 rfl) ?_
                          refine q_al M dL_law_312 (lv_at hl 7 rfl) ?_
                          refine q_al M dL_law_314 (lv_at hl 8 rfl) ?_
                          refine q_al M dL_law_316 (lv_at hl 9 rfl) ?_
                          refine q_al M dL_law_318 (lv_at hl 10 rfl) ?_
                          refine q_al M dL_law_320 (lv_at hl 13 rfl) ?_
                          refine q_al M dL_law_322 (lv_at hl 14 rfl) ?_
                          refine q_al M dL_law_324 (lv_at hl 15 rfl) ?_
                          refine qe_L (As := [.ref (a 0), .int (iI 0), .int (iI (shR z113 5)), .ref (o 0), .ref (o 1), .ref (o 2), .ref (o 3), .ref (o 4), .ref (o 5), .ref (o 8), .ref (o 9), .ref (o 10)]) (rest := []) (wc := WLtic cI o κ ++ WAll cI a μ) (G := fun x326 => WLall cI o (mset (mset κ 8 x326.1) 9 x326.2.1) ++ WAll cI a x326.2.2) M w hA hT hl (k_plays l hfl D cI cZ cJ a o μ ν κ hR hL 0 (shR z113 5) (by omega)) gL_law_L_plays rfl ⟨by decide, by decide⟩ ⟨by show (200 + 40 * j.toNat) + 5 ≤ 600104; omega, by show (60000 + 240 * j.toNat) + 30 ≤ 7301314; omega⟩ 12 (by decide +kernel) rfl [true, true, true, true, true, true, false, false, true, true, true, false, true, true, true, true, true, true, true, true, true, true, true, true, true, true, true, true, true, true, true, true, true, true, true, true, true, true, true, true, true, true, true, true, true, true, true, true, true, true, true, true, true, true, true, true, true, true, true, true, true, true] rfl (fun _ => rfl) rfl (Nat.le_of_ble_eq_true rfl) (fun _ => rfl) dL_law_326 (fun z326 x326 h326 H locs w => ?_)
                          obtain ⟨e326, n326, hR326, hL326⟩ := h326
                          refine q_top (y := 1) (by exact e326) ?_
                          refine q_is (lv' := [(17, .int (iI 1)), (16, .int (iI z122)), (15, .int (iI z113)), (0, .ref bs), (1, .ref (a 0)), (2, .ref (o 0)), (3, .ref (o 1)), (4, .ref (o 2)), (5, .ref (o 3)), (6, .ref (o 4)), (7, .ref (o 5)), (8, .ref (o 6)), (9, .ref (o 7)), (10, .ref (o 8)), (11, .ref (o 9)), (12, .ref (o 10)), (13, .ref (o 11)), (14, .int (iI j))]) M dL_law_329 hl (by decide) rfl (fun ls hl => ?_)
                          exact jn134 (mset (mset κ 8 x326.1) 9 x326.2.1) x326.2.2 n326 _ _ _ hR326 hL326 w (lv_sub hl [3, 4, 5, 6, 7, 8, 9, 10, 11, 12, 13, 14, 15, 16, 17, 2, 1, 0] rfl)
                        · refine q_ic M dL_law_301 ?_
                          refine q_go (tgt := 306) M dL_law_302 (by decide) ?_
                          refine q_il M dL_law_306 (lv_at hl 2 rfl) ?_
                          refine q_ic M dL_law_308 ?_
                          refine q_shr M dL_law_309 ?_
                          refine q_aln M dL_law_310 (lv_at hl 5 rfl) ?_
                          refine q_aln M dL_law_311 (lv_at hl 6 rfl) ?_
                          refine q_al M dL_law_312 (lv_at hl 7 rfl) ?_
                          refine q_al M dL_law_314 (lv_at hl 8 rfl) ?_
                          refine q_al M dL_law_316 (lv_at hl 9 rfl) ?_
                          refine q_al M dL_law_318 (lv_at hl 10 rfl) ?_
                          refine q_al M dL_law_320 (lv_at hl 13 rfl) ?_
                          refine q_al M dL_law_322 (lv_at hl 14 rfl) ?_
                          refine q_al M dL_law_324 (lv_at hl 15 rfl) ?_
                          refine qe_L (As := [.ref (a 0), .int (iI 1), .int (iI (shR z113 5)), .ref (o 0), .ref (o 1), .ref (o 2), .ref (o 3), .ref (o 4), .ref (o 5), .ref (o 8), .ref (o 9), .ref (o 10)]) (rest := []) (wc := WLtic cI o κ ++ WAll cI a μ) (G := fun x326 => WLall cI o (mset (mset κ 8 x326.1) 9 x326.2.1) ++ WAll cI a x326.2.2) M w hA hT hl (k_plays l hfl D cI cZ cJ a o μ ν κ hR hL 1 (shR z113 5) (by omega)) gL_law_L_plays rfl ⟨by decide, by decide⟩ ⟨by show (200 + 40 * j.toNat) + 5 ≤ 600104; omega, by show (60000 + 240 * j.toNat) + 30 ≤ 7301314; omega⟩ 12 (by decide +kernel) rfl [true, true, true, true, true, true, false, false, true, true, true, false, true, true, true, true, true, true, true, true, true, true, true, true, true, true, true, true, true, true, true, true, true, true, true, true, true, true, true, true, true, true, true, true, true, true, true, true, true, true, true, true, true, true, true, true, true, true, true, true, true, true] rfl (fun _ => rfl) rfl (Nat.le_of_ble_eq_true rfl) (fun _ => rfl) dL_law_326 (fun z326 x326 h326 H locs w => ?_)
                          obtain ⟨e326, n326, hR326, hL326⟩ := h326
                          refine q_top (y := 1) (by exact e326) ?_
                          refine q_is (lv' := [(17, .int (iI 1)), (16, .int (iI z122)), (15, .int (iI z113)), (0, .ref bs), (1, .ref (a 0)), (2, .ref (o 0)), (3, .ref (o 1)), (4, .ref (o 2)), (5, .ref (o 3)), (6, .ref (o 4)), (7, .ref (o 5)), (8, .ref (o 6)), (9, .ref (o 7)), (10, .ref (o 8)), (11, .ref (o 9)), (12, .ref (o 10)), (13, .ref (o 11)), (14, .int (iI j))]) M dL_law_329 hl (by decide) rfl (fun ls hl => ?_)
                          exact jn134 (mset (mset κ 8 x326.1) 9 x326.2.1) x326.2.2 n326 _ _ _ hR326 hL326 w (lv_sub hl [3, 4, 5, 6, 7, 8, 9, 10, 11, 12, 13, 14, 15, 16, 17, 2, 1, 0] rfl)
                      · refine q_aln M dL_law_245 (lv_at hl 4 rfl) ?_
                        refine q_il M dL_law_246 (lv_at hl 1 rfl) ?_
                        refine q_bp M dL_law_248 (by decide +kernel) ?_
                        refine q_icmp_ge (tgt := 257) M dL_law_250 (by decide) (by omega) (fun c250 => ?_) (fun c250 => ?_)
                        · refine q_il M dL_law_257 (lv_at hl 1 rfl) ?_
                          refine q_bp M dL_law_259 (by decide +kernel) ?_
                          refine q_icmp_ne (tgt := 268) M dL_law_261 (by decide) (by omega) (fun c261 => ?_) (fun c261 => ?_)
                          · refine q_ic M dL_law_268 ?_
                            refine q_il M dL_law_269 (lv_at hl 2 rfl) ?_
                            refine q_ic M dL_law_271 ?_
                            refine q_shr M dL_law_272 ?_
                            refine q_al M dL_law_273 (lv_at hl 11 rfl) ?_
                            refine q_al M dL_law_275 (lv_at hl 12 rfl) ?_
                            refine q_al M dL_law_277 (lv_at hl 9 rfl) ?_
                            refine q_al M dL_law_279 (lv_at hl 13 rfl) ?_
                            refine q_al M dL_law_281 (lv_at hl 14 rfl) ?_
                            refine q_al M dL_law_283 (lv_at hl 15 rfl) ?_
                            refine qe_L (As := [.ref (a 0), .int (iI 2), .int (iI (shR z113 5)), .ref (o 6), .ref (o 7), .ref (o 4), .ref (o 8), .ref (o 9), .ref (o 10)]) (rest := []) (wc := WLlst cI o κ ++ WAll cI a μ) (G := fun x285 => WLall cI o (mset (mset (mset (mset κ 7 x285.1) 8 x285.2.1) 9 x285.2.2.1) 10 x285.2.2.2.1) ++ WAll cI a x285.2.2.2.2) M w hA hT hl (k_list l hfl D cI cZ cJ a o μ ν κ hR hL 2 (shR z113 5) (by omega)) gL_law_L_list rfl ⟨by decide, by decide⟩ ⟨by show (200 + 40 * j.toNat) + 5 ≤ 600104; omega, by show (60000 + 240 * j.toNat) + 30 ≤ 7301314; omega⟩ 9 (by decide +kernel) rfl [false, false, false, false, true, false, true, true, true, true, true, false, true, true, true, true, true, true, true, true, true, true, true, true, true, true, true, true, true, true, true, true, true, true, true, true, true, true, true, true, true, true, true, true, true, true, true, true, true, true, true, true, true, true, true, true, true, true, true, true, true, true] rfl (fun _ => rfl) rfl (Nat.le_of_ble_eq_true rfl) (fun _ => rfl) dL_law_285 (fun z285 x285 h285 H locs w => ?_)
                            obtain ⟨e285, n285, hR285, hL285⟩ := h285
                            refine q_top (y := 1) (by exact e285) ?_
                            refine q_is (lv' := [(17, .int (iI 1)), (16, .int (iI z122)), (15, .int (iI z113)), (0, .ref bs), (1, .ref (a 0)), (2, .ref (o 0)), (3, .ref (o 1)), (4, .ref (o 2)), (5, .ref (o 3)), (6, .ref (o 4)), (7, .ref (o 5)), (8, .ref (o 6)), (9, .ref (o 7)), (10, .ref (o 8)), (11, .ref (o 9)), (12, .ref (o 10)), (13, .ref (o 11)), (14, .int (iI j))]) M dL_law_288 hl (by decide) rfl (fun ls hl => ?_)
                            refine q_go (tgt := 331) M dL_law_290 (by decide) ?_
                            exact jn134 (mset (mset (mset (mset κ 7 x285.1) 8 x285.2.1) 9 x285.2.2.1) 10 x285.2.2.2.1) x285.2.2.2.2 n285 _ _ _ hR285 hL285 w (lv_sub hl [3, 4, 5, 6, 7, 8, 9, 10, 11, 12, 13, 14, 15, 16, 17, 2, 1, 0] rfl)
                          · refine q_ic M dL_law_264 ?_
                            refine q_go (tgt := 269) M dL_law_265 (by decide) ?_
                            refine q_il M dL_law_269 (lv_at hl 2 rfl) ?_
                            refine q_ic M dL_law_271 ?_
                            refine q_shr M dL_law_272 ?_
                            refine q_al M dL_law_273 (lv_at hl 11 rfl) ?_
                            refine q_al M dL_law_275 (lv_at hl 12 rfl) ?_
                            refine q_al M dL_law_277 (lv_at hl 9 rfl) ?_
                            refine q_al M dL_law_279 (lv_at hl 13 rfl) ?_
                            refine q_al M dL_law_281 (lv_at hl 14 rfl) ?_
                            refine q_al M dL_law_283 (lv_at hl 15 rfl) ?_
                            refine qe_L (As := [.ref (a 0), .int (iI 1), .int (iI (shR z113 5)), .ref (o 6), .ref (o 7), .ref (o 4), .ref (o 8), .ref (o 9), .ref (o 10)]) (rest := []) (wc := WLlst cI o κ ++ WAll cI a μ) (G := fun x285 => WLall cI o (mset (mset (mset (mset κ 7 x285.1) 8 x285.2.1) 9 x285.2.2.1) 10 x285.2.2.2.1) ++ WAll cI a x285.2.2.2.2) M w hA hT hl (k_list l hfl D cI cZ cJ a o μ ν κ hR hL 1 (shR z113 5) (by omega)) gL_law_L_list rfl ⟨by decide, by decide⟩ ⟨by show (200 + 40 * j.toNat) + 5 ≤ 600104; omega, by show (60000 + 240 * j.toNat) + 30 ≤ 7301314; omega⟩ 9 (by decide +kernel) rfl [false, false, false, false, true, false, true, true, true, true, true, false, true, true, true, true, true, true, true, true, true, true, true, true, true, true, true, true, true, true, true, true, true, true, true, true, true, true, true, true, true, true, true, true, true, true, true, true, true, true, true, true, true, true, true, true, true, true, true, true, true, true] rfl (fun _ => rfl) rfl (Nat.le_of_ble_eq_true rfl) (fun _ => rfl) dL_law_285 (fun z285 x285 h285 H locs w => ?_)
                            obtain ⟨e285, n285, hR285, hL285⟩ := h285
                            refine q_top (y := 1) (by exact e285) ?_
                            refine q_is (lv' := [(17, .int (iI 1)), (16, .int (iI z122)), (15, .int (iI z113)), (0, .ref bs), (1, .ref (a 0)), (2, .ref (o 0)), (3, .ref (o 1)), (4, .ref (o 2)), (5, .ref (o 3)), (6, .ref (o 4)), (7, .ref (o 5)), (8, .ref (o 6)), (9, .ref (o 7)), (10, .ref (o 8)), (11, .ref (o 9)), (12, .ref (o 10)), (13, .ref (o 11)), (14, .int (iI j))]) M dL_law_288 hl (by decide) rfl (fun ls hl => ?_)
                            refine q_go (tgt := 331) M dL_law_290 (by decide) ?_
                            exact jn134 (mset (mset (mset (mset κ 7 x285.1) 8 x285.2.1) 9 x285.2.2.1) 10 x285.2.2.2.1) x285.2.2.2.2 n285 _ _ _ hR285 hL285 w (lv_sub hl [3, 4, 5, 6, 7, 8, 9, 10, 11, 12, 13, 14, 15, 16, 17, 2, 1, 0] rfl)
                        · refine q_ic M dL_law_253 ?_
                          refine q_go (tgt := 269) M dL_law_254 (by decide) ?_
                          refine q_il M dL_law_269 (lv_at hl 2 rfl) ?_
                          refine q_ic M dL_law_271 ?_
                          refine q_shr M dL_law_272 ?_
                          refine q_al M dL_law_273 (lv_at hl 11 rfl) ?_
                          refine q_al M dL_law_275 (lv_at hl 12 rfl) ?_
                          refine q_al M dL_law_277 (lv_at hl 9 rfl) ?_
                          refine q_al M dL_law_279 (lv_at hl 13 rfl) ?_
                          refine q_al M dL_law_281 (lv_at hl 14 rfl) ?_
                          refine q_al M dL_law_283 (lv_at hl 15 rfl) ?_
                          refine qe_L (As := [.ref (a 0), .int (iI 0), .int (iI (shR z113 5)), .ref (o 6), .ref (o 7), .ref (o 4), .ref (o 8), .ref (o 9), .ref (o 10)]) (rest := []) (wc := WLlst cI o κ ++ WAll cI a μ) (G := fun x285 => WLall cI o (mset (mset (mset (mset κ 7 x285.1) 8 x285.2.1) 9 x285.2.2.1) 10 x285.2.2.2.1) ++ WAll cI a x285.2.2.2.2) M w hA hT hl (k_list l hfl D cI cZ cJ a o μ ν κ hR hL 0 (shR z113 5) (by omega)) gL_law_L_list rfl ⟨by decide, by decide⟩ ⟨by show (200 + 40 * j.toNat) + 5 ≤ 600104; omega, by show (60000 + 240 * j.toNat) + 30 ≤ 7301314; omega⟩ 9 (by decide +kernel) rfl [false, false, false, false, true, false, true, true, true, true, true, false, true, true, true, true, true, true, true, true, true, true, true, true, true, true, true, true, true, true, true, true, true, true, true, true, true, true, true, true, true, true, true, true, true, true, true, true, true, true, true, true, true, true, true, true, true, true, true, true, true, true] rfl (fun _ => rfl) rfl (Nat.le_of_ble_eq_true rfl) (fun _ => rfl) dL_law_285 (fun z285 x285 h285 H locs w => ?_)
                          obtain ⟨e285, n285, hR285, hL285⟩ := h285
                          refine q_top (y := 1) (by exact e285) ?_
                          refine q_is (lv' := [(17, .int (iI 1)), (16, .int (iI z122)), (15, .int (iI z113)), (0, .ref bs), (1, .ref (a 0)), (2, .ref (o 0)), (3, .ref (o 1)), (4, .ref (o 2)), (5, .ref (o 3)), (6, .ref (o 4)), (7, .ref (o 5)), (8, .ref (o 6)), (9, .ref (o 7)), (10, .ref (o 8)), (11, .ref (o 9)), (12, .ref (o 10)), (13, .ref (o 11)), (14, .int (iI j))]) M dL_law_288 hl (by decide) rfl (fun ls hl => ?_)
                          refine q_go (tgt := 331) M dL_law_290 (by decide) ?_
                          exact jn134 (mset (mset (mset (mset κ 7 x285.1) 8 x285.2.1) 9 x285.2.2.1) 10 x285.2.2.2.1) x285.2.2.2.2 n285 _ _ _ hR285 hL285 w (lv_sub hl [3, 4, 5, 6, 7, 8, 9, 10, 11, 12, 13, 14, 15, 16, 17, 2, 1, 0] rfl)
                    · refine q_aln M dL_law_203 (lv_at hl 4 rfl) ?_
                      refine q_il M dL_law_204 (lv_at hl 1 rfl) ?_
                      refine q_bp M dL_law_206 (by decide +kernel) ?_
                      refine q_icmp_ge (tgt := 215) M dL_law_208 (by decide) (by omega) (fun c208 => ?_) (fun c208 => ?_)
                      · refine q_ic M dL_law_215 ?_
                        refine q_il M dL_law_216 (lv_at hl 2 rfl) ?_
                        refine q_ic M dL_law_218 ?_
                        refine q_shr M dL_law_219 ?_
                        refine q_al M dL_law_220 (lv_at hl 11 rfl) ?_
                        refine q_al M dL_law_222 (lv_at hl 12 rfl) ?_
                        refine q_al M dL_law_224 (lv_at hl 9 rfl) ?_
                        refine q_al M dL_law_226 (lv_at hl 13 rfl) ?_
                        refine q_al M dL_law_228 (lv_at hl 16 rfl) ?_
                        refine qe_L (As := [.ref (a 0), .int (iI 1), .int (iI (shR z113 5)), .ref (o 6), .ref (o 7), .ref (o 4), .ref (o 8), .ref (o 11)]) (rest := []) (wc := WLsgs cI o κ ++ WAll cI a μ) (G := fun x230 => WLall cI o (mset (mset (mset κ 6 x230.1) 7 x230.2.1) 11 x230.2.2.1) ++ WAll cI a x230.2.2.2) M w hA hT hl (k_songs l hfl D cI cZ cJ a o μ ν κ hR hL 1 (shR z113 5) (by omega)) gL_law_L_songs rfl ⟨by decide, by decide⟩ ⟨by show (200 + 40 * j.toNat) + 5 ≤ 600104; omega, by show (60000 + 240 * j.toNat) + 30 ≤ 7301314; omega⟩ 8 (by decide +kernel) rfl [false, false, false, false, true, false, true, true, true, false, false, true, true, true, true, true, true, true, true, true, true, true, true, true, true, true, true, true, true, true, true, true, true, true, true, true, true, true, true, true, true, true, true, true, true, true, true, true, true, true, true, true, true, true, true, true, true, true, true, true, true, true] rfl (fun _ => rfl) rfl (Nat.le_of_ble_eq_true rfl) (fun _ => rfl) dL_law_230 (fun z230 x230 h230 H locs w => ?_)
                        obtain ⟨e230, n230, hR230, hL230⟩ := h230
                        refine q_top (y := 1) (by exact e230) ?_
                        refine q_is (lv' := [(17, .int (iI 1)), (16, .int (iI z122)), (15, .int (iI z113)), (0, .ref bs), (1, .ref (a 0)), (2, .ref (o 0)), (3, .ref (o 1)), (4, .ref (o 2)), (5, .ref (o 3)), (6, .ref (o 4)), (7, .ref (o 5)), (8, .ref (o 6)), (9, .ref (o 7)), (10, .ref (o 8)), (11, .ref (o 9)), (12, .ref (o 10)), (13, .ref (o 11)), (14, .int (iI j))]) M dL_law_233 hl (by decide) rfl (fun ls hl => ?_)
                        refine q_go (tgt := 331) M dL_law_235 (by decide) ?_
                        exact jn134 (mset (mset (mset κ 6 x230.1) 7 x230.2.1) 11 x230.2.2.1) x230.2.2.2 n230 _ _ _ hR230 hL230 w (lv_sub hl [3, 4, 5, 6, 7, 8, 9, 10, 11, 12, 13, 14, 15, 16, 17, 2, 1, 0] rfl)
                      · refine q_ic M dL_law_211 ?_
                        refine q_go (tgt := 216) M dL_law_212 (by decide) ?_
                        refine q_il M dL_law_216 (lv_at hl 2 rfl) ?_
                        refine q_ic M dL_law_218 ?_
                        refine q_shr M dL_law_219 ?_
                        refine q_al M dL_law_220 (lv_at hl 11 rfl) ?_
                        refine q_al M dL_law_222 (lv_at hl 12 rfl) ?_
                        refine q_al M dL_law_224 (lv_at hl 9 rfl) ?_
                        refine q_al M dL_law_226 (lv_at hl 13 rfl) ?_
                        refine q_al M dL_law_228 (lv_at hl 16 rfl) ?_
                        refine qe_L (As := [.ref (a 0), .int (iI 0), .int (iI (shR z113 5)), .ref (o 6), .ref (o 7), .ref (o 4), .ref (o 8), .ref (o 11)]) (rest := []) (wc := WLsgs cI o κ ++ WAll cI a μ) (G := fun x230 => WLall cI o (mset (mset (mset κ 6 x230.1) 7 x230.2.1) 11 x230.2.2.1) ++ WAll cI a x230.2.2.2) M w hA hT hl (k_songs l hfl D cI cZ cJ a o μ ν κ hR hL 0 (shR z113 5) (by omega)) gL_law_L_songs rfl ⟨by decide, by decide⟩ ⟨by show (200 + 40 * j.toNat) + 5 ≤ 600104; omega, by show (60000 + 240 * j.toNat) + 30 ≤ 7301314; omega⟩ 8 (by decide +kernel) rfl [false, false, false, false, true, false, true, true, true, false, false, true, true, true, true, true, true, true, true, true, true, true, true, true, true, true, true, true, true, true, true, true, true, true, true, true, true, true, true, true, true, true, true, true, true, true, true, true, true, true, true, true, true, true, true, true, true, true, true, true, true, true] rfl (fun _ => rfl) rfl (Nat.le_of_ble_eq_true rfl) (fun _ => rfl) dL_law_230 (fun z230 x230 h230 H locs w => ?_)
                        obtain ⟨e230, n230, hR230, hL230⟩ := h230
                        refine q_top (y := 1) (by exact e230) ?_
                        refine q_is (lv' := [(17, .int (iI 1)), (16, .int (iI z122)), (15, .int (iI z113)), (0, .ref bs), (1, .ref (a 0)), (2, .ref (o 0)), (3, .ref (o 1)), (4, .ref (o 2)), (5, .ref (o 3)), (6, .ref (o 4)), (7, .ref (o 5)), (8, .ref (o 6)), (9, .ref (o 7)), (10, .ref (o 8)), (11, .ref (o 9)), (12, .ref (o 10)), (13, .ref (o 11)), (14, .int (iI j))]) M dL_law_233 hl (by decide) rfl (fun ls hl => ?_)
                        refine q_go (tgt := 331) M dL_law_235 (by decide) ?_
                        exact jn134 (mset (mset (mset κ 6 x230.1) 7 x230.2.1) 11 x230.2.2.1) x230.2.2.2 n230 _ _ _ hR230 hL230 w (lv_sub hl [3, 4, 5, 6, 7, 8, 9, 10, 11, 12, 13, 14, 15, 16, 17, 2, 1, 0] rfl)
                  · refine q_aln M dL_law_172 (lv_at hl 4 rfl) ?_
                    refine q_il M dL_law_173 (lv_at hl 1 rfl) ?_
                    refine q_bp M dL_law_175 (by decide +kernel) ?_
                    refine q_sub M dL_law_177 ?_
                    refine q_il M dL_law_178 (lv_at hl 2 rfl) ?_
                    refine q_ic M dL_law_180 ?_
                    refine q_shr M dL_law_181 ?_
                    refine q_al M dL_law_182 (lv_at hl 9 rfl) ?_
                    refine q_al M dL_law_184 (lv_at hl 10 rfl) ?_
                    refine q_al M dL_law_186 (lv_at hl 13 rfl) ?_
                    refine qe_L (As := [.ref (a 0), .int (iI (z122 - 6)), .int (iI (shR z113 5)), .ref (o 4), .ref (o 5), .ref (o 8)]) (rest := []) (wc := WLset cI o κ ++ WAll cI a μ) (G := fun x188 => WLall cI o (mset (mset (mset κ 4 x188.1) 5 x188.2.1) 8 x188.2.2.1) ++ WAll cI a x188.2.2.2) M w hA hT hl (k_sets l hfl D cI cZ cJ a o μ ν κ hR hL (z122 - 6) (shR z113 5) (by omega)) gL_law_L_sets rfl ⟨by decide, by decide⟩ ⟨by show (200 + 40 * j.toNat) + 5 ≤ 600104; omega, by show (60000 + 240 * j.toNat) + 30 ≤ 7301314; omega⟩ 6 (by decide +kernel) rfl [false, false, false, false, true, true, false, false, true, false, false, false, true, true, true, true, true, true, true, true, true, true, true, true, true, true, true, true, true, true, true, true, true, true, true, true, true, true, true, true, true, true, true, true, true, true, true, true, true, true, true, true, true, true, true, true, true, true, true, true, true, true] rfl (fun _ => rfl) rfl (Nat.le_of_ble_eq_true rfl) (fun _ => rfl) dL_law_188 (fun z188 x188 h188 H locs w => ?_)
                    obtain ⟨e188, n188, hR188, hL188⟩ := h188
                    refine q_top (y := 1) (by exact e188) ?_
                    refine q_is (lv' := [(17, .int (iI 1)), (16, .int (iI z122)), (15, .int (iI z113)), (0, .ref bs), (1, .ref (a 0)), (2, .ref (o 0)), (3, .ref (o 1)), (4, .ref (o 2)), (5, .ref (o 3)), (6, .ref (o 4)), (7, .ref (o 5)), (8, .ref (o 6)), (9, .ref (o 7)), (10, .ref (o 8)), (11, .ref (o 9)), (12, .ref (o 10)), (13, .ref (o 11)), (14, .int (iI j))]) M dL_law_191 hl (by decide) rfl (fun ls hl => ?_)
                    refine q_go (tgt := 331) M dL_law_193 (by decide) ?_
                    exact jn134 (mset (mset (mset κ 4 x188.1) 5 x188.2.1) 8 x188.2.2.1) x188.2.2.2 n188 _ _ _ hR188 hL188 w (lv_sub hl [3, 4, 5, 6, 7, 8, 9, 10, 11, 12, 13, 14, 15, 16, 17, 2, 1, 0] rfl)
                · refine q_aln M dL_law_144 (lv_at hl 4 rfl) ?_
                  refine q_il M dL_law_145 (lv_at hl 2 rfl) ?_
                  refine q_ic M dL_law_147 ?_
                  refine q_shr M dL_law_148 ?_
                  refine q_aln M dL_law_149 (lv_at hl 5 rfl) ?_
                  refine q_aln M dL_law_150 (lv_at hl 6 rfl) ?_
                  refine q_al M dL_law_151 (lv_at hl 7 rfl) ?_
                  refine q_al M dL_law_153 (lv_at hl 8 rfl) ?_
                  refine q_al M dL_law_155 (lv_at hl 13 rfl) ?_
                  refine qe_L (As := [.ref (a 0), .int (iI (shR z113 5)), .ref (o 0), .ref (o 1), .ref (o 2), .ref (o 3), .ref (o 8)]) (rest := []) (wc := WLstp cI o κ ++ WAll cI a μ) (G := fun x157 => WLall cI o (mset (mset (mset (mset κ 0 x157.1) 1 x157.2.1) 2 x157.2.2.1) 3 x157.2.2.2.1) ++ WAll cI a x157.2.2.2.2) M w hA hT hl (k_steps l hfl D cI cZ cJ a o μ ν κ hR hL (shR z113 5) ) gL_law_L_steps rfl ⟨by decide, by decide⟩ ⟨by show (200 + 40 * j.toNat) + 5 ≤ 600104; omega, by show (60000 + 240 * j.toNat) + 30 ≤ 7301314; omega⟩ 7 (by decide +kernel) rfl [true, true, true, true, false, false, false, false, true, false, false, false, true, true, true, true, true, true, true, true, true, true, true, true, true, true, true, true, true, true, true, true, true, true, true, true, true, true, true, true, true, true, true, true, true, true, true, true, true, true, true, true, true, true, true, true, true, true, true, true, true, true] rfl (fun _ => rfl) rfl (Nat.le_of_ble_eq_true rfl) (fun _ => rfl) dL_law_157 (fun z157 x157 h157 H locs w => ?_)
                  obtain ⟨e157, n157, hR157, hL157⟩ := h157
                  refine q_top (y := 1) (by exact e157) ?_
                  refine q_is (lv' := [(17, .int (iI 1)), (16, .int (iI z122)), (15, .int (iI z113)), (0, .ref bs), (1, .ref (a 0)), (2, .ref (o 0)), (3, .ref (o 1)), (4, .ref (o 2)), (5, .ref (o 3)), (6, .ref (o 4)), (7, .ref (o 5)), (8, .ref (o 6)), (9, .ref (o 7)), (10, .ref (o 8)), (11, .ref (o 9)), (12, .ref (o 10)), (13, .ref (o 11)), (14, .int (iI j))]) M dL_law_160 hl (by decide) rfl (fun ls hl => ?_)
                  refine q_go (tgt := 331) M dL_law_162 (by decide) ?_
                  exact jn134 (mset (mset (mset (mset κ 0 x157.1) 1 x157.2.1) 2 x157.2.2.1) 3 x157.2.2.2.1) x157.2.2.2.2 n157 _ _ _ hR157 hL157 w (lv_sub hl [3, 4, 5, 6, 7, 8, 9, 10, 11, 12, 13, 14, 15, 16, 17, 2, 1, 0] rfl)
        refine W.widen (k := (200 + 40 * (0 : Int).toNat)) (n := (60000 + 240 * (0 : Int).toNat)) (by show 200 ≤ (200 + 40 * (0 : Int).toNat); omega) (by show 60000 ≤ (60000 + 240 * (0 : Int).toNat); omega) ?_
        exact lp103 91 0 (mset kz 5 g) mu0 nu0 (by omega) Rel_init (LR_init (by rw [show i = 8 by omega] at hg1; exact hg1) hg2) (by omega) _ _ _ w (lv_sub hl [1, 2, 3, 4, 5, 6, 7, 8, 9, 10, 11, 12, 13, 14, 0] rfl)
      · refine q_al M dL_law_88 (lv_at hl 7 rfl) ?_
        refine q_il M dL_law_90 (lv_at hl 14 rfl) ?_
        refine q_ic M dL_law_92 ?_
        refine q_iast (f := g) (ws2 := WLall cI o (mset kz 5 (iU g i 1)) ++ WAll cI a mu0) M w 5 0 rfl rfl (by omega) rfl dL_law_93 (fun H locs w => ?_)
        refine q_inc (z := i) (lv' := [(14, .int (iI (i + 1))), (0, .ref bs), (1, .ref (a 0)), (2, .ref (o 0)), (3, .ref (o 1)), (4, .ref (o 2)), (5, .ref (o 3)), (6, .ref (o 4)), (7, .ref (o 5)), (8, .ref (o 6)), (9, .ref (o 7)), (10, .ref (o 8)), (11, .ref (o 9)), (12, .ref (o 10)), (13, .ref (o 11))]) M dL_law_94 hl (k := 14) rfl (by decide) rfl (fun ls hl => ?_)
        refine q_go (tgt := 81) M dL_law_97 (by decide) ?_
        exact ih81 (i + 1) _ (by omega) (iU_fill hg1) (fun j z => (iU_n _ _ (by omega)).trans (hg2 j z)) (by omega) _ _ _ w (lv_sub hl [1, 2, 3, 4, 5, 6, 7, 8, 9, 10, 11, 12, 13, 14, 0] rfl)
  exact lp81 9 0 (kz 5) (by omega) (fun j a b => absurd b (by omega)) (fun _ _ => rfl) (by omega) _ _ _ w (lv_sub hl [1, 2, 3, 4, 5, 6, 7, 8, 9, 10, 11, 12, 13, 14, 0] rfl)
