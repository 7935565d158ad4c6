/-! THE LAW: memory -/
theorem LR_m {ν κ : Nat → Int → Int} {m : Int → Int} (h : LR ν κ) (hm : ∀ j, 0 ≤ j → j < 8 → m j = κ 9 j) : LR ν (mset κ 9 m) := by
  obtain ⟨hA, hT, hn, hi, ⟨m1, m2⟩, h0⟩ := h
  exact ⟨hA, hT, hn, hi, ⟨fun k a b => (hm k a b).trans (m1 k a b), m2⟩, h0⟩
theorem f6_c (v : Int) : (v = -1 ∧ f6 v = 1000000) ∨ (v ≠ -1 ∧ f6 v = v) := by
  unfold f6
  by_cases q : v = -1
  · rw [if_pos q]; exact Or.inl ⟨q, rfl⟩
  · rw [if_neg q]; exact Or.inr ⟨q, rfl⟩
theorem UH_r {μ ν κ : Nat → Int → Int} (h : Rel μ ν) (hL : LR ν κ) (hp : μ 23 0 = 1) : UH ν κ := by
  have e := h.2.2.2.1.2.2.2.1
  have h26 := h.2.2.2.2.1.2.2.1
  have e24 := (h.2.2.2.2.2 hp).1.2.2.2.1
  exact ⟨Rel_IP h, (Rel_now h hp).1, by omega, hL.2.2.2.1.1.2.2, hL.1, hL.2.2.2.2.2.2 (by omega)⟩

set_option maxHeartbeats 4000000 in
set_option maxRecDepth 100000 in
theorem k_memory (l : Launch) (hfl : l.stackTraces = false) (D : va_G) (cI cZ cJ : ClassId) (a o : Nat → Nat) (μ ν κ : Nat → Int → Int) (hR : Rel μ ν) (hL : LR ν κ)  : Le l D (tY cI cZ cJ) yL_memory wsL_memory rmL_memory [.ref (a 0), .ref (o 0), .ref (o 1), .ref (o 2), .ref (o 3), .ref (o 4), .ref (o 8), .ref (o 9), .ref (o 10)] (WLuse cI o κ ++ WAll cI a μ) (fun (z : Int) (x : (Int → Int) × (Nat → Int → Int)) => z = 1 ∧ ∃ ν2, Rel x.2 ν2 ∧ LR ν2 (mset κ 9 x.1)) (fun x => WLuse cI o (mset κ 9 x.1) ++ WAll cI a x.2) := by
  have h23 := hR.2.2.2.1.2.2.2.2
  have b22 := hR.2.2.2.1.2.1
  have e22 := hR.2.2.2.1.1
  have hcan := can_cs hR hL
  have h26 := hR.2.2.2.2.1.2.2.1
  obtain ⟨hr1, hr2, hr3, -⟩ := hR.2.2.2.2.1.1
  obtain ⟨hr4, hr5, hr6⟩ := hR.2.2.2.2.1.2.1
  obtain ⟨-, hm4, hm6, hm7, hm8⟩ := hL.2.2.2.2.1
  have e21 := hR.2.2.2.1.2.2.2.1
  refine le_of (by decide +kernel) rfl (Nat.le_of_ble_eq_true rfl) (fun _ _ q => Or.inr q.1) ?_
  intro zp ze zs zm zargs zbelow zmeth zc A Q ls M hA w hl hT kret
  have hl : lv_has ls 14 [(0, .ref (a 0)), (1, .ref (o 0)), (2, .ref (o 1)), (3, .ref (o 2)), (4, .ref (o 3)), (5, .ref (o 4)), (6, .ref (o 8)), (7, .ref (o 9)), (8, .ref (o 10))] := hl
  refine q_al M dL_memory_0 (lv_at hl 6 rfl) ?_
  refine q_ic M dL_memory_2 ?_
  refine q_iald (f := κ 8) M w 5 0 rfl rfl (by omega) dL_memory_3 ?_
  have jn4 : ∀ (pv : Int) (H : Heap) (locs : List Loc) (ls : Array Slot), ((pv = 1 ∧ μ 23 0 = 1) ∨ (pv = 0 ∧ μ 23 0 = 0)) → wW D A zs.heap (WLuse cI o κ ++ WAll cI a μ) H locs → lv_has ls 14 [(0, .ref (a 0)), (1, .ref (o 0)), (2, .ref (o 1)), (3, .ref (o 2)), (4, .ref (o 3)), (5, .ref (o 4)), (6, .ref (o 8)), (7, .ref (o 9)), (8, .ref (o 10))] → W zp l ze rmL_memory zs zm zargs zbelow zmeth zc H locs 0 0 Q (F0 zm 12 ls [.int (iI pv)]) := by
    intro pv H locs ls hpv w hl
    refine q_is (lv' := [(9, .int (iI pv)), (0, .ref (a 0)), (1, .ref (o 0)), (2, .ref (o 1)), (3, .ref (o 2)), (4, .ref (o 3)), (5, .ref (o 4)), (6, .ref (o 8)), (7, .ref (o 9)), (8, .ref (o 10))]) M dL_memory_12 hl (by decide) rfl (fun ls hl => ?_)
    refine q_il M dL_memory_14 (lv_at hl 0 rfl) ?_
    refine q_if_eq (tgt := 32) M dL_memory_16 (by decide) (by omega) (fun c16 => ?_) (fun c16 => ?_)
    · refine q_ic M dL_memory_32 ?_
      refine q_is (lv' := [(10, .int (iI 0)), (9, .int (iI pv)), (0, .ref (a 0)), (1, .ref (o 0)), (2, .ref (o 1)), (3, .ref (o 2)), (4, .ref (o 3)), (5, .ref (o 4)), (6, .ref (o 8)), (7, .ref (o 9)), (8, .ref (o 10))]) M dL_memory_33 hl (by decide) rfl (fun ls hl => ?_)
      refine q_al M dL_memory_35 (lv_at hl 8 rfl) ?_
      refine q_ic M dL_memory_37 ?_
      refine q_iald (f := κ 8) M w 5 0 rfl rfl (by omega) dL_memory_38 ?_
      refine q_is (lv' := [(11, .int (iI ((κ 8) 2))), (10, .int (iI 0)), (9, .int (iI pv)), (0, .ref (a 0)), (1, .ref (o 0)), (2, .ref (o 1)), (3, .ref (o 2)), (4, .ref (o 3)), (5, .ref (o 4)), (6, .ref (o 8)), (7, .ref (o 9)), (8, .ref (o 10))]) M dL_memory_39 hl (by decide) rfl (fun ls hl => ?_)
      refine q_il M dL_memory_41 (lv_at hl 2 rfl) ?_
      refine q_if_eq (tgt := 72) M dL_memory_43 (by decide) (by omega) (fun c43 => ?_) (fun c43 => ?_)
      · refine q_aln M dL_memory_72 (lv_at hl 3 rfl) ?_
        refine qc_iV (As := []) (rest := []) (wc := WAll cI a μ) (wc2 := WAll cI a μ) (ws2 := WLuse cI o κ ++ WAll cI a μ) M w hA hl (k_sounds l D cI cZ cJ a μ ) gL_memory_X6_sounds rfl ⟨rfl, rfl, by decide, by decide⟩ ⟨by show 0 ≤ 20; omega, by show 0 ≤ 120; omega⟩ 0 ⟨rfl, by decide +kernel⟩ rfl [false, false, false, false, false, false, false, false, true, true, true, true, true, true, true, true, true, true, true, true, true, true, true, true, true, true, true, true, true, true, true, true, true, true, true, true, true, true, true, true, true, true, true, true, true, true, true, true, true, true, true, true, true, true, true, true, true, true] rfl rfl 8 rfl rfl rfl (Nat.le_of_ble_eq_true rfl) rfl dL_memory_73 (fun H locs w => ?_)
        refine q_al M dL_memory_76 (lv_at hl 9 rfl) ?_
        refine q_bp M dL_memory_78 (by decide +kernel) ?_
        refine q_iald (f := κ 8) M w 5 0 rfl rfl (by omega) dL_memory_80 ?_
        refine q_icmp_neE (tgt := 183) (x := μ 31 0) (y := (κ 8) 6) M (by omega) dL_memory_81 (by decide) ?_
        refine q_aln M dL_memory_84 (lv_at hl 3 rfl) ?_
        refine qc_iV (As := []) (rest := []) (wc := WAll cI a μ) (wc2 := WAll cI a μ) (ws2 := WLuse cI o κ ++ WAll cI a μ) M w hA hl (k_misses l D cI cZ cJ a μ ) gL_memory_X6_misses rfl ⟨rfl, rfl, by decide, by decide⟩ ⟨by show 0 ≤ 20; omega, by show 0 ≤ 120; omega⟩ 0 ⟨rfl, by decide +kernel⟩ rfl [false, false, false, false, false, false, false, false, true, true, true, true, true, true, true, true, true, true, true, true, true, true, true, true, true, true, true, true, true, true, true, true, true, true, true, true, true, true, true, true, true, true, true, true, true, true, true, true, true, true, true, true, true, true, true, true, true, true] rfl rfl 8 rfl rfl rfl (Nat.le_of_ble_eq_true rfl) rfl dL_memory_85 (fun H locs w => ?_)
        refine q_al M dL_memory_88 (lv_at hl 9 rfl) ?_
        refine q_bp M dL_memory_90 (by decide +kernel) ?_
        refine q_iald (f := κ 8) M w 5 0 rfl rfl (by omega) dL_memory_92 ?_
        refine q_icmp_neE (tgt := 183) (x := μ 32 0) (y := (κ 8) 7) M (by omega) dL_memory_93 (by decide) ?_
        refine q_aln M dL_memory_96 (lv_at hl 3 rfl) ?_
        refine qc_iV (As := []) (rest := []) (wc := WAll cI a μ) (wc2 := WAll cI a μ) (ws2 := WLuse cI o κ ++ WAll cI a μ) M w hA hl (k_soundNumber l D cI cZ cJ a μ ) gL_memory_X6_soundNumber rfl ⟨rfl, rfl, by decide, by decide⟩ ⟨by show 0 ≤ 20; omega, by show 0 ≤ 120; omega⟩ 0 ⟨rfl, by decide +kernel⟩ rfl [false, false, false, false, false, false, false, false, true, true, true, true, true, true, true, true, true, true, true, true, true, true, true, true, true, true, true, true, true, true, true, true, true, true, true, true, true, true, true, true, true, true, true, true, true, true, true, true, true, true, true, true, true, true, true, true, true, true] rfl rfl 8 rfl rfl rfl (Nat.le_of_ble_eq_true rfl) rfl dL_memory_97 (fun H locs w => ?_)
        refine q_al M dL_memory_100 (lv_at hl 9 rfl) ?_
        refine q_bp M dL_memory_102 (by decide +kernel) ?_
        refine q_iald (f := κ 8) M w 5 0 rfl rfl (by omega) dL_memory_104 ?_
        refine q_icmp_neE (tgt := 183) (x := μ 33 0) (y := (κ 8) 8) M (by omega) dL_memory_105 (by decide) ?_
        refine q_aln M dL_memory_108 (lv_at hl 3 rfl) ?_
        refine qc_iV (As := []) (rest := []) (wc := WAll cI a μ) (wc2 := WAll cI a μ) (ws2 := WLuse cI o κ ++ WAll cI a μ) M w hA hl (k_inHand l D cI cZ cJ a μ (by omega)) gL_memory_X6_inHand rfl ⟨rfl, rfl, by decide, by decide⟩ ⟨by show 0 ≤ 20; omega, by show 0 ≤ 120; omega⟩ 0 ⟨rfl, by decide +kernel⟩ rfl [false, false, false, false, false, false, false, false, true, true, true, true, true, true, true, true, true, true, true, true, true, true, true, true, true, true, true, true, true, true, true, true, true, true, true, true, true, true, true, true, true, true, true, true, true, true, true, true, true, true, true, true, true, true, true, true, true, true] rfl rfl 8 rfl rfl rfl (Nat.le_of_ble_eq_true rfl) rfl dL_memory_109 (fun H locs w => ?_)
        refine q_al M dL_memory_112 (lv_at hl 9 rfl) ?_
        refine q_ic M dL_memory_114 ?_
        refine q_iald (f := κ 8) M w 5 0 rfl rfl (by omega) dL_memory_115 ?_
        refine q_top (y := ν 26 0 + 1) (by exact hm4.1) ?_
        have jn116 : ∀ (hv : Int) (H : Heap) (locs : List Loc) (ls : Array Slot), (hv = if μ 28 0 = -1 then -1 else 10 * μ 28 0 + μ 29 0) → wW D A zs.heap (WLuse cI o κ ++ WAll cI a μ) H locs → lv_has ls 14 [(11, .int (iI ((κ 8) 2))), (10, .int (iI 0)), (9, .int (iI pv)), (0, .ref (a 0)), (1, .ref (o 0)), (2, .ref (o 1)), (3, .ref (o 2)), (4, .ref (o 3)), (5, .ref (o 4)), (6, .ref (o 8)), (7, .ref (o 9)), (8, .ref (o 10))] → W zp l ze rmL_memory zs zm zargs zbelow zmeth zc H locs 0 0 Q (F0 zm 138 ls [.int (iI hv), .int (iI (if μ 28 0 = -1 then -1 else 10 * μ 28 0 + μ 29 0))]) := by
          intro hv H locs ls hhv w hl
          refine q_icmp_neE (tgt := 183) (x := if μ 28 0 = -1 then -1 else 10 * μ 28 0 + μ 29 0) (y := hv) M (by exact hhv.symm) dL_memory_138 (by decide) ?_
          refine q_aln M dL_memory_141 (lv_at hl 3 rfl) ?_
          refine qc_iV (As := []) (rest := []) (wc := WAll cI a μ) (wc2 := WAll cI a μ) (ws2 := WLuse cI o κ ++ WAll cI a μ) M w hA hl (k_place l D cI cZ cJ a μ h23) gL_memory_X6_place rfl ⟨rfl, rfl, by decide, by decide⟩ ⟨by show 0 ≤ 20; omega, by show 0 ≤ 120; omega⟩ 0 ⟨rfl, by decide +kernel⟩ rfl [false, false, false, false, false, false, false, false, true, true, true, true, true, true, true, true, true, true, true, true, true, true, true, true, true, true, true, true, true, true, true, true, true, true, true, true, true, true, true, true, true, true, true, true, true, true, true, true, true, true, true, true, true, true, true, true, true, true] rfl rfl 8 rfl rfl rfl (Nat.le_of_ble_eq_true rfl) rfl dL_memory_142 (fun H locs w => ?_)
          refine q_il M dL_memory_145 (lv_at hl 2 rfl) ?_
          refine q_if_eq (tgt := 175) M dL_memory_147 (by decide) (by omega) (fun c147 => ?_) (fun c147 => ?_)
          · refine q_ic M dL_memory_175 ?_
            refine q_icmp_neE (tgt := 183) (x := if μ 23 0 = 1 then 100000 * μ 24 0 + 1000 * μ 25 0 + μ 26 0 else -1) (y := (-1)) M (by rw [Rel_place hR, if_neg (by omega)]) dL_memory_176 (by decide) ?_
            refine q_ic M dL_memory_179 ?_
            refine q_go (tgt := 184) M dL_memory_180 (by decide) ?_
            refine q_is (lv' := [(12, .int (iI 1)), (11, .int (iI ((κ 8) 2))), (10, .int (iI 0)), (9, .int (iI pv)), (0, .ref (a 0)), (1, .ref (o 0)), (2, .ref (o 1)), (3, .ref (o 2)), (4, .ref (o 3)), (5, .ref (o 4)), (6, .ref (o 8)), (7, .ref (o 9)), (8, .ref (o 10))]) M dL_memory_184 hl (by decide) rfl (fun ls hl => ?_)
            refine q_il M dL_memory_186 (lv_at hl 3 rfl) ?_
            refine q_if_eq (tgt := 207) M dL_memory_188 (by decide) (by omega) (fun c188 => ?_) (fun c188 => ?_)
            · refine q_ic M dL_memory_207 ?_
              refine q_is (lv' := [(13, .int (iI 0)), (12, .int (iI 1)), (11, .int (iI ((κ 8) 2))), (10, .int (iI 0)), (9, .int (iI pv)), (0, .ref (a 0)), (1, .ref (o 0)), (2, .ref (o 1)), (3, .ref (o 2)), (4, .ref (o 3)), (5, .ref (o 4)), (6, .ref (o 8)), (7, .ref (o 9)), (8, .ref (o 10))]) M dL_memory_208 hl (by decide) rfl (fun ls hl => ?_)
              have lp210 : ∀ (n210 : Nat) (k : Int), (0 ≤ k ∧ k ≤ 8) → (8 - k : Int) < (n210 : Int) → ∀ (H : Heap) (locs : List Loc) (ls : Array Slot), wW D A zs.heap (WLuse cI o κ ++ WAll cI a μ) H locs → lv_has ls 14 [(12, .int (iI 1)), (11, .int (iI ((κ 8) 2))), (10, .int (iI 0)), (9, .int (iI pv)), (0, .ref (a 0)), (1, .ref (o 0)), (2, .ref (o 1)), (3, .ref (o 2)), (4, .ref (o 3)), (5, .ref (o 4)), (6, .ref (o 8)), (7, .ref (o 9)), (8, .ref (o 10)), (13, .int (iI k))] → W zp l ze rmL_memory zs zm zargs zbelow zmeth zc H locs (2 * k.toNat) (12 * k.toNat) Q (F0 zm 210 ls []) := by
                intro n210
                induction n210 with
                | zero => intro k hk hm H locs ls w hl; exfalso; omega
                | succ n210 ih210 =>
                  intro k hk hm210 H locs ls w hl
                  refine q_il M dL_memory_210 (lv_at hl 13 rfl) ?_
                  refine q_bp M dL_memory_212 (by decide +kernel) ?_
                  refine q_icmp_ge (tgt := 288) M dL_memory_214 (by decide) (by omega) (fun c214 => ?_) (fun c214 => ?_)
                  · refine q_il M dL_memory_288 (lv_at hl 0 rfl) ?_
                    have hP9 : (1 : Int) = 1 ∧ ∃ ν2, Rel μ ν2 ∧ LR ν2 (mset κ 9 (κ 9)) := ⟨rfl, ν, hR, LR_m hL (fun _ _ _ => rfl)⟩
                    exact kret _ _ _ _ _ (κ 9, μ) _ _ (by show (2 * k.toNat) ≤ 20; omega) (by show (12 * k.toNat) ≤ 120; omega) dL_memory_290 w (hP9)
                  · refine q_il M dL_memory_217 (lv_at hl 0 rfl) ?_
                    refine q_if_eq (tgt := 288) M dL_memory_219 (by decide) (by omega) (fun c219 => ?_) (fun c219 => ?_)
                    · exfalso; omega
                    · refine q_aln M dL_memory_222 (lv_at hl 4 rfl) ?_
                      refine q_il M dL_memory_223 (lv_at hl 13 rfl) ?_
                      refine qx_iV (As := [.int (iI k)]) (rest := []) (wc := WAll cI a μ) (wc2 := WAll cI a μ) (ws2 := WLuse cI o κ ++ WAll cI a μ) M w hA hT hl (k_loaded l hfl D cI cZ cJ a μ k (by omega)) gL_memory_X6_loaded rfl ⟨by decide, by decide⟩ ⟨by show (2 * k.toNat) + 1 ≤ 20; omega, by show (12 * k.toNat) + 6 ≤ 120; omega⟩ 1 ⟨rfl, by decide +kernel⟩ rfl [false, false, false, false, false, false, false, false, true, true, true, true, true, true, true, true, true, true, true, true, true, true, true, true, true, true, true, true, true, true, true, true, true, true, true, true, true, true, true, true, true, true, true, true, true, true, true, true, true, true, true, true, true, true, true, true, true, true] rfl rfl 8 rfl rfl rfl (Nat.le_of_ble_eq_true rfl) rfl dL_memory_225 (fun E ce q9 H1 locs1 hE w h1 h2 h3 => ?_) (fun H locs hE w => ?_)
                      · exfalso; rw [chk_t (show 0 ≤ k ∧ k ≤ 7 from by omega)] at hE; cases (show (none : Option String) = some E from hE)
                      refine q_al M dL_memory_228 (lv_at hl 11 rfl) ?_
                      refine q_il M dL_memory_230 (lv_at hl 13 rfl) ?_
                      refine q_iald (f := κ 9) M w 6 0 rfl rfl (by omega) dL_memory_232 ?_
                      refine q_icmp_neE (tgt := 279) (x := μ 21 k) (y := (κ 9) k) M (by have q1 := congrFun hR.1.2.2.2.2.2.2 k; have q2 := hL.2.2.2.2.1.1 k (by omega) (by omega); omega) dL_memory_233 (by decide) ?_
                      refine q_aln M dL_memory_236 (lv_at hl 4 rfl) ?_
                      refine q_il M dL_memory_237 (lv_at hl 13 rfl) ?_
                      refine qx_iV (As := [.int (iI k)]) (rest := []) (wc := WAll cI a μ) (wc2 := WAll cI a μ) (ws2 := WLuse cI o κ ++ WAll cI a μ) M w hA hT hl (k_nextUse l hfl D cI cZ cJ a μ k (by omega) h23 h26 hR.2.1.2.2.2) gL_memory_X6_nextUse rfl ⟨by decide, by decide⟩ ⟨by show ((2 * k.toNat) + 1) + 1 ≤ 20; omega, by show ((12 * k.toNat) + 6) + 6 ≤ 120; omega⟩ 1 ⟨rfl, by decide +kernel⟩ rfl [false, false, false, false, false, false, false, false, true, true, true, true, true, true, true, true, true, true, true, true, true, true, true, true, true, true, true, true, true, true, true, true, true, true, true, true, true, true, true, true, true, true, true, true, true, true, true, true, true, true, true, true, true, true, true, true, true, true] rfl rfl 8 rfl rfl rfl (Nat.le_of_ble_eq_true rfl) rfl dL_memory_239 (fun E ce q9 H1 locs1 hE w h1 h2 h3 => ?_) (fun H locs hE w => ?_)
                      · exfalso; rw [chk_t (show 0 ≤ k ∧ k ≤ 7 from by omega)] at hE; cases (show (none : Option String) = some E from hE)
                      refine q_il M dL_memory_242 (lv_at hl 3 rfl) ?_
                      refine q_if_eq (tgt := 271) M dL_memory_244 (by decide) (by omega) (fun c244 => ?_) (fun c244 => ?_)
                      · refine q_ic M dL_memory_271 ?_
                        refine q_icmp_neE (tgt := 279) (x := if μ 23 0 = 1 ∧ μ 19 (μ 26 0 * 8 + k) ≠ 768 then μ 19 (μ 26 0 * 8 + k) else -1) (y := (-1)) M (by rw [Rel_nextUse hR (by omega), if_neg (by omega)]) dL_memory_272 (by decide) ?_
                        refine q_ic M dL_memory_275 ?_
                        refine q_go (tgt := 280) M dL_memory_276 (by decide) ?_
                        refine q_is (lv' := [(12, .int (iI 1)), (11, .int (iI ((κ 8) 2))), (10, .int (iI 0)), (9, .int (iI pv)), (0, .ref (a 0)), (1, .ref (o 0)), (2, .ref (o 1)), (3, .ref (o 2)), (4, .ref (o 3)), (5, .ref (o 4)), (6, .ref (o 8)), (7, .ref (o 9)), (8, .ref (o 10)), (13, .int (iI k))]) M dL_memory_280 hl (by decide) rfl (fun ls hl => ?_)
                        refine q_inc (z := k) (lv' := [(13, .int (iI (k + 1))), (12, .int (iI 1)), (11, .int (iI ((κ 8) 2))), (10, .int (iI 0)), (9, .int (iI pv)), (0, .ref (a 0)), (1, .ref (o 0)), (2, .ref (o 1)), (3, .ref (o 2)), (4, .ref (o 3)), (5, .ref (o 4)), (6, .ref (o 8)), (7, .ref (o 9)), (8, .ref (o 10))]) M dL_memory_282 hl (k := 13) rfl (by decide) rfl (fun ls hl => ?_)
                        refine q_go (tgt := 210) M dL_memory_285 (by decide) ?_
                        refine W.widen (k := (2 * (k + 1).toNat)) (n := (12 * (k + 1).toNat)) (by show (((2 * k.toNat) + 1) + 1) ≤ (2 * (k + 1).toNat); omega) (by show (((12 * k.toNat) + 6) + 6) ≤ (12 * (k + 1).toNat); omega) ?_
                        exact ih210 (k + 1) (by omega) (by omega) _ _ _ w (lv_sub hl [1, 2, 3, 4, 5, 6, 7, 8, 9, 10, 11, 12, 13, 0] rfl)
                      · exfalso; omega
              refine W.widen (k := (2 * (0 : Int).toNat)) (n := (12 * (0 : Int).toNat)) (by show 0 ≤ (2 * (0 : Int).toNat); omega) (by show 0 ≤ (12 * (0 : Int).toNat); omega) ?_
              exact lp210 9 0 (by omega) (by omega) _ _ _ w (lv_sub hl [1, 2, 3, 4, 5, 6, 7, 8, 9, 10, 11, 12, 13, 0] rfl)
            · exfalso; omega
          · exfalso; omega
        refine q_if_ne (tgt := 123) M dL_memory_116 (by decide) (by omega) (fun c116 => ?_) (fun c116 => ?_)
        · refine q_bp M dL_memory_123 (by decide +kernel) ?_
          refine q_al M dL_memory_125 (lv_at hl 9 rfl) ?_
          refine q_ic M dL_memory_127 ?_
          refine q_iald (f := κ 8) M w 5 0 rfl rfl (by omega) dL_memory_128 ?_
          refine q_top (y := ν 26 0 + 1) (by exact hm4.1) ?_
          refine q_mul M dL_memory_129 ?_
          refine q_bp M dL_memory_130 (by decide +kernel) ?_
          refine q_sub M dL_memory_132 ?_
          refine q_al M dL_memory_133 (lv_at hl 9 rfl) ?_
          refine q_ic M dL_memory_135 ?_
          refine q_iald (f := κ 8) M w 5 0 rfl rfl (by omega) dL_memory_136 ?_
          refine q_top (y := ν 27 0) (by exact hm4.2) ?_
          refine q_add M dL_memory_137 ?_
          exact jn116 (((10 * (ν 26 0 + 1)) - 10) + (ν 27 0)) _ _ _ (by rw [if_neg (by omega)]; have := hr3 (by omega); omega) w (lv_sub hl [0, 1, 2, 3, 4, 5, 6, 7, 8, 9, 10, 11] rfl)
        · refine q_ic M dL_memory_119 ?_
          refine q_go (tgt := 138) M dL_memory_120 (by decide) ?_
          exact jn116 (-1) _ _ _ (by rw [if_pos (by omega)]) w (lv_sub hl [0, 1, 2, 3, 4, 5, 6, 7, 8, 9, 10, 11] rfl)
      · exfalso; omega
    · have hp : μ 23 0 = 1 := by omega
      obtain ⟨⟨hs1, hs2⟩, hs3, hs4, hmono, hs5⟩ := sg_a hR hp
      have hq1 : κ 8 1 = ν 18 (ν 14 0) := by omega
      have hq2 : κ 8 2 = ν 23 0 := by omega
      have hq3 : κ 8 3 = ν 24 0 := by omega
      have hpl0 := sg_p hR hL hp (i := ν 23 0) (by omega)
      have hNX := Rel_NX hR hp
      refine q_al M dL_memory_19 (lv_at hl 9 rfl) ?_
      refine q_al M dL_memory_21 (lv_at hl 7 rfl) ?_
      refine q_ic M dL_memory_23 ?_
      refine q_iald (f := κ 8) M w 5 0 rfl rfl (by omega) dL_memory_24 ?_
      refine q_top (y := ν 23 0) (by exact hq2) ?_
      refine q_iald (f := κ 10) M w 7 0 rfl rfl (by omega) dL_memory_25 ?_
      refine q_bp M dL_memory_26 (by decide +kernel) ?_
      refine q_div M dL_memory_28 (by omega) ?_
      refine q_top (y := ν 22 0) (by exact hpl0.2.mpr ⟨by omega, by omega⟩) ?_
      refine q_go (tgt := 33) M dL_memory_29 (by decide) ?_
      refine q_is (lv' := [(10, .int (iI (ν 22 0))), (9, .int (iI pv)), (0, .ref (a 0)), (1, .ref (o 0)), (2, .ref (o 1)), (3, .ref (o 2)), (4, .ref (o 3)), (5, .ref (o 4)), (6, .ref (o 8)), (7, .ref (o 9)), (8, .ref (o 10))]) M dL_memory_33 hl (by decide) rfl (fun ls hl => ?_)
      refine q_al M dL_memory_35 (lv_at hl 8 rfl) ?_
      refine q_ic M dL_memory_37 ?_
      refine q_iald (f := κ 8) M w 5 0 rfl rfl (by omega) dL_memory_38 ?_
      refine q_top (y := ν 23 0) (by exact hq2) ?_
      refine q_is (lv' := [(11, .int (iI (ν 23 0))), (10, .int (iI (ν 22 0))), (9, .int (iI pv)), (0, .ref (a 0)), (1, .ref (o 0)), (2, .ref (o 1)), (3, .ref (o 2)), (4, .ref (o 3)), (5, .ref (o 4)), (6, .ref (o 8)), (7, .ref (o 9)), (8, .ref (o 10))]) M dL_memory_39 hl (by decide) rfl (fun ls hl => ?_)
      have lp41 : ∀ (n41 : Nat) (i : Int), (ν 18 (ν 22 0) ≤ i ∧ i ≤ ν 23 0) → (i : Int) < (n41 : Int) → ∀ (H : Heap) (locs : List Loc) (ls : Array Slot), wW D A zs.heap (WLuse cI o κ ++ WAll cI a μ) H locs → lv_has ls 14 [(0, .ref (a 0)), (1, .ref (o 0)), (2, .ref (o 1)), (3, .ref (o 2)), (4, .ref (o 3)), (5, .ref (o 4)), (6, .ref (o 8)), (7, .ref (o 9)), (8, .ref (o 10)), (9, .int (iI pv)), (10, .int (iI (ν 22 0))), (11, .int (iI i))] → W zp l ze rmL_memory zs zm zargs zbelow zmeth zc H locs 0 0 Q (F0 zm 41 ls []) := by
        intro n41
        induction n41 with
        | zero => intro i hi hm H locs ls w hl; exfalso; omega
        | succ n41 ih41 =>
          intro i hi hm41 H locs ls w hl
          refine q_il M dL_memory_41 (lv_at hl 9 rfl) ?_
          refine q_if_eq (tgt := 72) M dL_memory_43 (by decide) (by omega) (fun c43 => ?_) (fun c43 => ?_)
          · exfalso; omega
          · refine q_il M dL_memory_46 (lv_at hl 11 rfl) ?_
            refine q_if_le (tgt := 72) M dL_memory_48 (by decide) (by omega) (fun c48 => ?_) (fun c48 => ?_)
            · have ei : i = ν 18 (ν 22 0) := by omega
              refine q_aln M dL_memory_72 (lv_at hl 0 rfl) ?_
              refine qc_iV (As := []) (rest := []) (wc := WAll cI a μ) (wc2 := WAll cI a μ) (ws2 := WLuse cI o κ ++ WAll cI a μ) M w hA hl (k_sounds l D cI cZ cJ a μ ) gL_memory_X6_sounds rfl ⟨rfl, rfl, by decide, by decide⟩ ⟨by show 0 ≤ 20; omega, by show 0 ≤ 120; omega⟩ 0 ⟨rfl, by decide +kernel⟩ rfl [false, false, false, false, false, false, false, false, true, true, true, true, true, true, true, true, true, true, true, true, true, true, true, true, true, true, true, true, true, true, true, true, true, true, true, true, true, true, true, true, true, true, true, true, true, true, true, true, true, true, true, true, true, true, true, true, true, true] rfl rfl 8 rfl rfl rfl (Nat.le_of_ble_eq_true rfl) rfl dL_memory_73 (fun H locs w => ?_)
              refine q_al M dL_memory_76 (lv_at hl 6 rfl) ?_
              refine q_bp M dL_memory_78 (by decide +kernel) ?_
              refine q_iald (f := κ 8) M w 5 0 rfl rfl (by omega) dL_memory_80 ?_
              refine q_icmp_neE (tgt := 183) (x := μ 31 0) (y := (κ 8) 6) M (by omega) dL_memory_81 (by decide) ?_
              refine q_aln M dL_memory_84 (lv_at hl 0 rfl) ?_
              refine qc_iV (As := []) (rest := []) (wc := WAll cI a μ) (wc2 := WAll cI a μ) (ws2 := WLuse cI o κ ++ WAll cI a μ) M w hA hl (k_misses l D cI cZ cJ a μ ) gL_memory_X6_misses rfl ⟨rfl, rfl, by decide, by decide⟩ ⟨by show 0 ≤ 20; omega, by show 0 ≤ 120; omega⟩ 0 ⟨rfl, by decide +kernel⟩ rfl [false, false, false, false, false, false, false, false, true, true, true, true, true, true, true, true, true, true, true, true, true, true, true, true, true, true, true, true, true, true, true, true, true, true, true, true, true, true, true, true, true, true, true, true, true, true, true, true, true, true, true, true, true, true, true, true, true, true] rfl rfl 8 rfl rfl rfl (Nat.le_of_ble_eq_true rfl) rfl dL_memory_85 (fun H locs w => ?_)
              refine q_al M dL_memory_88 (lv_at hl 6 rfl) ?_
              refine q_bp M dL_memory_90 (by decide +kernel) ?_
              refine q_iald (f := κ 8) M w 5 0 rfl rfl (by omega) dL_memory_92 ?_
              refine q_icmp_neE (tgt := 183) (x := μ 32 0) (y := (κ 8) 7) M (by omega) dL_memory_93 (by decide) ?_
              refine q_aln M dL_memory_96 (lv_at hl 0 rfl) ?_
              refine qc_iV (As := []) (rest := []) (wc := WAll cI a μ) (wc2 := WAll cI a μ) (ws2 := WLuse cI o κ ++ WAll cI a μ) M w hA hl (k_soundNumber l D cI cZ cJ a μ ) gL_memory_X6_soundNumber rfl ⟨rfl, rfl, by decide, by decide⟩ ⟨by show 0 ≤ 20; omega, by show 0 ≤ 120; omega⟩ 0 ⟨rfl, by decide +kernel⟩ rfl [false, false, false, false, false, false, false, false, true, true, true, true, true, true, true, true, true, true, true, true, true, true, true, true, true, true, true, true, true, true, true, true, true, true, true, true, true, true, true, true, true, true, true, true, true, true, true, true, true, true, true, true, true, true, true, true, true, true] rfl rfl 8 rfl rfl rfl (Nat.le_of_ble_eq_true rfl) rfl dL_memory_97 (fun H locs w => ?_)
              refine q_al M dL_memory_100 (lv_at hl 6 rfl) ?_
              refine q_bp M dL_memory_102 (by decide +kernel) ?_
              refine q_iald (f := κ 8) M w 5 0 rfl rfl (by omega) dL_memory_104 ?_
              refine q_icmp_neE (tgt := 183) (x := μ 33 0) (y := (κ 8) 8) M (by omega) dL_memory_105 (by decide) ?_
              refine q_aln M dL_memory_108 (lv_at hl 0 rfl) ?_
              refine qc_iV (As := []) (rest := []) (wc := WAll cI a μ) (wc2 := WAll cI a μ) (ws2 := WLuse cI o κ ++ WAll cI a μ) M w hA hl (k_inHand l D cI cZ cJ a μ (by omega)) gL_memory_X6_inHand rfl ⟨rfl, rfl, by decide, by decide⟩ ⟨by show 0 ≤ 20; omega, by show 0 ≤ 120; omega⟩ 0 ⟨rfl, by decide +kernel⟩ rfl [false, false, false, false, false, false, false, false, true, true, true, true, true, true, true, true, true, true, true, true, true, true, true, true, true, true, true, true, true, true, true, true, true, true, true, true, true, true, true, true, true, true, true, true, true, true, true, true, true, true, true, true, true, true, true, true, true, true] rfl rfl 8 rfl rfl rfl (Nat.le_of_ble_eq_true rfl) rfl dL_memory_109 (fun H locs w => ?_)
              refine q_al M dL_memory_112 (lv_at hl 6 rfl) ?_
              refine q_ic M dL_memory_114 ?_
              refine q_iald (f := κ 8) M w 5 0 rfl rfl (by omega) dL_memory_115 ?_
              refine q_top (y := ν 26 0 + 1) (by exact hm4.1) ?_
              have jn116 : ∀ (hv : Int) (H : Heap) (locs : List Loc) (ls : Array Slot), (hv = if μ 28 0 = -1 then -1 else 10 * μ 28 0 + μ 29 0) → wW D A zs.heap (WLuse cI o κ ++ WAll cI a μ) H locs → lv_has ls 14 [(0, .ref (a 0)), (1, .ref (o 0)), (2, .ref (o 1)), (3, .ref (o 2)), (4, .ref (o 3)), (5, .ref (o 4)), (6, .ref (o 8)), (7, .ref (o 9)), (8, .ref (o 10)), (9, .int (iI pv)), (10, .int (iI (ν 22 0))), (11, .int (iI i))] → W zp l ze rmL_memory zs zm zargs zbelow zmeth zc H locs 0 0 Q (F0 zm 138 ls [.int (iI hv), .int (iI (if μ 28 0 = -1 then -1 else 10 * μ 28 0 + μ 29 0))]) := by
                intro hv H locs ls hhv w hl
                refine q_icmp_neE (tgt := 183) (x := if μ 28 0 = -1 then -1 else 10 * μ 28 0 + μ 29 0) (y := hv) M (by exact hhv.symm) dL_memory_138 (by decide) ?_
                refine q_aln M dL_memory_141 (lv_at hl 0 rfl) ?_
                refine qc_iV (As := []) (rest := []) (wc := WAll cI a μ) (wc2 := WAll cI a μ) (ws2 := WLuse cI o κ ++ WAll cI a μ) M w hA hl (k_place l D cI cZ cJ a μ h23) gL_memory_X6_place rfl ⟨rfl, rfl, by decide, by decide⟩ ⟨by show 0 ≤ 20; omega, by show 0 ≤ 120; omega⟩ 0 ⟨rfl, by decide +kernel⟩ rfl [false, false, false, false, false, false, false, false, true, true, true, true, true, true, true, true, true, true, true, true, true, true, true, true, true, true, true, true, true, true, true, true, true, true, true, true, true, true, true, true, true, true, true, true, true, true, true, true, true, true, true, true, true, true, true, true, true, true] rfl rfl 8 rfl rfl rfl (Nat.le_of_ble_eq_true rfl) rfl dL_memory_142 (fun H locs w => ?_)
                refine q_il M dL_memory_145 (lv_at hl 9 rfl) ?_
                refine q_if_eq (tgt := 175) M dL_memory_147 (by decide) (by omega) (fun c147 => ?_) (fun c147 => ?_)
                · exfalso; omega
                · refine q_ldc (n := 100000) M (by decide +kernel) dL_memory_150 ?_
                  refine q_il M dL_memory_152 (lv_at hl 10 rfl) ?_
                  refine q_mul M dL_memory_154 ?_
                  refine q_sp M dL_memory_155 (by decide +kernel) ?_
                  refine q_al M dL_memory_158 (lv_at hl 6 rfl) ?_
                  refine q_ic M dL_memory_160 ?_
                  refine q_iald (f := κ 8) M w 5 0 rfl rfl (by omega) dL_memory_161 ?_
                  refine q_top (y := ν 23 0) (by exact hq2) ?_
                  refine q_il M dL_memory_162 (lv_at hl 11 rfl) ?_
                  refine q_sub M dL_memory_164 ?_
                  refine q_mul M dL_memory_165 ?_
                  refine q_add M dL_memory_166 ?_
                  refine q_al M dL_memory_167 (lv_at hl 6 rfl) ?_
                  refine q_ic M dL_memory_169 ?_
                  refine q_iald (f := κ 8) M w 5 0 rfl rfl (by omega) dL_memory_170 ?_
                  refine q_top (y := ν 24 0) (by exact hq3) ?_
                  refine q_add M dL_memory_171 ?_
                  refine q_go (tgt := 176) M dL_memory_172 (by decide) ?_
                  refine q_icmp_neE (tgt := 183) (x := if μ 23 0 = 1 then 100000 * μ 24 0 + 1000 * μ 25 0 + μ 26 0 else -1) (y := ((100000 * (ν 22 0)) + (1000 * ((ν 23 0) - i))) + (ν 24 0)) M (by rw [Rel_place hR, if_pos (by omega)]; omega) dL_memory_176 (by decide) ?_
                  refine q_ic M dL_memory_179 ?_
                  refine q_go (tgt := 184) M dL_memory_180 (by decide) ?_
                  refine q_is (lv' := [(12, .int (iI 1)), (0, .ref (a 0)), (1, .ref (o 0)), (2, .ref (o 1)), (3, .ref (o 2)), (4, .ref (o 3)), (5, .ref (o 4)), (6, .ref (o 8)), (7, .ref (o 9)), (8, .ref (o 10)), (9, .int (iI pv)), (10, .int (iI (ν 22 0))), (11, .int (iI i))]) M dL_memory_184 hl (by decide) rfl (fun ls hl => ?_)
                  refine q_il M dL_memory_186 (lv_at hl 10 rfl) ?_
                  refine q_if_eq (tgt := 207) M dL_memory_188 (by decide) (by omega) (fun c188 => ?_) (fun c188 => ?_)
                  · exfalso; omega
                  · refine q_aln M dL_memory_191 (lv_at hl 2 rfl) ?_
                    refine q_aln M dL_memory_192 (lv_at hl 3 rfl) ?_
                    refine q_aln M dL_memory_193 (lv_at hl 4 rfl) ?_
                    refine q_al M dL_memory_194 (lv_at hl 5 rfl) ?_
                    refine q_al M dL_memory_196 (lv_at hl 6 rfl) ?_
                    refine q_al M dL_memory_198 (lv_at hl 7 rfl) ?_
                    refine q_al M dL_memory_200 (lv_at hl 8 rfl) ?_
                    refine q_al M dL_memory_202 (lv_at hl 9 rfl) ?_
                    refine qe_vS (As := [.ref (o 0), .ref (o 1), .ref (o 2), .ref (o 3), .ref (o 4), .ref (o 8), .ref (o 9), .ref (o 10)]) (rest := []) (wc := WLuse cI o κ) (G := fun x204 => WLuse cI o (mset κ 9 x204) ++ WAll cI a μ) M w hA hl (k_uses l D cI cZ cJ o κ ν (UH_r hR hL hp)) gL_memory_L_uses rfl ⟨rfl, rfl, by decide, by decide⟩ ⟨by show 0 ≤ 20; omega, by show 0 ≤ 120; omega⟩ 8 (by decide +kernel) rfl [true, true, true, true, true, true, true, true] rfl (fun _ => rfl) rfl (Nat.le_of_ble_eq_true rfl) (fun _ => rfl) dL_memory_204 (fun x204 h204 H locs w => ?_)
                    refine q_ic M dL_memory_207 ?_
                    refine q_is (lv' := [(13, .int (iI 0)), (12, .int (iI 1)), (0, .ref (a 0)), (1, .ref (o 0)), (2, .ref (o 1)), (3, .ref (o 2)), (4, .ref (o 3)), (5, .ref (o 4)), (6, .ref (o 8)), (7, .ref (o 9)), (8, .ref (o 10)), (9, .int (iI pv)), (10, .int (iI (ν 22 0))), (11, .int (iI i))]) M dL_memory_208 hl (by decide) rfl (fun ls hl => ?_)
                    have lp210 : ∀ (n210 : Nat) (k : Int), (0 ≤ k ∧ k ≤ 8) → (8 - k : Int) < (n210 : Int) → ∀ (H : Heap) (locs : List Loc) (ls : Array Slot), wW D A zs.heap (WLuse cI o (mset κ 9 x204) ++ WAll cI a μ) H locs → lv_has ls 14 [(12, .int (iI 1)), (0, .ref (a 0)), (1, .ref (o 0)), (2, .ref (o 1)), (3, .ref (o 2)), (4, .ref (o 3)), (5, .ref (o 4)), (6, .ref (o 8)), (7, .ref (o 9)), (8, .ref (o 10)), (9, .int (iI pv)), (10, .int (iI (ν 22 0))), (11, .int (iI i)), (13, .int (iI k))] → W zp l ze rmL_memory zs zm zargs zbelow zmeth zc H locs (2 * k.toNat) (12 * k.toNat) Q (F0 zm 210 ls []) := by
                      intro n210
                      induction n210 with
                      | zero => intro k hk hm H locs ls w hl; exfalso; omega
                      | succ n210 ih210 =>
                        intro k hk hm210 H locs ls w hl
                        refine q_il M dL_memory_210 (lv_at hl 13 rfl) ?_
                        refine q_bp M dL_memory_212 (by decide +kernel) ?_
                        refine q_icmp_ge (tgt := 288) M dL_memory_214 (by decide) (by omega) (fun c214 => ?_) (fun c214 => ?_)
                        · refine q_il M dL_memory_288 (lv_at hl 0 rfl) ?_
                          have hP9 : (1 : Int) = 1 ∧ ∃ ν2, Rel μ ν2 ∧ LR ν2 (mset κ 9 x204) := ⟨rfl, ν, hR, LR_m hL (fun j a b => h204.1 j a b)⟩
                          exact kret _ _ _ _ _ (x204, μ) _ _ (by show (2 * k.toNat) ≤ 20; omega) (by show (12 * k.toNat) ≤ 120; omega) dL_memory_290 w (hP9)
                        · refine q_il M dL_memory_217 (lv_at hl 0 rfl) ?_
                          refine q_if_eq (tgt := 288) M dL_memory_219 (by decide) (by omega) (fun c219 => ?_) (fun c219 => ?_)
                          · exfalso; omega
                          · refine q_aln M dL_memory_222 (lv_at hl 1 rfl) ?_
                            refine q_il M dL_memory_223 (lv_at hl 13 rfl) ?_
                            refine qx_iV (As := [.int (iI k)]) (rest := []) (wc := WAll cI a μ) (wc2 := WAll cI a μ) (ws2 := WLuse cI o (mset κ 9 x204) ++ WAll cI a μ) M w hA hT hl (k_loaded l hfl D cI cZ cJ a μ k (by omega)) gL_memory_X6_loaded rfl ⟨by decide, by decide⟩ ⟨by show (2 * k.toNat) + 1 ≤ 20; omega, by show (12 * k.toNat) + 6 ≤ 120; omega⟩ 1 ⟨rfl, by decide +kernel⟩ rfl [false, false, false, false, false, false, false, false, true, true, true, true, true, true, true, true, true, true, true, true, true, true, true, true, true, true, true, true, true, true, true, true, true, true, true, true, true, true, true, true, true, true, true, true, true, true, true, true, true, true, true, true, true, true, true, true, true, true] rfl rfl 8 rfl rfl rfl (Nat.le_of_ble_eq_true rfl) rfl dL_memory_225 (fun E ce q9 H1 locs1 hE w h1 h2 h3 => ?_) (fun H locs hE w => ?_)
                            · exfalso; rw [chk_t (show 0 ≤ k ∧ k ≤ 7 from by omega)] at hE; cases (show (none : Option String) = some E from hE)
                            refine q_al M dL_memory_228 (lv_at hl 8 rfl) ?_
                            refine q_il M dL_memory_230 (lv_at hl 13 rfl) ?_
                            refine q_iald (f := x204) M w 6 0 rfl rfl (by omega) dL_memory_232 ?_
                            refine q_icmp_neE (tgt := 279) (x := μ 21 k) (y := x204 k) M (by have q1 := congrFun hR.1.2.2.2.2.2.2 k; have q2 := hL.2.2.2.2.1.1 k (by omega) (by omega); have q3 := h204.1 k (by omega) (by omega); omega) dL_memory_233 (by decide) ?_
                            refine q_aln M dL_memory_236 (lv_at hl 1 rfl) ?_
                            refine q_il M dL_memory_237 (lv_at hl 13 rfl) ?_
                            refine qx_iV (As := [.int (iI k)]) (rest := []) (wc := WAll cI a μ) (wc2 := WAll cI a μ) (ws2 := WLuse cI o (mset κ 9 x204) ++ WAll cI a μ) M w hA hT hl (k_nextUse l hfl D cI cZ cJ a μ k (by omega) h23 h26 hR.2.1.2.2.2) gL_memory_X6_nextUse rfl ⟨by decide, by decide⟩ ⟨by show ((2 * k.toNat) + 1) + 1 ≤ 20; omega, by show ((12 * k.toNat) + 6) + 6 ≤ 120; omega⟩ 1 ⟨rfl, by decide +kernel⟩ rfl [false, false, false, false, false, false, false, false, true, true, true, true, true, true, true, true, true, true, true, true, true, true, true, true, true, true, true, true, true, true, true, true, true, true, true, true, true, true, true, true, true, true, true, true, true, true, true, true, true, true, true, true, true, true, true, true, true, true] rfl rfl 8 rfl rfl rfl (Nat.le_of_ble_eq_true rfl) rfl dL_memory_239 (fun E ce q9 H1 locs1 hE w h1 h2 h3 => ?_) (fun H locs hE w => ?_)
                            · exfalso; rw [chk_t (show 0 ≤ k ∧ k ≤ 7 from by omega)] at hE; cases (show (none : Option String) = some E from hE)
                            refine q_il M dL_memory_242 (lv_at hl 10 rfl) ?_
                            refine q_if_eq (tgt := 271) M dL_memory_244 (by decide) (by omega) (fun c244 => ?_) (fun c244 => ?_)
                            · exfalso; omega
                            · have hnb := nF_bd hNX k
                              have hfc := f6_c (nF ν k)
                              refine q_al M dL_memory_247 (lv_at hl 8 rfl) ?_
                              refine q_bp M dL_memory_249 (by decide +kernel) ?_
                              refine q_il M dL_memory_251 (lv_at hl 13 rfl) ?_
                              refine q_add M dL_memory_253 ?_
                              refine q_iald (f := x204) M w 6 0 rfl rfl (by omega) dL_memory_254 ?_
                              refine q_top (y := f6 (nF ν k)) (by exact h204.2 k (by omega) (by omega)) ?_
                              refine q_ldc (n := 1000000) M (by decide +kernel) dL_memory_255 ?_
                              refine q_icmp_ge (tgt := 271) M dL_memory_257 (by decide) (by omega) (fun c257 => ?_) (fun c257 => ?_)
                              · refine q_ic M dL_memory_271 ?_
                                refine q_icmp_neE (tgt := 279) (x := if μ 23 0 = 1 ∧ μ 19 (μ 26 0 * 8 + k) ≠ 768 then μ 19 (μ 26 0 * 8 + k) else -1) (y := (-1)) M (by rw [Rel_nextUse hR (by omega), if_pos (by omega)]; omega) dL_memory_272 (by decide) ?_
                                refine q_ic M dL_memory_275 ?_
                                refine q_go (tgt := 280) M dL_memory_276 (by decide) ?_
                                refine q_is (lv' := [(12, .int (iI 1)), (0, .ref (a 0)), (1, .ref (o 0)), (2, .ref (o 1)), (3, .ref (o 2)), (4, .ref (o 3)), (5, .ref (o 4)), (6, .ref (o 8)), (7, .ref (o 9)), (8, .ref (o 10)), (9, .int (iI pv)), (10, .int (iI (ν 22 0))), (11, .int (iI i)), (13, .int (iI k))]) M dL_memory_280 hl (by decide) rfl (fun ls hl => ?_)
                                refine q_inc (z := k) (lv' := [(13, .int (iI (k + 1))), (12, .int (iI 1)), (0, .ref (a 0)), (1, .ref (o 0)), (2, .ref (o 1)), (3, .ref (o 2)), (4, .ref (o 3)), (5, .ref (o 4)), (6, .ref (o 8)), (7, .ref (o 9)), (8, .ref (o 10)), (9, .int (iI pv)), (10, .int (iI (ν 22 0))), (11, .int (iI i))]) M dL_memory_282 hl (k := 13) rfl (by decide) rfl (fun ls hl => ?_)
                                refine q_go (tgt := 210) M dL_memory_285 (by decide) ?_
                                refine W.widen (k := (2 * (k + 1).toNat)) (n := (12 * (k + 1).toNat)) (by show (((2 * k.toNat) + 1) + 1) ≤ (2 * (k + 1).toNat); omega) (by show (((12 * k.toNat) + 6) + 6) ≤ (12 * (k + 1).toNat); omega) ?_
                                exact ih210 (k + 1) (by omega) (by omega) _ _ _ w (lv_sub hl [1, 2, 3, 4, 5, 6, 7, 8, 9, 10, 11, 12, 13, 0] rfl)
                              · refine q_al M dL_memory_260 (lv_at hl 8 rfl) ?_
                                refine q_bp M dL_memory_262 (by decide +kernel) ?_
                                refine q_il M dL_memory_264 (lv_at hl 13 rfl) ?_
                                refine q_add M dL_memory_266 ?_
                                refine q_iald (f := x204) M w 6 0 rfl rfl (by omega) dL_memory_267 ?_
                                refine q_top (y := f6 (nF ν k)) (by exact h204.2 k (by omega) (by omega)) ?_
                                refine q_go (tgt := 272) M dL_memory_268 (by decide) ?_
                                refine q_icmp_neE (tgt := 279) (x := if μ 23 0 = 1 ∧ μ 19 (μ 26 0 * 8 + k) ≠ 768 then μ 19 (μ 26 0 * 8 + k) else -1) (y := f6 (nF ν k)) M (by rw [Rel_nextUse hR (by omega), if_pos (by omega)]; omega) dL_memory_272 (by decide) ?_
                                refine q_ic M dL_memory_275 ?_
                                refine q_go (tgt := 280) M dL_memory_276 (by decide) ?_
                                refine q_is (lv' := [(12, .int (iI 1)), (0, .ref (a 0)), (1, .ref (o 0)), (2, .ref (o 1)), (3, .ref (o 2)), (4, .ref (o 3)), (5, .ref (o 4)), (6, .ref (o 8)), (7, .ref (o 9)), (8, .ref (o 10)), (9, .int (iI pv)), (10, .int (iI (ν 22 0))), (11, .int (iI i)), (13, .int (iI k))]) M dL_memory_280 hl (by decide) rfl (fun ls hl => ?_)
                                refine q_inc (z := k) (lv' := [(13, .int (iI (k + 1))), (12, .int (iI 1)), (0, .ref (a 0)), (1, .ref (o 0)), (2, .ref (o 1)), (3, .ref (o 2)), (4, .ref (o 3)), (5, .ref (o 4)), (6, .ref (o 8)), (7, .ref (o 9)), (8, .ref (o 10)), (9, .int (iI pv)), (10, .int (iI (ν 22 0))), (11, .int (iI i))]) M dL_memory_282 hl (k := 13) rfl (by decide) rfl (fun ls hl => ?_)
                                refine q_go (tgt := 210) M dL_memory_285 (by decide) ?_
                                refine W.widen (k := (2 * (k + 1).toNat)) (n := (12 * (k + 1).toNat)) (by show (((2 * k.toNat) + 1) + 1) ≤ (2 * (k + 1).toNat); omega) (by show (((12 * k.toNat) + 6) + 6) ≤ (12 * (k + 1).toNat); omega) ?_
                                exact ih210 (k + 1) (by omega) (by omega) _ _ _ w (lv_sub hl [1, 2, 3, 4, 5, 6, 7, 8, 9, 10, 11, 12, 13, 0] rfl)
                    refine W.widen (k := (2 * (0 : Int).toNat)) (n := (12 * (0 : Int).toNat)) (by show 0 ≤ (2 * (0 : Int).toNat); omega) (by show 0 ≤ (12 * (0 : Int).toNat); omega) ?_
                    exact lp210 9 0 (by omega) (by omega) _ _ _ w (lv_sub hl [1, 2, 3, 4, 5, 6, 7, 8, 9, 10, 11, 12, 13, 0] rfl)
              refine q_if_ne (tgt := 123) M dL_memory_116 (by decide) (by omega) (fun c116 => ?_) (fun c116 => ?_)
              · refine q_bp M dL_memory_123 (by decide +kernel) ?_
                refine q_al M dL_memory_125 (lv_at hl 6 rfl) ?_
                refine q_ic M dL_memory_127 ?_
                refine q_iald (f := κ 8) M w 5 0 rfl rfl (by omega) dL_memory_128 ?_
                refine q_top (y := ν 26 0 + 1) (by exact hm4.1) ?_
                refine q_mul M dL_memory_129 ?_
                refine q_bp M dL_memory_130 (by decide +kernel) ?_
                refine q_sub M dL_memory_132 ?_
                refine q_al M dL_memory_133 (lv_at hl 6 rfl) ?_
                refine q_ic M dL_memory_135 ?_
                refine q_iald (f := κ 8) M w 5 0 rfl rfl (by omega) dL_memory_136 ?_
                refine q_top (y := ν 27 0) (by exact hm4.2) ?_
                refine q_add M dL_memory_137 ?_
                exact jn116 (((10 * (ν 26 0 + 1)) - 10) + (ν 27 0)) _ _ _ (by rw [if_neg (by omega)]; have := hr3 (by omega); omega) w (lv_sub hl [0, 1, 2, 3, 4, 5, 6, 7, 8, 9, 10, 11] rfl)
              · refine q_ic M dL_memory_119 ?_
                refine q_go (tgt := 138) M dL_memory_120 (by decide) ?_
                exact jn116 (-1) _ _ _ (by rw [if_pos (by omega)]) w (lv_sub hl [0, 1, 2, 3, 4, 5, 6, 7, 8, 9, 10, 11] rfl)
            · have hpl := sg_p hR hL hp (i := i - 1) (by omega)
              refine q_al M dL_memory_51 (lv_at hl 8 rfl) ?_
              refine q_il M dL_memory_53 (lv_at hl 11 rfl) ?_
              refine q_ic M dL_memory_55 ?_
              refine q_sub M dL_memory_56 ?_
              refine q_iald (f := κ 10) M w 7 0 rfl rfl (by omega) dL_memory_57 ?_
              refine q_bp M dL_memory_58 (by decide +kernel) ?_
              refine q_div M dL_memory_60 (by omega) ?_
              refine q_il M dL_memory_61 (lv_at hl 10 rfl) ?_
              refine q_icmp_ne (tgt := 72) M dL_memory_63 (by decide) (by omega) (fun c63 => ?_) (fun c63 => ?_)
              · have ei : i = ν 18 (ν 22 0) := by
                  by_cases z : ν 18 (ν 22 0) ≤ i - 1
                  · exact absurd (hpl.2.mpr ⟨z, by omega⟩) c63
                  · omega
                refine q_aln M dL_memory_72 (lv_at hl 0 rfl) ?_
                refine qc_iV (As := []) (rest := []) (wc := WAll cI a μ) (wc2 := WAll cI a μ) (ws2 := WLuse cI o κ ++ WAll cI a μ) M w hA hl (k_sounds l D cI cZ cJ a μ ) gL_memory_X6_sounds rfl ⟨rfl, rfl, by decide, by decide⟩ ⟨by show 0 ≤ 20; omega, by show 0 ≤ 120; omega⟩ 0 ⟨rfl, by decide +kernel⟩ rfl [false, false, false, false, false, false, false, false, true, true, true, true, true, true, true, true, true, true, true, true, true, true, true, true, true, true, true, true, true, true, true, true, true, true, true, true, true, true, true, true, true, true, true, true, true, true, true, true, true, true, true, true, true, true, true, true, true, true] rfl rfl 8 rfl rfl rfl (Nat.le_of_ble_eq_true rfl) rfl dL_memory_73 (fun H locs w => ?_)
                refine q_al M dL_memory_76 (lv_at hl 6 rfl) ?_
                refine q_bp M dL_memory_78 (by decide +kernel) ?_
                refine q_iald (f := κ 8) M w 5 0 rfl rfl (by omega) dL_memory_80 ?_
                refine q_icmp_neE (tgt := 183) (x := μ 31 0) (y := (κ 8) 6) M (by omega) dL_memory_81 (by decide) ?_
                refine q_aln M dL_memory_84 (lv_at hl 0 rfl) ?_
                refine qc_iV (As := []) (rest := []) (wc := WAll cI a μ) (wc2 := WAll cI a μ) (ws2 := WLuse cI o κ ++ WAll cI a μ) M w hA hl (k_misses l D cI cZ cJ a μ ) gL_memory_X6_misses rfl ⟨rfl, rfl, by decide, by decide⟩ ⟨by show 0 ≤ 20; omega, by show 0 ≤ 120; omega⟩ 0 ⟨rfl, by decide +kernel⟩ rfl [false, false, false, false, false, false, false, false, true, true, true, true, true, true, true, true, true, true, true, true, true, true, true, true, true, true, true, true, true, true, true, true, true, true, true, true, true, true, true, true, true, true, true, true, true, true, true, true, true, true, true, true, true, true, true, true, true, true] rfl rfl 8 rfl rfl rfl (Nat.le_of_ble_eq_true rfl) rfl dL_memory_85 (fun H locs w => ?_)
                refine q_al M dL_memory_88 (lv_at hl 6 rfl) ?_
                refine q_bp M dL_memory_90 (by decide +kernel) ?_
                refine q_iald (f := κ 8) M w 5 0 rfl rfl (by omega) dL_memory_92 ?_
                refine q_icmp_neE (tgt := 183) (x := μ 32 0) (y := (κ 8) 7) M (by omega) dL_memory_93 (by decide) ?_
                refine q_aln M dL_memory_96 (lv_at hl 0 rfl) ?_
                refine qc_iV (As := []) (rest := []) (wc := WAll cI a μ) (wc2 := WAll cI a μ) (ws2 := WLuse cI o κ ++ WAll cI a μ) M w hA hl (k_soundNumber l D cI cZ cJ a μ ) gL_memory_X6_soundNumber rfl ⟨rfl, rfl, by decide, by decide⟩ ⟨by show 0 ≤ 20; omega, by show 0 ≤ 120; omega⟩ 0 ⟨rfl, by decide +kernel⟩ rfl [false, false, false, false, false, false, false, false, true, true, true, true, true, true, true, true, true, true, true, true, true, true, true, true, true, true, true, true, true, true, true, true, true, true, true, true, true, true, true, true, true, true, true, true, true, true, true, true, true, true, true, true, true, true, true, true, true, true] rfl rfl 8 rfl rfl rfl (Nat.le_of_ble_eq_true rfl) rfl dL_memory_97 (fun H locs w => ?_)
                refine q_al M dL_memory_100 (lv_at hl 6 rfl) ?_
                refine q_bp M dL_memory_102 (by decide +kernel) ?_
                refine q_iald (f := κ 8) M w 5 0 rfl rfl (by omega) dL_memory_104 ?_
                refine q_icmp_neE (tgt := 183) (x := μ 33 0) (y := (κ 8) 8) M (by omega) dL_memory_105 (by decide) ?_
                refine q_aln M dL_memory_108 (lv_at hl 0 rfl) ?_
                refine qc_iV (As := []) (rest := []) (wc := WAll cI a μ) (wc2 := WAll cI a μ) (ws2 := WLuse cI o κ ++ WAll cI a μ) M w hA hl (k_inHand l D cI cZ cJ a μ (by omega)) gL_memory_X6_inHand rfl ⟨rfl, rfl, by decide, by decide⟩ ⟨by show 0 ≤ 20; omega, by show 0 ≤ 120; omega⟩ 0 ⟨rfl, by decide +kernel⟩ rfl [false, false, false, false, false, false, false, false, true, true, true, true, true, true, true, true, true, true, true, true, true, true, true, true, true, true, true, true, true, true, true, true, true, true, true, true, true, true, true, true, true, true, true, true, true, true, true, true, true, true, true, true, true, true, true, true, true, true] rfl rfl 8 rfl rfl rfl (Nat.le_of_ble_eq_true rfl) rfl dL_memory_109 (fun H locs w => ?_)
                refine q_al M dL_memory_112 (lv_at hl 6 rfl) ?_
                refine q_ic M dL_memory_114 ?_
                refine q_iald (f := κ 8) M w 5 0 rfl rfl (by omega) dL_memory_115 ?_
                refine q_top (y := ν 26 0 + 1) (by exact hm4.1) ?_
                have jn116 : ∀ (hv : Int) (H : Heap) (locs : List Loc) (ls : Array Slot), (hv = if μ 28 0 = -1 then -1 else 10 * μ 28 0 + μ 29 0) → wW D A zs.heap (WLuse cI o κ ++ WAll cI a μ) H locs → lv_has ls 14 [(0, .ref (a 0)), (1, .ref (o 0)), (2, .ref (o 1)), (3, .ref (o 2)), (4, .ref (o 3)), (5, .ref (o 4)), (6, .ref (o 8)), (7, .ref (o 9)), (8, .ref (o 10)), (9, .int (iI pv)), (10, .int (iI (ν 22 0))), (11, .int (iI i))] → W zp l ze rmL_memory zs zm zargs zbelow zmeth zc H locs 0 0 Q (F0 zm 138 ls [.int (iI hv), .int (iI (if μ 28 0 = -1 then -1 else 10 * μ 28 0 + μ 29 0))]) := by
                  intro hv H locs ls hhv w hl
                  refine q_icmp_neE (tgt := 183) (x := if μ 28 0 = -1 then -1 else 10 * μ 28 0 + μ 29 0) (y := hv) M (by exact hhv.symm) dL_memory_138 (by decide) ?_
                  refine q_aln M dL_memory_141 (lv_at hl 0 rfl) ?_
                  refine qc_iV (As := []) (rest := []) (wc := WAll cI a μ) (wc2 := WAll cI a μ) (ws2 := WLuse cI o κ ++ WAll cI a μ) M w hA hl (k_place l D cI cZ cJ a μ h23) gL_memory_X6_place rfl ⟨rfl, rfl, by decide, by decide⟩ ⟨by show 0 ≤ 20; omega, by show 0 ≤ 120; omega⟩ 0 ⟨rfl, by decide +kernel⟩ rfl [false, false, false, false, false, false, false, false, true, true, true, true, true, true, true, true, true, true, true, true, true, true, true, true, true, true, true, true, true, true, true, true, true, true, true, true, true, true, true, true, true, true, true, true, true, true, true, true, true, true, true, true, true, true, true, true, true, true] rfl rfl 8 rfl rfl rfl (Nat.le_of_ble_eq_true rfl) rfl dL_memory_142 (fun H locs w => ?_)
                  refine q_il M dL_memory_145 (lv_at hl 9 rfl) ?_
                  refine q_if_eq (tgt := 175) M dL_memory_147 (by decide) (by omega) (fun c147 => ?_) (fun c147 => ?_)
                  · exfalso; omega
                  · refine q_ldc (n := 100000) M (by decide +kernel) dL_memory_150 ?_
                    refine q_il M dL_memory_152 (lv_at hl 10 rfl) ?_
                    refine q_mul M dL_memory_154 ?_
                    refine q_sp M dL_memory_155 (by decide +kernel) ?_
                    refine q_al M dL_memory_158 (lv_at hl 6 rfl) ?_
                    refine q_ic M dL_memory_160 ?_
                    refine q_iald (f := κ 8) M w 5 0 rfl rfl (by omega) dL_memory_161 ?_
                    refine q_top (y := ν 23 0) (by exact hq2) ?_
                    refine q_il M dL_memory_162 (lv_at hl 11 rfl) ?_
                    refine q_sub M dL_memory_164 ?_
                    refine q_mul M dL_memory_165 ?_
                    refine q_add M dL_memory_166 ?_
                    refine q_al M dL_memory_167 (lv_at hl 6 rfl) ?_
                    refine q_ic M dL_memory_169 ?_
                    refine q_iald (f := κ 8) M w 5 0 rfl rfl (by omega) dL_memory_170 ?_
                    refine q_top (y := ν 24 0) (by exact hq3) ?_
                    refine q_add M dL_memory_171 ?_
                    refine q_go (tgt := 176) M dL_memory_172 (by decide) ?_
                    refine q_icmp_neE (tgt := 183) (x := if μ 23 0 = 1 then 100000 * μ 24 0 + 1000 * μ 25 0 + μ 26 0 else -1) (y := ((100000 * (ν 22 0)) + (1000 * ((ν 23 0) - i))) + (ν 24 0)) M (by rw [Rel_place hR, if_pos (by omega)]; omega) dL_memory_176 (by decide) ?_
                    refine q_ic M dL_memory_179 ?_
                    refine q_go (tgt := 184) M dL_memory_180 (by decide) ?_
                    refine q_is (lv' := [(12, .int (iI 1)), (0, .ref (a 0)), (1, .ref (o 0)), (2, .ref (o 1)), (3, .ref (o 2)), (4, .ref (o 3)), (5, .ref (o 4)), (6, .ref (o 8)), (7, .ref (o 9)), (8, .ref (o 10)), (9, .int (iI pv)), (10, .int (iI (ν 22 0))), (11, .int (iI i))]) M dL_memory_184 hl (by decide) rfl (fun ls hl => ?_)
                    refine q_il M dL_memory_186 (lv_at hl 10 rfl) ?_
                    refine q_if_eq (tgt := 207) M dL_memory_188 (by decide) (by omega) (fun c188 => ?_) (fun c188 => ?_)
                    · exfalso; omega
                    · refine q_aln M dL_memory_191 (lv_at hl 2 rfl) ?_
                      refine q_aln M dL_memory_192 (lv_at hl 3 rfl) ?_
                      refine q_aln M dL_memory_193 (lv_at hl 4 rfl) ?_
                      refine q_al M dL_memory_194 (lv_at hl 5 rfl) ?_
                      refine q_al M dL_memory_196 (lv_at hl 6 rfl) ?_
                      refine q_al M dL_memory_198 (lv_at hl 7 rfl) ?_
                      refine q_al M dL_memory_200 (lv_at hl 8 rfl) ?_
                      refine q_al M dL_memory_202 (lv_at hl 9 rfl) ?_
                      refine qe_vS (As := [.ref (o 0), .ref (o 1), .ref (o 2), .ref (o 3), .ref (o 4), .ref (o 8), .ref (o 9), .ref (o 10)]) (rest := []) (wc := WLuse cI o κ) (G := fun x204 => WLuse cI o (mset κ 9 x204) ++ WAll cI a μ) M w hA hl (k_uses l D cI cZ cJ o κ ν (UH_r hR hL hp)) gL_memory_L_uses rfl ⟨rfl, rfl, by decide, by decide⟩ ⟨by show 0 ≤ 20; omega, by show 0 ≤ 120; omega⟩ 8 (by decide +kernel) rfl [true, true, true, true, true, true, true, true] rfl (fun _ => rfl) rfl (Nat.le_of_ble_eq_true rfl) (fun _ => rfl) dL_memory_204 (fun x204 h204 H locs w => ?_)
                      refine q_ic M dL_memory_207 ?_
                      refine q_is (lv' := [(13, .int (iI 0)), (12, .int (iI 1)), (0, .ref (a 0)), (1, .ref (o 0)), (2, .ref (o 1)), (3, .ref (o 2)), (4, .ref (o 3)), (5, .ref (o 4)), (6, .ref (o 8)), (7, .ref (o 9)), (8, .ref (o 10)), (9, .int (iI pv)), (10, .int (iI (ν 22 0))), (11, .int (iI i))]) M dL_memory_208 hl (by decide) rfl (fun ls hl => ?_)
                      have lp210 : ∀ (n210 : Nat) (k : Int), (0 ≤ k ∧ k ≤ 8) → (8 - k : Int) < (n210 : Int) → ∀ (H : Heap) (locs : List Loc) (ls : Array Slot), wW D A zs.heap (WLuse cI o (mset κ 9 x204) ++ WAll cI a μ) H locs → lv_has ls 14 [(12, .int (iI 1)), (0, .ref (a 0)), (1, .ref (o 0)), (2, .ref (o 1)), (3, .ref (o 2)), (4, .ref (o 3)), (5, .ref (o 4)), (6, .ref (o 8)), (7, .ref (o 9)), (8, .ref (o 10)), (9, .int (iI pv)), (10, .int (iI (ν 22 0))), (11, .int (iI i)), (13, .int (iI k))] → W zp l ze rmL_memory zs zm zargs zbelow zmeth zc H locs (2 * k.toNat) (12 * k.toNat) Q (F0 zm 210 ls []) := by
                        intro n210
                        induction n210 with
                        | zero => intro k hk hm H locs ls w hl; exfalso; omega
                        | succ n210 ih210 =>
                          intro k hk hm210 H locs ls w hl
                          refine q_il M dL_memory_210 (lv_at hl 13 rfl) ?_
                          refine q_bp M dL_memory_212 (by decide +kernel) ?_
                          refine q_icmp_ge (tgt := 288) M dL_memory_214 (by decide) (by omega) (fun c214 => ?_) (fun c214 => ?_)
                          · refine q_il M dL_memory_288 (lv_at hl 0 rfl) ?_
                            have hP9 : (1 : Int) = 1 ∧ ∃ ν2, Rel μ ν2 ∧ LR ν2 (mset κ 9 x204) := ⟨rfl, ν, hR, LR_m hL (fun j a b => h204.1 j a b)⟩
                            exact kret _ _ _ _ _ (x204, μ) _ _ (by show (2 * k.toNat) ≤ 20; omega) (by show (12 * k.toNat) ≤ 120; omega) dL_memory_290 w (hP9)
                          · refine q_il M dL_memory_217 (lv_at hl 0 rfl) ?_
                            refine q_if_eq (tgt := 288) M dL_memory_219 (by decide) (by omega) (fun c219 => ?_) (fun c219 => ?_)
                            · exfalso; omega
                            · refine q_aln M dL_memory_222 (lv_at hl 1 rfl) ?_
                              refine q_il M dL_memory_223 (lv_at hl 13 rfl) ?_
                              refine qx_iV (As := [.int (iI k)]) (rest := []) (wc := WAll cI a μ) (wc2 := WAll cI a μ) (ws2 := WLuse cI o (mset κ 9 x204) ++ WAll cI a μ) M w hA hT hl (k_loaded l hfl D cI cZ cJ a μ k (by omega)) gL_memory_X6_loaded rfl ⟨by decide, by decide⟩ ⟨by show (2 * k.toNat) + 1 ≤ 20; omega, by show (12 * k.toNat) + 6 ≤ 120; omega⟩ 1 ⟨rfl, by decide +kernel⟩ rfl [false, false, false, false, false, false, false, false, true, true, true, true, true, true, true, true, true, true, true, true, true, true, true, true, true, true, true, true, true, true, true, true, true, true, true, true, true, true, true, true, true, true, true, true, true, true, true, true, true, true, true, true, true, true, true, true, true, true] rfl rfl 8 rfl rfl rfl (Nat.le_of_ble_eq_true rfl) rfl dL_memory_225 (fun E ce q9 H1 locs1 hE w h1 h2 h3 => ?_) (fun H locs hE w => ?_)
                              · exfalso; rw [chk_t (show 0 ≤ k ∧ k ≤ 7 from by omega)] at hE; cases (show (none : Option String) = some E from hE)
                              refine q_al M dL_memory_228 (lv_at hl 8 rfl) ?_
                              refine q_il M dL_memory_230 (lv_at hl 13 rfl) ?_
                              refine q_iald (f := x204) M w 6 0 rfl rfl (by omega) dL_memory_232 ?_
                              refine q_icmp_neE (tgt := 279) (x := μ 21 k) (y := x204 k) M (by have q1 := congrFun hR.1.2.2.2.2.2.2 k; have q2 := hL.2.2.2.2.1.1 k (by omega) (by omega); have q3 := h204.1 k (by omega) (by omega); omega) dL_memory_233 (by decide) ?_
                              refine q_aln M dL_memory_236 (lv_at hl 1 rfl) ?_
                              refine q_il M dL_memory_237 (lv_at hl 13 rfl) ?_
                              refine qx_iV (As := [.int (iI k)]) (rest := []) (wc := WAll cI a μ) (wc2 := WAll cI a μ) (ws2 := WLuse cI o (mset κ 9 x204) ++ WAll cI a μ) M w hA hT hl (k_nextUse l hfl D cI cZ cJ a μ k (by omega) h23 h26 hR.2.1.2.2.2) gL_memory_X6_nextUse rfl ⟨by decide, by decide⟩ ⟨by show ((2 * k.toNat) + 1) + 1 ≤ 20; omega, by show ((12 * k.toNat) + 6) + 6 ≤ 120; omega⟩ 1 ⟨rfl, by decide +kernel⟩ rfl [false, false, false, false, false, false, false, false, true, true, true, true, true, true, true, true, true, true, true, true, true, true, true, true, true, true, true, true, true, true, true, true, true, true, true, true, true, true, true, true, true, true, true, true, true, true, true, true, true, true, true, true, true, true, true, true, true, true] rfl rfl 8 rfl rfl rfl (Nat.le_of_ble_eq_true rfl) rfl dL_memory_239 (fun E ce q9 H1 locs1 hE w h1 h2 h3 => ?_) (fun H locs hE w => ?_)
                              · exfalso; rw [chk_t (show 0 ≤ k ∧ k ≤ 7 from by omega)] at hE; cases (show (none : Option String) = some E from hE)
                              refine q_il M dL_memory_242 (lv_at hl 10 rfl) ?_
                              refine q_if_eq (tgt := 271) M dL_memory_244 (by decide) (by omega) (fun c244 => ?_) (fun c244 => ?_)
                              · exfalso; omega
                              · have hnb := nF_bd hNX k
                                have hfc := f6_c (nF ν k)
                                refine q_al M dL_memory_247 (lv_at hl 8 rfl) ?_
                                refine q_bp M dL_memory_249 (by decide +kernel) ?_
                                refine q_il M dL_memory_251 (lv_at hl 13 rfl) ?_
                                refine q_add M dL_memory_253 ?_
                                refine q_iald (f := x204) M w 6 0 rfl rfl (by omega) dL_memory_254 ?_
                                refine q_top (y := f6 (nF ν k)) (by exact h204.2 k (by omega) (by omega)) ?_
                                refine q_ldc (n := 1000000) M (by decide +kernel) dL_memory_255 ?_
                                refine q_icmp_ge (tgt := 271) M dL_memory_257 (by decide) (by omega) (fun c257 => ?_) (fun c257 => ?_)
                                · refine q_ic M dL_memory_271 ?_
                                  refine q_icmp_neE (tgt := 279) (x := if μ 23 0 = 1 ∧ μ 19 (μ 26 0 * 8 + k) ≠ 768 then μ 19 (μ 26 0 * 8 + k) else -1) (y := (-1)) M (by rw [Rel_nextUse hR (by omega), if_pos (by omega)]; omega) dL_memory_272 (by decide) ?_
                                  refine q_ic M dL_memory_275 ?_
                                  refine q_go (tgt := 280) M dL_memory_276 (by decide) ?_
                                  refine q_is (lv' := [(12, .int (iI 1)), (0, .ref (a 0)), (1, .ref (o 0)), (2, .ref (o 1)), (3, .ref (o 2)), (4, .ref (o 3)), (5, .ref (o 4)), (6, .ref (o 8)), (7, .ref (o 9)), (8, .ref (o 10)), (9, .int (iI pv)), (10, .int (iI (ν 22 0))), (11, .int (iI i)), (13, .int (iI k))]) M dL_memory_280 hl (by decide) rfl (fun ls hl => ?_)
                                  refine q_inc (z := k) (lv' := [(13, .int (iI (k + 1))), (12, .int (iI 1)), (0, .ref (a 0)), (1, .ref (o 0)), (2, .ref (o 1)), (3, .ref (o 2)), (4, .ref (o 3)), (5, .ref (o 4)), (6, .ref (o 8)), (7, .ref (o 9)), (8, .ref (o 10)), (9, .int (iI pv)), (10, .int (iI (ν 22 0))), (11, .int (iI i))]) M dL_memory_282 hl (k := 13) rfl (by decide) rfl (fun ls hl => ?_)
                                  refine q_go (tgt := 210) M dL_memory_285 (by decide) ?_
                                  refine W.widen (k := (2 * (k + 1).toNat)) (n := (12 * (k + 1).toNat)) (by show (((2 * k.toNat) + 1) + 1) ≤ (2 * (k + 1).toNat); omega) (by show (((12 * k.toNat) + 6) + 6) ≤ (12 * (k + 1).toNat); omega) ?_
                                  exact ih210 (k + 1) (by omega) (by omega) _ _ _ w (lv_sub hl [1, 2, 3, 4, 5, 6, 7, 8, 9, 10, 11, 12, 13, 0] rfl)
                                · refine q_al M dL_memory_260 (lv_at hl 8 rfl) ?_
                                  refine q_bp M dL_memory_262 (by decide +kernel) ?_
                                  refine q_il M dL_memory_264 (lv_at hl 13 rfl) ?_
                                  refine q_add M dL_memory_266 ?_
                                  refine q_iald (f := x204) M w 6 0 rfl rfl (by omega) dL_memory_267 ?_
                                  refine q_top (y := f6 (nF ν k)) (by exact h204.2 k (by omega) (by omega)) ?_
                                  refine q_go (tgt := 272) M dL_memory_268 (by decide) ?_
                                  refine q_icmp_neE (tgt := 279) (x := if μ 23 0 = 1 ∧ μ 19 (μ 26 0 * 8 + k) ≠ 768 then μ 19 (μ 26 0 * 8 + k) else -1) (y := f6 (nF ν k)) M (by rw [Rel_nextUse hR (by omega), if_pos (by omega)]; omega) dL_memory_272 (by decide) ?_
                                  refine q_ic M dL_memory_275 ?_
                                  refine q_go (tgt := 280) M dL_memory_276 (by decide) ?_
                                  refine q_is (lv' := [(12, .int (iI 1)), (0, .ref (a 0)), (1, .ref (o 0)), (2, .ref (o 1)), (3, .ref (o 2)), (4, .ref (o 3)), (5, .ref (o 4)), (6, .ref (o 8)), (7, .ref (o 9)), (8, .ref (o 10)), (9, .int (iI pv)), (10, .int (iI (ν 22 0))), (11, .int (iI i)), (13, .int (iI k))]) M dL_memory_280 hl (by decide) rfl (fun ls hl => ?_)
                                  refine q_inc (z := k) (lv' := [(13, .int (iI (k + 1))), (12, .int (iI 1)), (0, .ref (a 0)), (1, .ref (o 0)), (2, .ref (o 1)), (3, .ref (o 2)), (4, .ref (o 3)), (5, .ref (o 4)), (6, .ref (o 8)), (7, .ref (o 9)), (8, .ref (o 10)), (9, .int (iI pv)), (10, .int (iI (ν 22 0))), (11, .int (iI i))]) M dL_memory_282 hl (k := 13) rfl (by decide) rfl (fun ls hl => ?_)
                                  refine q_go (tgt := 210) M dL_memory_285 (by decide) ?_
                                  refine W.widen (k := (2 * (k + 1).toNat)) (n := (12 * (k + 1).toNat)) (by show (((2 * k.toNat) + 1) + 1) ≤ (2 * (k + 1).toNat); omega) (by show (((12 * k.toNat) + 6) + 6) ≤ (12 * (k + 1).toNat); omega) ?_
                                  exact ih210 (k + 1) (by omega) (by omega) _ _ _ w (lv_sub hl [1, 2, 3, 4, 5, 6, 7, 8, 9, 10, 11, 12, 13, 0] rfl)
                      refine W.widen (k := (2 * (0 : Int).toNat)) (n := (12 * (0 : Int).toNat)) (by show 0 ≤ (2 * (0 : Int).toNat); omega) (by show 0 ≤ (12 * (0 : Int).toNat); omega) ?_
                      exact lp210 9 0 (by omega) (by omega) _ _ _ w (lv_sub hl [1, 2, 3, 4, 5, 6, 7, 8, 9, 10, 11, 12, 13, 0] rfl)
                refine q_if_ne (tgt := 123) M dL_memory_116 (by decide) (by omega) (fun c116 => ?_) (fun c116 => ?_)
                · refine q_bp M dL_memory_123 (by decide +kernel) ?_
                  refine q_al M dL_memory_125 (lv_at hl 6 rfl) ?_
                  refine q_ic M dL_memory_127 ?_
                  refine q_iald (f := κ 8) M w 5 0 rfl rfl (by omega) dL_memory_128 ?_
                  refine q_top (y := ν 26 0 + 1) (by exact hm4.1) ?_
                  refine q_mul M dL_memory_129 ?_
                  refine q_bp M dL_memory_130 (by decide +kernel) ?_
                  refine q_sub M dL_memory_132 ?_
                  refine q_al M dL_memory_133 (lv_at hl 6 rfl) ?_
                  refine q_ic M dL_memory_135 ?_
                  refine q_iald (f := κ 8) M w 5 0 rfl rfl (by omega) dL_memory_136 ?_
                  refine q_top (y := ν 27 0) (by exact hm4.2) ?_
                  refine q_add M dL_memory_137 ?_
                  exact jn116 (((10 * (ν 26 0 + 1)) - 10) + (ν 27 0)) _ _ _ (by rw [if_neg (by omega)]; have := hr3 (by omega); omega) w (lv_sub hl [0, 1, 2, 3, 4, 5, 6, 7, 8, 9, 10, 11] rfl)
                · refine q_ic M dL_memory_119 ?_
                  refine q_go (tgt := 138) M dL_memory_120 (by decide) ?_
                  exact jn116 (-1) _ _ _ (by rw [if_pos (by omega)]) w (lv_sub hl [0, 1, 2, 3, 4, 5, 6, 7, 8, 9, 10, 11] rfl)
              · have hpi := hpl.2.mp c63
                refine q_inc (z := i) (lv' := [(11, .int (iI (i + (-1)))), (0, .ref (a 0)), (1, .ref (o 0)), (2, .ref (o 1)), (3, .ref (o 2)), (4, .ref (o 3)), (5, .ref (o 4)), (6, .ref (o 8)), (7, .ref (o 9)), (8, .ref (o 10)), (9, .int (iI pv)), (10, .int (iI (ν 22 0)))]) M dL_memory_66 hl (k := 11) rfl (by decide) rfl (fun ls hl => ?_)
                refine q_go (tgt := 41) M dL_memory_69 (by decide) ?_
                exact ih41 (i + -1) (by omega) (by omega) _ _ _ w (lv_sub hl [1, 2, 3, 4, 5, 6, 7, 8, 9, 10, 11, 0] rfl)
      exact lp41 66 (ν 23 0) (by omega) (by omega) _ _ _ w (lv_sub hl [3, 4, 5, 6, 7, 8, 9, 10, 11, 2, 1, 0] rfl)
  refine q_if_le (tgt := 11) M dL_memory_4 (by decide) (by omega) (fun c4 => ?_) (fun c4 => ?_)
  · refine q_ic M dL_memory_11 ?_
    exact jn4 0 _ _ _ (by omega) w (lv_sub hl [0, 1, 2, 3, 4, 5, 6, 7, 8] rfl)
  · refine q_ic M dL_memory_7 ?_
    refine q_go (tgt := 12) M dL_memory_8 (by decide) ?_
    exact jn4 1 _ _ _ (by omega) w (lv_sub hl [0, 1, 2, 3, 4, 5, 6, 7, 8] rfl)
