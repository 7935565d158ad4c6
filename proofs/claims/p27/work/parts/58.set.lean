/-! THE LAW'S ACTS: sets -/
theorem LR_q {ν κ : Nat → Int → Int} {A T q : Int → Int} (h : LR ν κ) (hA : ∀ j, A j = κ 4 j) (hT : ∀ j, T j = κ 5 j) (hq : ∀ j, q j = κ 8 j) : LR ν (mset (mset (mset κ 4 A) 5 T) 8 q) := by
  obtain ⟨⟨a1, a2, a3⟩, ⟨t1, t2, t3⟩, hN, ⟨⟨i1, i2⟩, i3⟩, ⟨m1, ⟨m2, m3⟩, m4, m5, m6⟩, h0, h1⟩ := h
  refine ⟨⟨a1, a2, fun k x y => ⟨(hA k).trans (a3 k x y).1, (hA (3 + k)).trans (a3 k x y).2⟩⟩, ⟨fun k x y => ⟨(hT k).trans (t1 k x y).1, (hT (8 + k)).trans (t1 k x y).2⟩, fun j x y => (hT (16 + j)).trans (t2 j x y), (hq 9).trans t3⟩, hN, ⟨⟨(hq 0).trans i1, i2⟩, i3⟩, ⟨m1, ⟨(hq 4).trans m2, (hq 5).trans m3⟩, (hq 6).trans m4, (hq 7).trans m5, (hq 8).trans m6⟩, fun z => (hq 1).trans (h0 z), fun z => ?_⟩
  obtain ⟨⟨g1, g2⟩, ⟨g3, g4⟩, g5⟩ := h1 z
  exact ⟨⟨g1, (hq 1).trans g2⟩, ⟨(hq 2).trans g3, (hq 3).trans g4⟩, g5⟩
theorem LR_sz {ν κ : Nat → Int → Int} {A T q : Int → Int} {s v : Int} (h : LR ν κ) (hs : 0 ≤ s ∧ s < 8) (hA : ∀ j, A j = κ 4 j) (hT : ∀ j, T j = iU (κ 5) s v j) (hq : ∀ j, q j = κ 8 j) (g : Int → Int) : LR (mset (mset ν 0 g) 1 (iU (ν 1) s v)) (mset (mset (mset κ 4 A) 5 T) 8 q) := by
  obtain ⟨hA', ⟨-, -, t3'⟩, rest⟩ := LR_q h hA (fun _ => rfl) hq
  obtain ⟨-, ⟨t1, t2, -⟩, -⟩ := h
  refine ⟨hA', ⟨fun k x y => ⟨?_, ?_⟩, fun j x y => ?_, t3'⟩, rest⟩
  · show T k = iU (ν 1) s v k
    have i := iU_0 (ν 1) s v k
    have j := iU_0 (κ 5) s v k
    have := (t1 k x y).1
    rw [hT]; omega
  · show T (8 + k) = ν 2 k
    have j := iU_0 (κ 5) s v (8 + k)
    have := (t1 k x y).2
    rw [hT]; omega
  · show T (16 + j) = ν 8 j
    have i := iU_0 (κ 5) s v (16 + j)
    have := t2 j x y
    rw [hT]; omega
theorem LR_tn {ν κ : Nat → Int → Int} {A T q : Int → Int} {s v : Int} (h : LR ν κ) (hs : 0 ≤ s ∧ s < 8) (hA : ∀ j, A j = κ 4 j) (hT : ∀ j, T j = iU (κ 5) (8 + s) v j) (hq : ∀ j, q j = κ 8 j) (g : Int → Int) : LR (mset (mset ν 0 g) 2 (iU (ν 2) s v)) (mset (mset (mset κ 4 A) 5 T) 8 q) := by
  obtain ⟨hA', ⟨-, -, t3'⟩, rest⟩ := LR_q h hA (fun _ => rfl) hq
  obtain ⟨-, ⟨t1, t2, -⟩, -⟩ := h
  refine ⟨hA', ⟨fun k x y => ⟨?_, ?_⟩, fun j x y => ?_, t3'⟩, rest⟩
  · show T k = ν 1 k
    have j := iU_0 (κ 5) (8 + s) v k
    have := (t1 k x y).1
    rw [hT]; omega
  · show T (8 + k) = iU (ν 2) s v k
    have i := iU_0 (ν 2) s v k
    have j := iU_0 (κ 5) (8 + s) v (8 + k)
    have := (t1 k x y).2
    rw [hT]; omega
  · show T (16 + j) = ν 8 j
    have i := iU_0 (κ 5) (8 + s) v (16 + j)
    have := t2 j x y
    rw [hT]; omega
theorem LR_fe {ν κ : Nat → Int → Int} {A T q : Int → Int} {p v u : Int} (h : LR ν κ) (hp : 0 ≤ p ∧ p < 3) (hA : ∀ j, A j = iU (iU (κ 4) p v) (3 + p) u j) (hT : ∀ j, T j = κ 5 j) (hq : ∀ j, q j = κ 8 j) (g : Int → Int) : LR (mset (mset (mset ν 0 g) 5 (iU (ν 5) p v)) 6 (iU (ν 6) p u)) (mset (mset (mset κ 4 A) 5 T) 8 q) := by
  obtain ⟨⟨a1, a2, -⟩, rest⟩ := LR_q h (fun _ => rfl) hT hq
  obtain ⟨⟨-, -, a3⟩, -⟩ := h
  refine ⟨⟨a1, a2, fun k x y => ⟨?_, ?_⟩⟩, rest⟩
  · show A k = iU (ν 5) p v k
    have i := iU_0 (ν 5) p v k
    have j := iU_0 (iU (κ 4) p v) (3 + p) u k
    have j2 := iU_0 (κ 4) p v k
    have := (a3 k x y).1
    rw [hA]; omega
  · show A (3 + k) = iU (ν 6) p u k
    have i := iU_0 (ν 6) p u k
    have j := iU_0 (iU (κ 4) p v) (3 + p) u (3 + k)
    have j2 := iU_0 (κ 4) p v (3 + k)
    have := (a3 k x y).2
    rw [hA]; omega
theorem cp_0 (h f : Int → Int) (q i j : Int) : ((q ≤ j ∧ j < q + i) ∧ cpF h f q i j = f (j - q)) ∨ (¬ (q ≤ j ∧ j < q + i) ∧ cpF h f q i j = h j) := by
  unfold cpF
  by_cases z : q ≤ j ∧ j < q + i
  · rw [if_pos z]; exact Or.inl ⟨z, rfl⟩
  · rw [if_neg z]; exact Or.inr ⟨z, rfl⟩
theorem LR_fz {ν κ : Nat → Int → Int} {A T q : Int → Int} {p x v9 : Int} (h : LR ν κ) (hp : 0 ≤ p ∧ p < 3) (hA : ∀ j, A j = κ 4 j) (hT : T = if x = 1 ∧ ν 7 p = 0 then cpF (κ 5) (fun i => κ 5 (8 + i)) (16 + 8 * p) 8 else κ 5) (hq : q = iU (κ 8) 9 v9) (h9 : v9 = iU (ν 7) p x 0 + 2 * iU (ν 7) p x 1 + 4 * iU (ν 7) p x 2) (g : Int → Int) : LR (mset (mset (mset ν 0 g) 7 (iU (ν 7) p x)) 8 (frz (vw ν) p x)) (mset (mset (mset κ 4 A) 5 T) 8 q) := by
  obtain ⟨⟨a1, a2, a3⟩, ⟨t1, t2, t3⟩, hN, ⟨⟨i1, i2⟩, i3⟩, ⟨m1, ⟨m2, m3⟩, m4, m5, m6⟩, h0, h1⟩ := h
  have hz : ∀ j, j ≠ 9 → q j = κ 8 j := fun j z => by rw [hq]; exact iU_n _ _ z
  have hq9 : q 9 = v9 := by rw [hq]; exact iU_s _ _ _
  have hT1 : ∀ j, j < 16 → T j = κ 5 j := fun j z => by
    rw [hT]
    by_cases w : x = 1 ∧ ν 7 p = 0
    · rw [if_pos w]
      rcases cp_0 (κ 5) (fun i => κ 5 (8 + i)) (16 + 8 * p) 8 j with ⟨c1, _⟩ | ⟨_, c2⟩
      · omega
      · exact c2
    · rw [if_neg w]
  refine ⟨⟨a1, a2, fun k a b => ⟨(hA k).trans (a3 k a b).1, (hA (3 + k)).trans (a3 k a b).2⟩⟩, ⟨fun k a b => ⟨(hT1 k (by omega)).trans (t1 k a b).1, (hT1 (8 + k) (by omega)).trans (t1 k a b).2⟩, fun j a b => ?_, hq9.trans h9⟩, hN, ⟨⟨(hz 0 (by omega)).trans i1, i2⟩, i3⟩, ⟨m1, ⟨(hz 4 (by omega)).trans m2, (hz 5 (by omega)).trans m3⟩, (hz 6 (by omega)).trans m4, (hz 7 (by omega)).trans m5, (hz 8 (by omega)).trans m6⟩, fun z => (hz 1 (by omega)).trans (h0 z), fun z => ?_⟩
  · show T (16 + j) = frz (vw ν) p x j
    rw [hT]
    unfold frz
    by_cases w : x = 1 ∧ ν 7 p = 0
    · have w2 : x = 1 ∧ vw ν 6 p = 0 := w
      rw [if_pos w, if_pos w2]
      show _ = cpF (ν 8) (ν 2) (p * 8) 8 j
      rcases cp_0 (κ 5) (fun i => κ 5 (8 + i)) (16 + 8 * p) 8 (16 + j) with ⟨c1, c2⟩ | ⟨c1, c2⟩
      · rcases cp_0 (ν 8) (ν 2) (p * 8) 8 j with ⟨d1, d2⟩ | ⟨d1, d2⟩
        · rw [c2, d2]
          show κ 5 (8 + (16 + j - (16 + 8 * p))) = ν 2 (j - p * 8)
          rw [show 8 + (16 + j - (16 + 8 * p)) = 8 + (j - p * 8) by omega]
          exact (t1 (j - p * 8) (by omega) (by omega)).2
        · omega
      · rcases cp_0 (ν 8) (ν 2) (p * 8) 8 j with ⟨d1, d2⟩ | ⟨d1, d2⟩
        · omega
        · rw [c2, d2]
          exact t2 j a b
    · have w2 : ¬ (x = 1 ∧ vw ν 6 p = 0) := w
      rw [if_neg w, if_neg w2]
      exact t2 j a b
  · obtain ⟨⟨g1, g2⟩, ⟨g3, g4⟩, g5⟩ := h1 z
    exact ⟨⟨g1, (hz 1 (by omega)).trans g2⟩, ⟨(hz 2 (by omega)).trans g3, (hz 3 (by omega)).trans g4⟩, g5⟩
theorem q9_s {f : Int → Int} (hf : ∀ j, 0 ≤ f j ∧ f j ≤ 1) {p : Int} (hp : 0 ≤ p ∧ p < 3) : orI (f 0 + 2 * f 1 + 4 * f 2) (shL 1 p) = iU f p 1 0 + 2 * iU f p 1 1 + 4 * iU f p 1 2 ∧ anI (f 0 + 2 * f 1 + 4 * f 2) (xoI (shL 1 p) (-1)) = iU f p 0 0 + 2 * iU f p 0 1 + 4 * iU f p 0 2 := by
  have b0 := hf 0
  have b1 := hf 1
  have b2 := hf 2
  have c0 : f 0 = 0 ∨ f 0 = 1 := by omega
  have c1 : f 1 = 0 ∨ f 1 = 1 := by omega
  have c2 : f 2 = 0 ∨ f 2 = 1 := by omega
  have cp : p = 0 ∨ p = 1 ∨ p = 2 := by omega
  unfold iU
  rcases c0 with e0 | e0 <;> rcases c1 with e1 | e1 <;> rcases c2 with e2 | e2 <;> rcases cp with ep | ep | ep <;> rw [e0, e1, e2, ep] <;> decide +kernel

set_option maxHeartbeats 4000000 in
set_option maxRecDepth 100000 in
theorem k_sets (l : Launch) (hfl : l.stackTraces = false) (D : va_G) (cI cZ cJ : ClassId) (a o : Nat → Nat) (μ ν κ : Nat → Int → Int) (hR : Rel μ ν) (hL : LR ν κ) (ac zz : Int) (hac : -2147483648 ≤ ac ∧ ac < 2147483648) : Le l D (tY cI cZ cJ) yL_sets wsL_sets rmL_sets [.ref (a 0), .int (iI ac), .int (iI zz), .ref (o 4), .ref (o 5), .ref (o 8)] (WLset cI o κ ++ WAll cI a μ) (fun (z : Int) (x : (Int → Int) × (Int → Int) × (Int → Int) × (Nat → Int → Int)) => z = 1 ∧ ∃ ν2, Rel x.2.2.2 ν2 ∧ LR ν2 (mset (mset (mset κ 4 x.1) 5 x.2.1) 8 x.2.2.1)) (fun x => WLset cI o (mset (mset (mset κ 4 x.1) 5 x.2.1) 8 x.2.2.1) ++ WAll cI a x.2.2.2) := by
  have h23 := hR.2.2.2.1.2.2.2.2
  have b22 := hR.2.2.2.1.2.1
  have e22 := hR.2.2.2.1.1
  have hcan := can_cs hR hL
  have hb7 : ∀ j, 0 ≤ ν 7 j ∧ ν 7 j ≤ 1 := (Rel_IP hR).2.2.2.2.1
  refine le_of (by decide +kernel) rfl (Nat.le_of_ble_eq_true rfl) (fun _ _ q => Or.inr q.1) ?_
  intro zp ze zs zm zargs zbelow zmeth zc A Q ls M hA w hl hT kret
  have hl : lv_has ls 11 [(0, .ref (a 0)), (1, .int (iI ac)), (2, .int (iI zz)), (3, .ref (o 4)), (4, .ref (o 5)), (5, .ref (o 8))] := hl
  refine q_al M dL_sets_0 (lv_at hl 5 rfl) ?_
  refine q_ic M dL_sets_2 ?_
  refine q_iald (f := κ 8) M w 2 0 rfl rfl (by omega) dL_sets_3 ?_
  have jn4 : ∀ (cv : Int) (H : Heap) (locs : List Loc) (ls : Array Slot), (cv = 1 ∧ κ 8 1 = 0 ∨ cv = 0 ∧ κ 8 1 ≠ 0) → wW D A zs.heap (WLset cI o κ ++ WAll cI a μ) H locs → lv_has ls 11 [(0, .ref (a 0)), (1, .int (iI ac)), (2, .int (iI zz)), (3, .ref (o 4)), (4, .ref (o 5)), (5, .ref (o 8))] → W zp l ze rmL_sets zs zm zargs zbelow zmeth zc H locs 0 0 Q (F0 zm 12 ls [.int (iI cv)]) := by
    intro cv H locs ls hcv w hl
    refine q_is (lv' := [(6, .int (iI cv)), (0, .ref (a 0)), (1, .int (iI ac)), (2, .int (iI zz)), (3, .ref (o 4)), (4, .ref (o 5)), (5, .ref (o 8))]) M dL_sets_12 hl (by decide) rfl (fun ls hl => ?_)
    refine q_iln M dL_sets_14 (lv_at hl 2 rfl) ?_
    refine q_if_ne (tgt := 94) M dL_sets_15 (by decide) (by omega) (fun c15 => ?_) (fun c15 => ?_)
    · refine q_iln M dL_sets_94 (lv_at hl 2 rfl) ?_
      refine q_ic M dL_sets_95 ?_
      refine q_icmp_ne (tgt := 235) M dL_sets_96 (by decide) (by omega) (fun c96 => ?_) (fun c96 => ?_)
      · refine q_iln M dL_sets_235 (lv_at hl 2 rfl) ?_
        refine q_ic M dL_sets_236 ?_
        refine q_icmp_ne (tgt := 302) M dL_sets_237 (by decide) (by omega) (fun c237 => ?_) (fun c237 => ?_)
        · refine q_iln M dL_sets_302 (lv_at hl 3 rfl) ?_
          refine q_ic M dL_sets_303 ?_
          refine qe_iS (As := [.int (iI zz), .int (iI 3)]) (rest := []) (wc := []) (G := fun x304 => WLset cI o κ ++ WAll cI a μ) M w hA hl (k_low l D cI cZ cJ zz 3 (by omega)) gL_sets_L_low rfl ⟨rfl, rfl, by decide, by decide⟩ ⟨by show 0 ≤ 5; omega, by show 0 ≤ 30; omega⟩ 2 (by decide +kernel) rfl [] rfl (fun _ => rfl) rfl (Nat.le_of_ble_eq_true rfl) (fun _ => rfl) dL_sets_304 (fun z304 x304 h304 H locs w => ?_)
          refine q_is (lv' := [(7, .int (iI z304)), (6, .int (iI cv)), (0, .ref (a 0)), (1, .int (iI ac)), (2, .int (iI zz)), (3, .ref (o 4)), (4, .ref (o 5)), (5, .ref (o 8))]) M dL_sets_307 hl (by decide) rfl (fun ls hl => ?_)
          refine q_al M dL_sets_309 (lv_at hl 7 rfl) ?_
          refine q_bp M dL_sets_311 (by decide +kernel) ?_
          refine q_iald (f := κ 8) M w 2 0 rfl rfl (by omega) dL_sets_313 ?_
          refine q_il M dL_sets_314 (lv_at hl 0 rfl) ?_
          refine q_shr M dL_sets_316 ?_
          refine q_ic M dL_sets_317 ?_
          refine q_and M dL_sets_318 ?_
          refine q_top (y := ν 7 z304) (by exact q9_b (Rel_IP hR) hL.2.1.2.2 (by omega)) ?_
          have b7 := hb7 z304
          refine q_ic M dL_sets_319 ?_
          have jn320 : ∀ (wv : Int) (H : Heap) (locs : List Loc) (ls : Array Slot), (wv = ν 7 z304) → wW D A zs.heap (WLset cI o κ ++ WAll cI a μ) H locs → lv_has ls 11 [(7, .int (iI z304)), (6, .int (iI cv)), (0, .ref (a 0)), (1, .int (iI ac)), (2, .int (iI zz)), (3, .ref (o 4)), (4, .ref (o 5)), (5, .ref (o 8))] → W zp l ze rmL_sets zs zm zargs zbelow zmeth zc H locs 0 0 Q (F0 zm 328 ls [.int (iI wv)]) := by
            intro wv H locs ls hwv w hl
            have b7 := hb7 z304
            refine q_is (lv' := [(8, .int (iI wv)), (7, .int (iI z304)), (6, .int (iI cv)), (0, .ref (a 0)), (1, .int (iI ac)), (2, .int (iI zz)), (3, .ref (o 4)), (4, .ref (o 5)), (5, .ref (o 8))]) M dL_sets_328 hl (by decide) rfl (fun ls hl => ?_)
            refine q_iln M dL_sets_330 (lv_at hl 5 rfl) ?_
            refine q_ic M dL_sets_331 ?_
            refine q_shr M dL_sets_332 ?_
            refine q_ic M dL_sets_333 ?_
            refine qe_iS (As := [.int (iI (shR zz 2)), .int (iI 3)]) (rest := []) (wc := []) (G := fun x334 => WLset cI o κ ++ WAll cI a μ) M w hA hl (k_low l D cI cZ cJ (shR zz 2) 3 (by omega)) gL_sets_L_low rfl ⟨rfl, rfl, by decide, by decide⟩ ⟨by show 0 ≤ 5; omega, by show 0 ≤ 30; omega⟩ 2 (by decide +kernel) rfl [] rfl (fun _ => rfl) rfl (Nat.le_of_ble_eq_true rfl) (fun _ => rfl) dL_sets_334 (fun z334 x334 h334 H locs w => ?_)
            have jn337 : ∀ (iv : Int) (H : Heap) (locs : List Loc) (ls : Array Slot), (iv = 0 ∨ iv = 1) → wW D A zs.heap (WLset cI o κ ++ WAll cI a μ) H locs → lv_has ls 11 [(8, .int (iI wv)), (7, .int (iI z304)), (6, .int (iI cv)), (0, .ref (a 0)), (1, .int (iI ac)), (2, .int (iI zz)), (3, .ref (o 4)), (4, .ref (o 5)), (5, .ref (o 8))] → W zp l ze rmL_sets zs zm zargs zbelow zmeth zc H locs 0 0 Q (F0 zm 345 ls [.int (iI iv)]) := by
              intro iv H locs ls hiv w hl
              refine q_is (lv' := [(9, .int (iI iv)), (8, .int (iI wv)), (7, .int (iI z304)), (6, .int (iI cv)), (0, .ref (a 0)), (1, .int (iI ac)), (2, .int (iI zz)), (3, .ref (o 4)), (4, .ref (o 5)), (5, .ref (o 8))]) M dL_sets_345 hl (by decide) rfl (fun ls hl => ?_)
              refine q_ic M dL_sets_347 ?_
              refine q_is (lv' := [(10, .int (iI 0)), (9, .int (iI iv)), (8, .int (iI wv)), (7, .int (iI z304)), (6, .int (iI cv)), (0, .ref (a 0)), (1, .int (iI ac)), (2, .int (iI zz)), (3, .ref (o 4)), (4, .ref (o 5)), (5, .ref (o 8))]) M dL_sets_348 hl (by decide) rfl (fun ls hl => ?_)
              have lp350 : ∀ (n350 : Nat) (k : Int), (0 ≤ k ∧ k ≤ 8) → (k = 0 ∨ iv = 1 ∧ wv = 0) → (8 - k : Int) < (n350 : Int) → ∀ (H : Heap) (locs : List Loc) (ls : Array Slot), wW D A zs.heap (WLset cI o (mset κ 5 (cpF (κ 5) (fun i => κ 5 (8 + i)) (16 + 8 * z304) k)) ++ WAll cI a μ) H locs → lv_has ls 11 [(9, .int (iI iv)), (8, .int (iI wv)), (7, .int (iI z304)), (6, .int (iI cv)), (0, .ref (a 0)), (1, .int (iI ac)), (2, .int (iI zz)), (3, .ref (o 4)), (4, .ref (o 5)), (5, .ref (o 8)), (10, .int (iI k))] → W zp l ze rmL_sets zs zm zargs zbelow zmeth zc H locs 0 0 Q (F0 zm 350 ls []) := by
                intro n350
                induction n350 with
                | zero => intro k hk hkz hm H locs ls w hl; exfalso; omega
                | succ n350 ih350 =>
                  intro k hk hkz hm350 H locs ls w hl
                  refine q_il M dL_sets_350 (lv_at hl 10 rfl) ?_
                  refine q_bp M dL_sets_352 (by decide +kernel) ?_
                  refine q_icmp_ge (tgt := 395) M dL_sets_354 (by decide) (by omega) (fun c354 => ?_) (fun c354 => ?_)
                  · have eg : cpF (κ 5) (fun i => κ 5 (8 + i)) (16 + 8 * z304) k = if iv = 1 ∧ ν 7 z304 = 0 then cpF (κ 5) (fun i => κ 5 (8 + i)) (16 + 8 * z304) 8 else κ 5 := by
                      rw [if_pos (by omega), show k = 8 by omega]
                    refine q_al M dL_sets_395 (lv_at hl 9 rfl) ?_
                    refine q_bp M dL_sets_397 (by decide +kernel) ?_
                    refine q_il M dL_sets_399 (lv_at hl 0 rfl) ?_
                    refine q_if_eq (tgt := 417) M dL_sets_401 (by decide) (by omega) (fun c401 => ?_) (fun c401 => ?_)
                    · refine q_al M dL_sets_417 (lv_at hl 9 rfl) ?_
                      refine q_bp M dL_sets_419 (by decide +kernel) ?_
                      refine q_iald (f := κ 8) M w 2 0 rfl rfl (by omega) dL_sets_421 ?_
                      refine q_ic M dL_sets_422 ?_
                      refine q_il M dL_sets_423 (lv_at hl 2 rfl) ?_
                      refine q_shl M dL_sets_425 ?_
                      refine q_ic M dL_sets_426 ?_
                      refine q_xor M dL_sets_427 ?_
                      refine q_and M dL_sets_428 ?_
                      refine q_top (y := iU (ν 7) z304 iv 0 + 2 * iU (ν 7) z304 iv 1 + 4 * iU (ν 7) z304 iv 2) (by rw [hL.2.1.2.2, (q9_s hb7 (p := z304) (by omega)).2, show iv = 0 by omega]) ?_
                      refine q_iast (f := κ 8) (ws2 := WLset cI o (mset (mset κ 5 (cpF (κ 5) (fun i => κ 5 (8 + i)) (16 + 8 * z304) k)) 8 (iU (κ 8) 9 (iU (ν 7) z304 iv 0 + 2 * iU (ν 7) z304 iv 1 + 4 * iU (ν 7) z304 iv 2))) ++ WAll cI a μ) M w 2 0 rfl rfl (by omega) rfl dL_sets_429 (fun H locs w => ?_)
                      refine q_aln M dL_sets_430 (lv_at hl 4 rfl) ?_
                      refine q_il M dL_sets_431 (lv_at hl 2 rfl) ?_
                      refine q_il M dL_sets_433 (lv_at hl 0 rfl) ?_
                      refine qx_iV (As := [.int (iI z304), .int (iI iv)]) (rest := []) (wc := WAll cI a μ) (wc2 := WAll cI a (mset (mset μ 6 (iU (μ 6) z304 iv)) 7 (frz μ z304 iv))) (ws2 := WLset cI o (mset (mset κ 5 (cpF (κ 5) (fun i => κ 5 (8 + i)) (16 + 8 * z304) k)) 8 (iU (κ 8) 9 (iU (ν 7) z304 iv 0 + 2 * iU (ν 7) z304 iv 1 + 4 * iU (ν 7) z304 iv 2))) ++ WAll cI a (mset (mset μ 6 (iU (μ 6) z304 iv)) 7 (frz μ z304 iv))) M w hA hT hl (k_freeze l hfl D cI cZ cJ a μ z304 iv (by omega) (by omega) hR.2.1.1 (by omega)) gL_sets_X6_freeze rfl ⟨by decide, by decide⟩ ⟨by show 0 + 1 ≤ 5; omega, by show 0 + 6 ≤ 30; omega⟩ 2 ⟨rfl, by decide +kernel⟩ rfl [false, false, false, true, true, true, true, true, true, true, true, true, true, true, true, true, true, true, true, true, true, true, true, true, true, true, true, true, true, true, true, true, true, true, true, true, true, true, true, true, true, true, true, true, true, true, true, true, true, true, true, true, true] rfl rfl 3 rfl rfl rfl (Nat.le_of_ble_eq_true rfl) rfl dL_sets_435 (fun E ce q9 H1 locs1 hE w h1 h2 h3 => ?_) (fun H locs hE w => ?_)
                      · exfalso; rw [chk_t (show 0 ≤ z304 ∧ z304 ≤ 11 from by omega)] at hE; cases (show (none : Option String) = some E from hE)
                      refine q_il M dL_sets_438 (lv_at hl 1 rfl) ?_
                      refine q_icmp_neE (tgt := 447) (x := μ 6 z304) (y := wv) M (by have q1 := congrFun hR.1.2.1 z304; omega) dL_sets_440 (by decide) ?_
                      refine q_ic M dL_sets_443 ?_
                      refine q_go (tgt := 448) M dL_sets_444 (by decide) ?_
                      have hP9 : (1 : Int) = 1 ∧ ∃ ν2, Rel (mset (mset μ 6 (iU (μ 6) z304 iv)) 7 (frz μ z304 iv)) ν2 ∧ LR ν2 (mset (mset (mset κ 4 (κ 4)) 5 (cpF (κ 5) (fun i => κ 5 (8 + i)) (16 + 8 * z304) k)) 8 (iU (κ 8) 9 (iU (ν 7) z304 iv 0 + 2 * iU (ν 7) z304 iv 1 + 4 * iU (ν 7) z304 iv 2))) := ⟨rfl, _, Rel_freeze hR (by omega), LR_fz hL (by omega) (fun j => rfl) eg rfl rfl _⟩
                      exact kret _ _ _ _ _ (κ 4, cpF (κ 5) (fun i => κ 5 (8 + i)) (16 + 8 * z304) k, iU (κ 8) 9 (iU (ν 7) z304 iv 0 + 2 * iU (ν 7) z304 iv 1 + 4 * iU (ν 7) z304 iv 2), (mset (mset μ 6 (iU (μ 6) z304 iv)) 7 (frz μ z304 iv))) _ _ (by decide) (by decide) dL_sets_448 w (hP9)
                    · refine q_al M dL_sets_404 (lv_at hl 9 rfl) ?_
                      refine q_bp M dL_sets_406 (by decide +kernel) ?_
                      refine q_iald (f := κ 8) M w 2 0 rfl rfl (by omega) dL_sets_408 ?_
                      refine q_ic M dL_sets_409 ?_
                      refine q_il M dL_sets_410 (lv_at hl 2 rfl) ?_
                      refine q_shl M dL_sets_412 ?_
                      refine q_or M dL_sets_413 ?_
                      refine q_top (y := iU (ν 7) z304 iv 0 + 2 * iU (ν 7) z304 iv 1 + 4 * iU (ν 7) z304 iv 2) (by rw [hL.2.1.2.2, (q9_s hb7 (p := z304) (by omega)).1, show iv = 1 by omega]) ?_
                      refine q_go (tgt := 429) M dL_sets_414 (by decide) ?_
                      refine q_iast (f := κ 8) (ws2 := WLset cI o (mset (mset κ 5 (cpF (κ 5) (fun i => κ 5 (8 + i)) (16 + 8 * z304) k)) 8 (iU (κ 8) 9 (iU (ν 7) z304 iv 0 + 2 * iU (ν 7) z304 iv 1 + 4 * iU (ν 7) z304 iv 2))) ++ WAll cI a μ) M w 2 0 rfl rfl (by omega) rfl dL_sets_429 (fun H locs w => ?_)
                      refine q_aln M dL_sets_430 (lv_at hl 4 rfl) ?_
                      refine q_il M dL_sets_431 (lv_at hl 2 rfl) ?_
                      refine q_il M dL_sets_433 (lv_at hl 0 rfl) ?_
                      refine qx_iV (As := [.int (iI z304), .int (iI iv)]) (rest := []) (wc := WAll cI a μ) (wc2 := WAll cI a (mset (mset μ 6 (iU (μ 6) z304 iv)) 7 (frz μ z304 iv))) (ws2 := WLset cI o (mset (mset κ 5 (cpF (κ 5) (fun i => κ 5 (8 + i)) (16 + 8 * z304) k)) 8 (iU (κ 8) 9 (iU (ν 7) z304 iv 0 + 2 * iU (ν 7) z304 iv 1 + 4 * iU (ν 7) z304 iv 2))) ++ WAll cI a (mset (mset μ 6 (iU (μ 6) z304 iv)) 7 (frz μ z304 iv))) M w hA hT hl (k_freeze l hfl D cI cZ cJ a μ z304 iv (by omega) (by omega) hR.2.1.1 (by omega)) gL_sets_X6_freeze rfl ⟨by decide, by decide⟩ ⟨by show 0 + 1 ≤ 5; omega, by show 0 + 6 ≤ 30; omega⟩ 2 ⟨rfl, by decide +kernel⟩ rfl [false, false, false, true, true, true, true, true, true, true, true, true, true, true, true, true, true, true, true, true, true, true, true, true, true, true, true, true, true, true, true, true, true, true, true, true, true, true, true, true, true, true, true, true, true, true, true, true, true, true, true, true, true] rfl rfl 3 rfl rfl rfl (Nat.le_of_ble_eq_true rfl) rfl dL_sets_435 (fun E ce q9 H1 locs1 hE w h1 h2 h3 => ?_) (fun H locs hE w => ?_)
                      · exfalso; rw [chk_t (show 0 ≤ z304 ∧ z304 ≤ 11 from by omega)] at hE; cases (show (none : Option String) = some E from hE)
                      refine q_il M dL_sets_438 (lv_at hl 1 rfl) ?_
                      refine q_icmp_neE (tgt := 447) (x := μ 6 z304) (y := wv) M (by have q1 := congrFun hR.1.2.1 z304; omega) dL_sets_440 (by decide) ?_
                      refine q_ic M dL_sets_443 ?_
                      refine q_go (tgt := 448) M dL_sets_444 (by decide) ?_
                      have hP9 : (1 : Int) = 1 ∧ ∃ ν2, Rel (mset (mset μ 6 (iU (μ 6) z304 iv)) 7 (frz μ z304 iv)) ν2 ∧ LR ν2 (mset (mset (mset κ 4 (κ 4)) 5 (cpF (κ 5) (fun i => κ 5 (8 + i)) (16 + 8 * z304) k)) 8 (iU (κ 8) 9 (iU (ν 7) z304 iv 0 + 2 * iU (ν 7) z304 iv 1 + 4 * iU (ν 7) z304 iv 2))) := ⟨rfl, _, Rel_freeze hR (by omega), LR_fz hL (by omega) (fun j => rfl) eg rfl rfl _⟩
                      exact kret _ _ _ _ _ (κ 4, cpF (κ 5) (fun i => κ 5 (8 + i)) (16 + 8 * z304) k, iU (κ 8) 9 (iU (ν 7) z304 iv 0 + 2 * iU (ν 7) z304 iv 1 + 4 * iU (ν 7) z304 iv 2), (mset (mset μ 6 (iU (μ 6) z304 iv)) 7 (frz μ z304 iv))) _ _ (by decide) (by decide) dL_sets_448 w (hP9)
                  · refine q_il M dL_sets_357 (lv_at hl 0 rfl) ?_
                    refine q_if_eq (tgt := 395) M dL_sets_359 (by decide) (by omega) (fun c359 => ?_) (fun c359 => ?_)
                    · have eg : cpF (κ 5) (fun i => κ 5 (8 + i)) (16 + 8 * z304) k = if iv = 1 ∧ ν 7 z304 = 0 then cpF (κ 5) (fun i => κ 5 (8 + i)) (16 + 8 * z304) 8 else κ 5 := by
                        rw [if_neg (by omega), show k = 0 by omega, cpF_0]
                      refine q_al M dL_sets_395 (lv_at hl 9 rfl) ?_
                      refine q_bp M dL_sets_397 (by decide +kernel) ?_
                      refine q_il M dL_sets_399 (lv_at hl 0 rfl) ?_
                      refine q_if_eq (tgt := 417) M dL_sets_401 (by decide) (by omega) (fun c401 => ?_) (fun c401 => ?_)
                      · refine q_al M dL_sets_417 (lv_at hl 9 rfl) ?_
                        refine q_bp M dL_sets_419 (by decide +kernel) ?_
                        refine q_iald (f := κ 8) M w 2 0 rfl rfl (by omega) dL_sets_421 ?_
                        refine q_ic M dL_sets_422 ?_
                        refine q_il M dL_sets_423 (lv_at hl 2 rfl) ?_
                        refine q_shl M dL_sets_425 ?_
                        refine q_ic M dL_sets_426 ?_
                        refine q_xor M dL_sets_427 ?_
                        refine q_and M dL_sets_428 ?_
                        refine q_top (y := iU (ν 7) z304 iv 0 + 2 * iU (ν 7) z304 iv 1 + 4 * iU (ν 7) z304 iv 2) (by rw [hL.2.1.2.2, (q9_s hb7 (p := z304) (by omega)).2, show iv = 0 by omega]) ?_
                        refine q_iast (f := κ 8) (ws2 := WLset cI o (mset (mset κ 5 (cpF (κ 5) (fun i => κ 5 (8 + i)) (16 + 8 * z304) k)) 8 (iU (κ 8) 9 (iU (ν 7) z304 iv 0 + 2 * iU (ν 7) z304 iv 1 + 4 * iU (ν 7) z304 iv 2))) ++ WAll cI a μ) M w 2 0 rfl rfl (by omega) rfl dL_sets_429 (fun H locs w => ?_)
                        refine q_aln M dL_sets_430 (lv_at hl 4 rfl) ?_
                        refine q_il M dL_sets_431 (lv_at hl 2 rfl) ?_
                        refine q_il M dL_sets_433 (lv_at hl 0 rfl) ?_
                        refine qx_iV (As := [.int (iI z304), .int (iI iv)]) (rest := []) (wc := WAll cI a μ) (wc2 := WAll cI a (mset (mset μ 6 (iU (μ 6) z304 iv)) 7 (frz μ z304 iv))) (ws2 := WLset cI o (mset (mset κ 5 (cpF (κ 5) (fun i => κ 5 (8 + i)) (16 + 8 * z304) k)) 8 (iU (κ 8) 9 (iU (ν 7) z304 iv 0 + 2 * iU (ν 7) z304 iv 1 + 4 * iU (ν 7) z304 iv 2))) ++ WAll cI a (mset (mset μ 6 (iU (μ 6) z304 iv)) 7 (frz μ z304 iv))) M w hA hT hl (k_freeze l hfl D cI cZ cJ a μ z304 iv (by omega) (by omega) hR.2.1.1 (by omega)) gL_sets_X6_freeze rfl ⟨by decide, by decide⟩ ⟨by show 0 + 1 ≤ 5; omega, by show 0 + 6 ≤ 30; omega⟩ 2 ⟨rfl, by decide +kernel⟩ rfl [false, false, false, true, true, true, true, true, true, true, true, true, true, true, true, true, true, true, true, true, true, true, true, true, true, true, true, true, true, true, true, true, true, true, true, true, true, true, true, true, true, true, true, true, true, true, true, true, true, true, true, true, true] rfl rfl 3 rfl rfl rfl (Nat.le_of_ble_eq_true rfl) rfl dL_sets_435 (fun E ce q9 H1 locs1 hE w h1 h2 h3 => ?_) (fun H locs hE w => ?_)
                        · exfalso; rw [chk_t (show 0 ≤ z304 ∧ z304 ≤ 11 from by omega)] at hE; cases (show (none : Option String) = some E from hE)
                        refine q_il M dL_sets_438 (lv_at hl 1 rfl) ?_
                        refine q_icmp_neE (tgt := 447) (x := μ 6 z304) (y := wv) M (by have q1 := congrFun hR.1.2.1 z304; omega) dL_sets_440 (by decide) ?_
                        refine q_ic M dL_sets_443 ?_
                        refine q_go (tgt := 448) M dL_sets_444 (by decide) ?_
                        have hP9 : (1 : Int) = 1 ∧ ∃ ν2, Rel (mset (mset μ 6 (iU (μ 6) z304 iv)) 7 (frz μ z304 iv)) ν2 ∧ LR ν2 (mset (mset (mset κ 4 (κ 4)) 5 (cpF (κ 5) (fun i => κ 5 (8 + i)) (16 + 8 * z304) k)) 8 (iU (κ 8) 9 (iU (ν 7) z304 iv 0 + 2 * iU (ν 7) z304 iv 1 + 4 * iU (ν 7) z304 iv 2))) := ⟨rfl, _, Rel_freeze hR (by omega), LR_fz hL (by omega) (fun j => rfl) eg rfl rfl _⟩
                        exact kret _ _ _ _ _ (κ 4, cpF (κ 5) (fun i => κ 5 (8 + i)) (16 + 8 * z304) k, iU (κ 8) 9 (iU (ν 7) z304 iv 0 + 2 * iU (ν 7) z304 iv 1 + 4 * iU (ν 7) z304 iv 2), (mset (mset μ 6 (iU (μ 6) z304 iv)) 7 (frz μ z304 iv))) _ _ (by decide) (by decide) dL_sets_448 w (hP9)
                      · refine q_al M dL_sets_404 (lv_at hl 9 rfl) ?_
                        refine q_bp M dL_sets_406 (by decide +kernel) ?_
                        refine q_iald (f := κ 8) M w 2 0 rfl rfl (by omega) dL_sets_408 ?_
                        refine q_ic M dL_sets_409 ?_
                        refine q_il M dL_sets_410 (lv_at hl 2 rfl) ?_
                        refine q_shl M dL_sets_412 ?_
                        refine q_or M dL_sets_413 ?_
                        refine q_top (y := iU (ν 7) z304 iv 0 + 2 * iU (ν 7) z304 iv 1 + 4 * iU (ν 7) z304 iv 2) (by rw [hL.2.1.2.2, (q9_s hb7 (p := z304) (by omega)).1, show iv = 1 by omega]) ?_
                        refine q_go (tgt := 429) M dL_sets_414 (by decide) ?_
                        refine q_iast (f := κ 8) (ws2 := WLset cI o (mset (mset κ 5 (cpF (κ 5) (fun i => κ 5 (8 + i)) (16 + 8 * z304) k)) 8 (iU (κ 8) 9 (iU (ν 7) z304 iv 0 + 2 * iU (ν 7) z304 iv 1 + 4 * iU (ν 7) z304 iv 2))) ++ WAll cI a μ) M w 2 0 rfl rfl (by omega) rfl dL_sets_429 (fun H locs w => ?_)
                        refine q_aln M dL_sets_430 (lv_at hl 4 rfl) ?_
                        refine q_il M dL_sets_431 (lv_at hl 2 rfl) ?_
                        refine q_il M dL_sets_433 (lv_at hl 0 rfl) ?_
                        refine qx_iV (As := [.int (iI z304), .int (iI iv)]) (rest := []) (wc := WAll cI a μ) (wc2 := WAll cI a (mset (mset μ 6 (iU (μ 6) z304 iv)) 7 (frz μ z304 iv))) (ws2 := WLset cI o (mset (mset κ 5 (cpF (κ 5) (fun i => κ 5 (8 + i)) (16 + 8 * z304) k)) 8 (iU (κ 8) 9 (iU (ν 7) z304 iv 0 + 2 * iU (ν 7) z304 iv 1 + 4 * iU (ν 7) z304 iv 2))) ++ WAll cI a (mset (mset μ 6 (iU (μ 6) z304 iv)) 7 (frz μ z304 iv))) M w hA hT hl (k_freeze l hfl D cI cZ cJ a μ z304 iv (by omega) (by omega) hR.2.1.1 (by omega)) gL_sets_X6_freeze rfl ⟨by decide, by decide⟩ ⟨by show 0 + 1 ≤ 5; omega, by show 0 + 6 ≤ 30; omega⟩ 2 ⟨rfl, by decide +kernel⟩ rfl [false, false, false, true, true, true, true, true, true, true, true, true, true, true, true, true, true, true, true, true, true, true, true, true, true, true, true, true, true, true, true, true, true, true, true, true, true, true, true, true, true, true, true, true, true, true, true, true, true, true, true, true, true] rfl rfl 3 rfl rfl rfl (Nat.le_of_ble_eq_true rfl) rfl dL_sets_435 (fun E ce q9 H1 locs1 hE w h1 h2 h3 => ?_) (fun H locs hE w => ?_)
                        · exfalso; rw [chk_t (show 0 ≤ z304 ∧ z304 ≤ 11 from by omega)] at hE; cases (show (none : Option String) = some E from hE)
                        refine q_il M dL_sets_438 (lv_at hl 1 rfl) ?_
                        refine q_icmp_neE (tgt := 447) (x := μ 6 z304) (y := wv) M (by have q1 := congrFun hR.1.2.1 z304; omega) dL_sets_440 (by decide) ?_
                        refine q_ic M dL_sets_443 ?_
                        refine q_go (tgt := 448) M dL_sets_444 (by decide) ?_
                        have hP9 : (1 : Int) = 1 ∧ ∃ ν2, Rel (mset (mset μ 6 (iU (μ 6) z304 iv)) 7 (frz μ z304 iv)) ν2 ∧ LR ν2 (mset (mset (mset κ 4 (κ 4)) 5 (cpF (κ 5) (fun i => κ 5 (8 + i)) (16 + 8 * z304) k)) 8 (iU (κ 8) 9 (iU (ν 7) z304 iv 0 + 2 * iU (ν 7) z304 iv 1 + 4 * iU (ν 7) z304 iv 2))) := ⟨rfl, _, Rel_freeze hR (by omega), LR_fz hL (by omega) (fun j => rfl) eg rfl rfl _⟩
                        exact kret _ _ _ _ _ (κ 4, cpF (κ 5) (fun i => κ 5 (8 + i)) (16 + 8 * z304) k, iU (κ 8) 9 (iU (ν 7) z304 iv 0 + 2 * iU (ν 7) z304 iv 1 + 4 * iU (ν 7) z304 iv 2), (mset (mset μ 6 (iU (μ 6) z304 iv)) 7 (frz μ z304 iv))) _ _ (by decide) (by decide) dL_sets_448 w (hP9)
                    · refine q_il M dL_sets_362 (lv_at hl 1 rfl) ?_
                      refine q_if_ne (tgt := 395) M dL_sets_364 (by decide) (by omega) (fun c364 => ?_) (fun c364 => ?_)
                      · have eg : cpF (κ 5) (fun i => κ 5 (8 + i)) (16 + 8 * z304) k = if iv = 1 ∧ ν 7 z304 = 0 then cpF (κ 5) (fun i => κ 5 (8 + i)) (16 + 8 * z304) 8 else κ 5 := by
                          rw [if_neg (by omega), show k = 0 by omega, cpF_0]
                        refine q_al M dL_sets_395 (lv_at hl 9 rfl) ?_
                        refine q_bp M dL_sets_397 (by decide +kernel) ?_
                        refine q_il M dL_sets_399 (lv_at hl 0 rfl) ?_
                        refine q_if_eq (tgt := 417) M dL_sets_401 (by decide) (by omega) (fun c401 => ?_) (fun c401 => ?_)
                        · refine q_al M dL_sets_417 (lv_at hl 9 rfl) ?_
                          refine q_bp M dL_sets_419 (by decide +kernel) ?_
                          refine q_iald (f := κ 8) M w 2 0 rfl rfl (by omega) dL_sets_421 ?_
                          refine q_ic M dL_sets_422 ?_
                          refine q_il M dL_sets_423 (lv_at hl 2 rfl) ?_
                          refine q_shl M dL_sets_425 ?_
                          refine q_ic M dL_sets_426 ?_
                          refine q_xor M dL_sets_427 ?_
                          refine q_and M dL_sets_428 ?_
                          refine q_top (y := iU (ν 7) z304 iv 0 + 2 * iU (ν 7) z304 iv 1 + 4 * iU (ν 7) z304 iv 2) (by rw [hL.2.1.2.2, (q9_s hb7 (p := z304) (by omega)).2, show iv = 0 by omega]) ?_
                          refine q_iast (f := κ 8) (ws2 := WLset cI o (mset (mset κ 5 (cpF (κ 5) (fun i => κ 5 (8 + i)) (16 + 8 * z304) k)) 8 (iU (κ 8) 9 (iU (ν 7) z304 iv 0 + 2 * iU (ν 7) z304 iv 1 + 4 * iU (ν 7) z304 iv 2))) ++ WAll cI a μ) M w 2 0 rfl rfl (by omega) rfl dL_sets_429 (fun H locs w => ?_)
                          refine q_aln M dL_sets_430 (lv_at hl 4 rfl) ?_
                          refine q_il M dL_sets_431 (lv_at hl 2 rfl) ?_
                          refine q_il M dL_sets_433 (lv_at hl 0 rfl) ?_
                          refine qx_iV (As := [.int (iI z304), .int (iI iv)]) (rest := []) (wc := WAll cI a μ) (wc2 := WAll cI a (mset (mset μ 6 (iU (μ 6) z304 iv)) 7 (frz μ z304 iv))) (ws2 := WLset cI o (mset (mset κ 5 (cpF (κ 5) (fun i => κ 5 (8 + i)) (16 + 8 * z304) k)) 8 (iU (κ 8) 9 (iU (ν 7) z304 iv 0 + 2 * iU (ν 7) z304 iv 1 + 4 * iU (ν 7) z304 iv 2))) ++ WAll cI a (mset (mset μ 6 (iU (μ 6) z304 iv)) 7 (frz μ z304 iv))) M w hA hT hl (k_freeze l hfl D cI cZ cJ a μ z304 iv (by omega) (by omega) hR.2.1.1 (by omega)) gL_sets_X6_freeze rfl ⟨by decide, by decide⟩ ⟨by show 0 + 1 ≤ 5; omega, by show 0 + 6 ≤ 30; omega⟩ 2 ⟨rfl, by decide +kernel⟩ rfl [false, false, false, true, true, true, true, true, true, true, true, true, true, true, true, true, true, true, true, true, true, true, true, true, true, true, true, true, true, true, true, true, true, true, true, true, true, true, true, true, true, true, true, true, true, true, true, true, true, true, true, true, true] rfl rfl 3 rfl rfl rfl (Nat.le_of_ble_eq_true rfl) rfl dL_sets_435 (fun E ce q9 H1 locs1 hE w h1 h2 h3 => ?_) (fun H locs hE w => ?_)
                          · exfalso; rw [chk_t (show 0 ≤ z304 ∧ z304 ≤ 11 from by omega)] at hE; cases (show (none : Option String) = some E from hE)
                          refine q_il M dL_sets_438 (lv_at hl 1 rfl) ?_
                          refine q_icmp_neE (tgt := 447) (x := μ 6 z304) (y := wv) M (by have q1 := congrFun hR.1.2.1 z304; omega) dL_sets_440 (by decide) ?_
                          refine q_ic M dL_sets_443 ?_
                          refine q_go (tgt := 448) M dL_sets_444 (by decide) ?_
                          have hP9 : (1 : Int) = 1 ∧ ∃ ν2, Rel (mset (mset μ 6 (iU (μ 6) z304 iv)) 7 (frz μ z304 iv)) ν2 ∧ LR ν2 (mset (mset (mset κ 4 (κ 4)) 5 (cpF (κ 5) (fun i => κ 5 (8 + i)) (16 + 8 * z304) k)) 8 (iU (κ 8) 9 (iU (ν 7) z304 iv 0 + 2 * iU (ν 7) z304 iv 1 + 4 * iU (ν 7) z304 iv 2))) := ⟨rfl, _, Rel_freeze hR (by omega), LR_fz hL (by omega) (fun j => rfl) eg rfl rfl _⟩
                          exact kret _ _ _ _ _ (κ 4, cpF (κ 5) (fun i => κ 5 (8 + i)) (16 + 8 * z304) k, iU (κ 8) 9 (iU (ν 7) z304 iv 0 + 2 * iU (ν 7) z304 iv 1 + 4 * iU (ν 7) z304 iv 2), (mset (mset μ 6 (iU (μ 6) z304 iv)) 7 (frz μ z304 iv))) _ _ (by decide) (by decide) dL_sets_448 w (hP9)
                        · refine q_al M dL_sets_404 (lv_at hl 9 rfl) ?_
                          refine q_bp M dL_sets_406 (by decide +kernel) ?_
                          refine q_iald (f := κ 8) M w 2 0 rfl rfl (by omega) dL_sets_408 ?_
                          refine q_ic M dL_sets_409 ?_
                          refine q_il M dL_sets_410 (lv_at hl 2 rfl) ?_
                          refine q_shl M dL_sets_412 ?_
                          refine q_or M dL_sets_413 ?_
                          refine q_top (y := iU (ν 7) z304 iv 0 + 2 * iU (ν 7) z304 iv 1 + 4 * iU (ν 7) z304 iv 2) (by rw [hL.2.1.2.2, (q9_s hb7 (p := z304) (by omega)).1, show iv = 1 by omega]) ?_
                          refine q_go (tgt := 429) M dL_sets_414 (by decide) ?_
                          refine q_iast (f := κ 8) (ws2 := WLset cI o (mset (mset κ 5 (cpF (κ 5) (fun i => κ 5 (8 + i)) (16 + 8 * z304) k)) 8 (iU (κ 8) 9 (iU (ν 7) z304 iv 0 + 2 * iU (ν 7) z304 iv 1 + 4 * iU (ν 7) z304 iv 2))) ++ WAll cI a μ) M w 2 0 rfl rfl (by omega) rfl dL_sets_429 (fun H locs w => ?_)
                          refine q_aln M dL_sets_430 (lv_at hl 4 rfl) ?_
                          refine q_il M dL_sets_431 (lv_at hl 2 rfl) ?_
                          refine q_il M dL_sets_433 (lv_at hl 0 rfl) ?_
                          refine qx_iV (As := [.int (iI z304), .int (iI iv)]) (rest := []) (wc := WAll cI a μ) (wc2 := WAll cI a (mset (mset μ 6 (iU (μ 6) z304 iv)) 7 (frz μ z304 iv))) (ws2 := WLset cI o (mset (mset κ 5 (cpF (κ 5) (fun i => κ 5 (8 + i)) (16 + 8 * z304) k)) 8 (iU (κ 8) 9 (iU (ν 7) z304 iv 0 + 2 * iU (ν 7) z304 iv 1 + 4 * iU (ν 7) z304 iv 2))) ++ WAll cI a (mset (mset μ 6 (iU (μ 6) z304 iv)) 7 (frz μ z304 iv))) M w hA hT hl (k_freeze l hfl D cI cZ cJ a μ z304 iv (by omega) (by omega) hR.2.1.1 (by omega)) gL_sets_X6_freeze rfl ⟨by decide, by decide⟩ ⟨by show 0 + 1 ≤ 5; omega, by show 0 + 6 ≤ 30; omega⟩ 2 ⟨rfl, by decide +kernel⟩ rfl [false, false, false, true, true, true, true, true, true, true, true, true, true, true, true, true, true, true, true, true, true, true, true, true, true, true, true, true, true, true, true, true, true, true, true, true, true, true, true, true, true, true, true, true, true, true, true, true, true, true, true, true, true] rfl rfl 3 rfl rfl rfl (Nat.le_of_ble_eq_true rfl) rfl dL_sets_435 (fun E ce q9 H1 locs1 hE w h1 h2 h3 => ?_) (fun H locs hE w => ?_)
                          · exfalso; rw [chk_t (show 0 ≤ z304 ∧ z304 ≤ 11 from by omega)] at hE; cases (show (none : Option String) = some E from hE)
                          refine q_il M dL_sets_438 (lv_at hl 1 rfl) ?_
                          refine q_icmp_neE (tgt := 447) (x := μ 6 z304) (y := wv) M (by have q1 := congrFun hR.1.2.1 z304; omega) dL_sets_440 (by decide) ?_
                          refine q_ic M dL_sets_443 ?_
                          refine q_go (tgt := 448) M dL_sets_444 (by decide) ?_
                          have hP9 : (1 : Int) = 1 ∧ ∃ ν2, Rel (mset (mset μ 6 (iU (μ 6) z304 iv)) 7 (frz μ z304 iv)) ν2 ∧ LR ν2 (mset (mset (mset κ 4 (κ 4)) 5 (cpF (κ 5) (fun i => κ 5 (8 + i)) (16 + 8 * z304) k)) 8 (iU (κ 8) 9 (iU (ν 7) z304 iv 0 + 2 * iU (ν 7) z304 iv 1 + 4 * iU (ν 7) z304 iv 2))) := ⟨rfl, _, Rel_freeze hR (by omega), LR_fz hL (by omega) (fun j => rfl) eg rfl rfl _⟩
                          exact kret _ _ _ _ _ (κ 4, cpF (κ 5) (fun i => κ 5 (8 + i)) (16 + 8 * z304) k, iU (κ 8) 9 (iU (ν 7) z304 iv 0 + 2 * iU (ν 7) z304 iv 1 + 4 * iU (ν 7) z304 iv 2), (mset (mset μ 6 (iU (μ 6) z304 iv)) 7 (frz μ z304 iv))) _ _ (by decide) (by decide) dL_sets_448 w (hP9)
                      · refine q_al M dL_sets_367 (lv_at hl 8 rfl) ?_
                        refine q_bp M dL_sets_369 (by decide +kernel) ?_
                        refine q_bp M dL_sets_371 (by decide +kernel) ?_
                        refine q_il M dL_sets_373 (lv_at hl 2 rfl) ?_
                        refine q_mul M dL_sets_375 ?_
                        refine q_add M dL_sets_376 ?_
                        refine q_il M dL_sets_377 (lv_at hl 10 rfl) ?_
                        refine q_add M dL_sets_379 ?_
                        refine q_al M dL_sets_380 (lv_at hl 8 rfl) ?_
                        refine q_bp M dL_sets_382 (by decide +kernel) ?_
                        refine q_il M dL_sets_384 (lv_at hl 10 rfl) ?_
                        refine q_add M dL_sets_386 ?_
                        refine q_iald (f := cpF (κ 5) (fun i => κ 5 (8 + i)) (16 + 8 * z304) k) M w 1 0 rfl rfl (by omega) dL_sets_387 ?_
                        refine q_top (y := κ 5 (8 + k)) (by exact if_neg (by omega)) ?_
                        refine q_iast (f := cpF (κ 5) (fun i => κ 5 (8 + i)) (16 + 8 * z304) k) (ws2 := WLset cI o (mset κ 5 (iU (cpF (κ 5) (fun i => κ 5 (8 + i)) (16 + 8 * z304) k) ((16 + (8 * z304)) + k) (κ 5 (8 + k)))) ++ WAll cI a μ) M w 1 0 rfl rfl (by omega) rfl dL_sets_388 (fun H locs w => ?_)
                        refine q_inc (z := k) (lv' := [(10, .int (iI (k + 1))), (9, .int (iI iv)), (8, .int (iI wv)), (7, .int (iI z304)), (6, .int (iI cv)), (0, .ref (a 0)), (1, .int (iI ac)), (2, .int (iI zz)), (3, .ref (o 4)), (4, .ref (o 5)), (5, .ref (o 8))]) M dL_sets_389 hl (k := 10) rfl (by decide) rfl (fun ls hl => ?_)
                        refine q_go (tgt := 350) M dL_sets_392 (by decide) ?_
                        have e9 := cpF_s (κ 5) (fun i => κ 5 (8 + i)) (16 + 8 * z304) hk.1
                        have w := (by rw [e9] at w; exact w : wW D A zs.heap (WLset cI o (mset κ 5 (cpF (κ 5) (fun i => κ 5 (8 + i)) (16 + 8 * z304) (k + 1))) ++ WAll cI a μ) H locs)
                        exact ih350 (k + 1) (by omega) (by omega) (by omega) _ _ _ w (lv_sub hl [1, 2, 3, 4, 5, 6, 7, 8, 9, 10, 0] rfl)
              have w : wW D A zs.heap (WLset cI o (mset κ 5 (cpF (κ 5) (fun i => κ 5 (8 + i)) (16 + 8 * z304) 0)) ++ WAll cI a μ) H locs := by rw [cpF_0]; exact w
              exact lp350 9 0 (by omega) (by omega) (by omega) _ _ _ w (lv_sub hl [1, 2, 3, 4, 5, 6, 7, 8, 9, 10, 0] rfl)
            refine q_if_le (tgt := 344) M dL_sets_337 (by decide) (by omega) (fun c337 => ?_) (fun c337 => ?_)
            · refine q_ic M dL_sets_344 ?_
              exact jn337 0 _ _ _ (by omega) w (lv_sub hl [0, 1, 2, 3, 4, 5, 6, 7, 8] rfl)
            · refine q_ic M dL_sets_340 ?_
              refine q_go (tgt := 345) M dL_sets_341 (by decide) ?_
              exact jn337 1 _ _ _ (by omega) w (lv_sub hl [0, 1, 2, 3, 4, 5, 6, 7, 8] rfl)
          refine q_icmp_ne (tgt := 327) M dL_sets_320 (by decide) (by omega) (fun c320 => ?_) (fun c320 => ?_)
          · refine q_ic M dL_sets_327 ?_
            exact jn320 0 _ _ _ (by omega) w (lv_sub hl [0, 1, 2, 3, 4, 5, 6, 7] rfl)
          · refine q_ic M dL_sets_323 ?_
            refine q_go (tgt := 328) M dL_sets_324 (by decide) ?_
            exact jn320 1 _ _ _ (by omega) w (lv_sub hl [0, 1, 2, 3, 4, 5, 6, 7] rfl)
        · refine q_iln M dL_sets_240 (lv_at hl 3 rfl) ?_
          refine q_bp M dL_sets_241 (by decide +kernel) ?_
          refine qe_iS (As := [.int (iI zz), .int (iI 8)]) (rest := []) (wc := []) (G := fun x243 => WLset cI o κ ++ WAll cI a μ) M w hA hl (k_low l D cI cZ cJ zz 8 (by omega)) gL_sets_L_low rfl ⟨rfl, rfl, by decide, by decide⟩ ⟨by show 0 ≤ 5; omega, by show 0 ≤ 30; omega⟩ 2 (by decide +kernel) rfl [] rfl (fun _ => rfl) rfl (Nat.le_of_ble_eq_true rfl) (fun _ => rfl) dL_sets_243 (fun z243 x243 h243 H locs w => ?_)
          refine q_is (lv' := [(7, .int (iI z243)), (6, .int (iI cv)), (0, .ref (a 0)), (1, .int (iI ac)), (2, .int (iI zz)), (3, .ref (o 4)), (4, .ref (o 5)), (5, .ref (o 8))]) M dL_sets_246 hl (by decide) rfl (fun ls hl => ?_)
          refine q_al M dL_sets_248 (lv_at hl 6 rfl) ?_
          refine q_bp M dL_sets_250 (by decide +kernel) ?_
          refine q_il M dL_sets_252 (lv_at hl 0 rfl) ?_
          refine q_add M dL_sets_254 ?_
          refine q_iald (f := κ 5) M w 1 0 rfl rfl (by omega) dL_sets_255 ?_
          refine q_is (lv' := [(8, .int (iI ((κ 5) (8 + z243)))), (7, .int (iI z243)), (6, .int (iI cv)), (0, .ref (a 0)), (1, .int (iI ac)), (2, .int (iI zz)), (3, .ref (o 4)), (4, .ref (o 5)), (5, .ref (o 8))]) M dL_sets_256 hl (by decide) rfl (fun ls hl => ?_)
          refine q_al M dL_sets_258 (lv_at hl 7 rfl) ?_
          refine q_bp M dL_sets_260 (by decide +kernel) ?_
          refine q_il M dL_sets_262 (lv_at hl 1 rfl) ?_
          refine q_add M dL_sets_264 ?_
          refine q_iln M dL_sets_265 (lv_at hl 5 rfl) ?_
          refine q_ic M dL_sets_266 ?_
          refine q_shr M dL_sets_267 ?_
          refine q_bp M dL_sets_268 (by decide +kernel) ?_
          refine qe_iS (As := [.int (iI (shR zz 3)), .int (iI 25)]) (rest := [.int (iI (8 + z243)), .ref (o 5)]) (wc := []) (G := fun x270 => WLset cI o κ ++ WAll cI a μ) M w hA hl (k_low l D cI cZ cJ (shR zz 3) 25 (by omega)) gL_sets_L_low rfl ⟨rfl, rfl, by decide, by decide⟩ ⟨by show 0 ≤ 5; omega, by show 0 ≤ 30; omega⟩ 2 (by decide +kernel) rfl [] rfl (fun _ => rfl) rfl (Nat.le_of_ble_eq_true rfl) (fun _ => rfl) dL_sets_270 (fun z270 x270 h270 H locs w => ?_)
          refine q_bp M dL_sets_273 (by decide +kernel) ?_
          refine q_sub M dL_sets_275 ?_
          refine q_iast (f := κ 5) (ws2 := WLset cI o (mset κ 5 (iU (κ 5) (8 + z243) (z270 - 12))) ++ WAll cI a μ) M w 1 0 rfl rfl (by omega) rfl dL_sets_276 (fun H locs w => ?_)
          refine q_aln M dL_sets_277 (lv_at hl 3 rfl) ?_
          refine q_il M dL_sets_278 (lv_at hl 1 rfl) ?_
          refine q_al M dL_sets_280 (lv_at hl 7 rfl) ?_
          refine q_bp M dL_sets_282 (by decide +kernel) ?_
          refine q_il M dL_sets_284 (lv_at hl 1 rfl) ?_
          refine q_add M dL_sets_286 ?_
          refine q_iald (f := iU (κ 5) (8 + z243) (z270 - 12)) M w 1 0 rfl rfl (by omega) dL_sets_287 ?_
          refine q_top (y := z270 - 12) (by exact iU_s _ _ _) ?_
          refine qx_iV (As := [.int (iI z243), .int (iI (z270 - 12))]) (rest := []) (wc := WAll cI a μ) (wc2 := WAll cI a (mset μ 1 (iU (μ 1) z243 (z270 - 12)))) (ws2 := WLset cI o (mset κ 5 (iU (κ 5) (8 + z243) (z270 - 12))) ++ WAll cI a (mset μ 1 (iU (μ 1) z243 (z270 - 12)))) M w hA hT hl (k_tune l hfl D cI cZ cJ a μ z243 (z270 - 12) (by omega) (by omega)) gL_sets_X6_tune rfl ⟨by decide, by decide⟩ ⟨by show 0 + 2 ≤ 5; omega, by show 0 + 12 ≤ 30; omega⟩ 2 ⟨rfl, by decide +kernel⟩ rfl [false, false, false, true, true, true, true, true, true, true, true, true, true, true, true, true, true, true, true, true, true, true, true, true, true, true, true, true, true, true, true, true, true, true, true, true, true, true, true, true, true, true, true, true, true, true, true, true, true, true, true, true, true] rfl rfl 3 rfl rfl rfl (Nat.le_of_ble_eq_true rfl) rfl dL_sets_288 (fun E ce q9 H1 locs1 hE w h1 h2 h3 => ?_) (fun H locs hE w => ?_)
          · exfalso; rw [chk_t (show 0 ≤ z243 ∧ z243 ≤ 7 from by omega), chk_t (show -12 ≤ (z270 - 12) ∧ (z270 - 12) ≤ 12 from by omega)] at hE; cases (show (none : Option String) = some E from hE)
          refine q_il M dL_sets_291 (lv_at hl 0 rfl) ?_
          refine q_icmp_neE (tgt := 300) (x := μ 1 z243) (y := (κ 5) (8 + z243)) M (by have q1 := congrFun hR.1.1.2.1 z243; have q2 := (hL.2.1.1 z243 (by omega) (by omega)).2; omega) dL_sets_293 (by decide) ?_
          refine q_ic M dL_sets_296 ?_
          refine q_go (tgt := 301) M dL_sets_297 (by decide) ?_
          have hP9 : (1 : Int) = 1 ∧ ∃ ν2, Rel (mset μ 1 (iU (μ 1) z243 (z270 - 12))) ν2 ∧ LR ν2 (mset (mset (mset κ 4 (κ 4)) 5 (iU (κ 5) (8 + z243) (z270 - 12))) 8 (κ 8)) := ⟨rfl, _, Rel_tune hR (by omega), LR_tn hL (by omega) (fun j => rfl) (fun j => rfl) (fun j => rfl) _⟩
          exact kret _ _ _ _ _ (κ 4, iU (κ 5) (8 + z243) (z270 - 12), κ 8, (mset μ 1 (iU (μ 1) z243 (z270 - 12)))) _ _ (by decide) (by decide) dL_sets_301 w (hP9)
      · refine q_iln M dL_sets_99 (lv_at hl 3 rfl) ?_
        refine q_ic M dL_sets_100 ?_
        refine qe_iS (As := [.int (iI zz), .int (iI 3)]) (rest := []) (wc := []) (G := fun x101 => WLset cI o κ ++ WAll cI a μ) M w hA hl (k_low l D cI cZ cJ zz 3 (by omega)) gL_sets_L_low rfl ⟨rfl, rfl, by decide, by decide⟩ ⟨by show 0 ≤ 5; omega, by show 0 ≤ 30; omega⟩ 2 (by decide +kernel) rfl [] rfl (fun _ => rfl) rfl (Nat.le_of_ble_eq_true rfl) (fun _ => rfl) dL_sets_101 (fun z101 x101 h101 H locs w => ?_)
        refine q_is (lv' := [(7, .int (iI z101)), (6, .int (iI cv)), (0, .ref (a 0)), (1, .int (iI ac)), (2, .int (iI zz)), (3, .ref (o 4)), (4, .ref (o 5)), (5, .ref (o 8))]) M dL_sets_104 hl (by decide) rfl (fun ls hl => ?_)
        refine q_iln M dL_sets_106 (lv_at hl 4 rfl) ?_
        refine q_ic M dL_sets_107 ?_
        refine q_shr M dL_sets_108 ?_
        refine q_bp M dL_sets_109 (by decide +kernel) ?_
        refine qe_iS (As := [.int (iI (shR zz 2)), .int (iI 7)]) (rest := []) (wc := []) (G := fun x111 => WLset cI o κ ++ WAll cI a μ) M w hA hl (k_low l D cI cZ cJ (shR zz 2) 7 (by omega)) gL_sets_L_low rfl ⟨rfl, rfl, by decide, by decide⟩ ⟨by show 0 ≤ 5; omega, by show 0 ≤ 30; omega⟩ 2 (by decide +kernel) rfl [] rfl (fun _ => rfl) rfl (Nat.le_of_ble_eq_true rfl) (fun _ => rfl) dL_sets_111 (fun z111 x111 h111 H locs w => ?_)
        refine q_is (lv' := [(8, .int (iI z111)), (7, .int (iI z101)), (6, .int (iI cv)), (0, .ref (a 0)), (1, .int (iI ac)), (2, .int (iI zz)), (3, .ref (o 4)), (4, .ref (o 5)), (5, .ref (o 8))]) M dL_sets_114 hl (by decide) rfl (fun ls hl => ?_)
        refine q_iln M dL_sets_116 (lv_at hl 5 rfl) ?_
        refine q_ic M dL_sets_117 ?_
        refine q_shr M dL_sets_118 ?_
        refine q_ic M dL_sets_119 ?_
        refine qe_iS (As := [.int (iI (shR zz 5)), .int (iI 3)]) (rest := []) (wc := []) (G := fun x120 => WLset cI o κ ++ WAll cI a μ) M w hA hl (k_low l D cI cZ cJ (shR zz 5) 3 (by omega)) gL_sets_L_low rfl ⟨rfl, rfl, by decide, by decide⟩ ⟨by show 0 ≤ 5; omega, by show 0 ≤ 30; omega⟩ 2 (by decide +kernel) rfl [] rfl (fun _ => rfl) rfl (Nat.le_of_ble_eq_true rfl) (fun _ => rfl) dL_sets_120 (fun z120 x120 h120 H locs w => ?_)
        have jn123 : ∀ (ev : Int) (H : Heap) (locs : List Loc) (ls : Array Slot), (ev = 0 ∨ 2 ≤ ev ∧ ev ≤ 8) → wW D A zs.heap (WLset cI o κ ++ WAll cI a μ) H locs → lv_has ls 11 [(8, .int (iI z111)), (7, .int (iI z101)), (6, .int (iI cv)), (0, .ref (a 0)), (1, .int (iI ac)), (2, .int (iI zz)), (3, .ref (o 4)), (4, .ref (o 5)), (5, .ref (o 8))] → W zp l ze rmL_sets zs zm zargs zbelow zmeth zc H locs 0 0 Q (F0 zm 156 ls [.int (iI ev)]) := by
          intro ev H locs ls hev w hl
          refine q_is (lv' := [(9, .int (iI ev)), (8, .int (iI z111)), (7, .int (iI z101)), (6, .int (iI cv)), (0, .ref (a 0)), (1, .int (iI ac)), (2, .int (iI zz)), (3, .ref (o 4)), (4, .ref (o 5)), (5, .ref (o 8))]) M dL_sets_156 hl (by decide) rfl (fun ls hl => ?_)
          refine q_aln M dL_sets_158 (lv_at hl 7 rfl) ?_
          refine q_il M dL_sets_159 (lv_at hl 2 rfl) ?_
          refine q_iald (f := κ 4) M w 0 0 rfl rfl (by omega) dL_sets_161 ?_
          refine q_is (lv' := [(10, .int (iI ((κ 4) z101))), (9, .int (iI ev)), (8, .int (iI z111)), (7, .int (iI z101)), (6, .int (iI cv)), (0, .ref (a 0)), (1, .int (iI ac)), (2, .int (iI zz)), (3, .ref (o 4)), (4, .ref (o 5)), (5, .ref (o 8))]) M dL_sets_162 hl (by decide) rfl (fun ls hl => ?_)
          refine q_aln M dL_sets_164 (lv_at hl 8 rfl) ?_
          refine q_il M dL_sets_165 (lv_at hl 3 rfl) ?_
          refine q_il M dL_sets_167 (lv_at hl 4 rfl) ?_
          refine q_if_eq (tgt := 177) M dL_sets_169 (by decide) (by omega) (fun c169 => ?_) (fun c169 => ?_)
          · refine q_il M dL_sets_177 (lv_at hl 0 rfl) ?_
            refine q_iast (f := κ 4) (ws2 := WLset cI o (mset κ 4 (iU (κ 4) z101 ((κ 4) z101))) ++ WAll cI a μ) M w 0 0 rfl rfl (by omega) rfl dL_sets_179 (fun H locs w => ?_)
            refine q_aln M dL_sets_180 (lv_at hl 8 rfl) ?_
            refine q_ic M dL_sets_181 ?_
            refine q_il M dL_sets_182 (lv_at hl 3 rfl) ?_
            refine q_add M dL_sets_184 ?_
            refine q_il M dL_sets_185 (lv_at hl 4 rfl) ?_
            refine q_if_eq (tgt := 195) M dL_sets_187 (by decide) (by omega) (fun c187 => ?_) (fun c187 => ?_)
            · refine q_aln M dL_sets_195 (lv_at hl 8 rfl) ?_
              refine q_ic M dL_sets_196 ?_
              refine q_il M dL_sets_197 (lv_at hl 3 rfl) ?_
              refine q_add M dL_sets_199 ?_
              refine q_iald (f := iU (κ 4) z101 ((κ 4) z101)) M w 0 0 rfl rfl (by omega) dL_sets_200 ?_
              refine q_iast (f := iU (κ 4) z101 ((κ 4) z101)) (ws2 := WLset cI o (mset κ 4 (iU (iU (κ 4) z101 ((κ 4) z101)) (3 + z101) ((iU (κ 4) z101 ((κ 4) z101)) (3 + z101)))) ++ WAll cI a μ) M w 0 0 rfl rfl (by omega) rfl dL_sets_201 (fun H locs w => ?_)
              refine q_aln M dL_sets_202 (lv_at hl 5 rfl) ?_
              refine q_ic M dL_sets_203 ?_
              refine q_il M dL_sets_204 (lv_at hl 3 rfl) ?_
              refine q_il M dL_sets_206 (lv_at hl 2 rfl) ?_
              refine q_il M dL_sets_208 (lv_at hl 1 rfl) ?_
              refine q_ic M dL_sets_210 ?_
              refine qc_L (As := [.ref (a 0), .int (iI 3), .int (iI z101), .int (iI z111), .int (iI ev), .int (iI 0)]) (rest := []) (wc := WAll cI a μ) (wc2 := WAll cI a μ) (ws2 := WLset cI o (mset κ 4 (iU (iU (κ 4) z101 ((κ 4) z101)) (3 + z101) ((iU (κ 4) z101 ((κ 4) z101)) (3 + z101)))) ++ WAll cI a μ) M w hA hT hl (c_setFeel l hfl D cI cZ cJ a μ z101 z111 ev (by omega) (by omega) (by omega) h23 0 (-7) μ (Or.inr ⟨by rw [chk_t (show 0 ≤ z101 ∧ z101 ≤ 11 from by omega), chk_t (show 0 ≤ z111 ∧ z111 ≤ 6 from by omega), chk_t (show ev = 0 ∨ 2 ≤ ev ∧ ev ≤ 8 from by omega), chk_f (show ¬ (μ 23 0 = 0) from by omega)]; rfl, rfl, rfl⟩)) gL_sets_L_calls rfl ⟨by decide, by decide⟩ ⟨by show 0 + 5 ≤ 5; omega, by show 0 + 30 ≤ 30; omega⟩ 6 (by decide +kernel) rfl [false, false, false, true, true, true, true, true, true, true, true, true, true, true, true, true, true, true, true, true, true, true, true, true, true, true, true, true, true, true, true, true, true, true, true, true, true, true, true, true, true, true, true, true, true, true, true, true, true, true, true, true, true] rfl rfl rfl (Nat.le_of_ble_eq_true rfl) rfl dL_sets_211 (fun H locs w => ?_)
              refine q_il M dL_sets_214 (lv_at hl 4 rfl) ?_
              refine q_if_eq (tgt := 224) M dL_sets_216 (by decide) (by omega) (fun c216 => ?_) (fun c216 => ?_)
              · refine q_bp M dL_sets_224 (by decide +kernel) ?_
                refine q_icmp_neE (tgt := 233) (x := (-7)) (y := (-7)) M (by rfl) dL_sets_226 (by decide) ?_
                refine q_ic M dL_sets_229 ?_
                refine q_go (tgt := 234) M dL_sets_230 (by decide) ?_
                have hP9 : (1 : Int) = 1 ∧ ∃ ν2, Rel μ ν2 ∧ LR ν2 (mset (mset (mset κ 4 (iU (iU (κ 4) z101 ((κ 4) z101)) (3 + z101) ((iU (κ 4) z101 ((κ 4) z101)) (3 + z101)))) 5 (κ 5)) 8 (κ 8)) := ⟨rfl, ν, hR, LR_q hL (fun j => by rw [iU_self, iU_self]) (fun j => rfl) (fun j => rfl)⟩
                exact kret _ _ _ _ _ (iU (iU (κ 4) z101 ((κ 4) z101)) (3 + z101) ((iU (κ 4) z101 ((κ 4) z101)) (3 + z101)), κ 5, κ 8, μ) _ _ (by decide) (by decide) dL_sets_234 w (hP9)
              · exfalso; omega
            · exfalso; omega
          · refine q_il M dL_sets_172 (lv_at hl 2 rfl) ?_
            refine q_go (tgt := 179) M dL_sets_174 (by decide) ?_
            refine q_iast (f := κ 4) (ws2 := WLset cI o (mset κ 4 (iU (κ 4) z101 z111)) ++ WAll cI a μ) M w 0 0 rfl rfl (by omega) rfl dL_sets_179 (fun H locs w => ?_)
            refine q_aln M dL_sets_180 (lv_at hl 8 rfl) ?_
            refine q_ic M dL_sets_181 ?_
            refine q_il M dL_sets_182 (lv_at hl 3 rfl) ?_
            refine q_add M dL_sets_184 ?_
            refine q_il M dL_sets_185 (lv_at hl 4 rfl) ?_
            refine q_if_eq (tgt := 195) M dL_sets_187 (by decide) (by omega) (fun c187 => ?_) (fun c187 => ?_)
            · exfalso; omega
            · refine q_il M dL_sets_190 (lv_at hl 1 rfl) ?_
              refine q_go (tgt := 201) M dL_sets_192 (by decide) ?_
              refine q_iast (f := iU (κ 4) z101 z111) (ws2 := WLset cI o (mset κ 4 (iU (iU (κ 4) z101 z111) (3 + z101) ev)) ++ WAll cI a μ) M w 0 0 rfl rfl (by omega) rfl dL_sets_201 (fun H locs w => ?_)
              refine q_aln M dL_sets_202 (lv_at hl 5 rfl) ?_
              refine q_ic M dL_sets_203 ?_
              refine q_il M dL_sets_204 (lv_at hl 3 rfl) ?_
              refine q_il M dL_sets_206 (lv_at hl 2 rfl) ?_
              refine q_il M dL_sets_208 (lv_at hl 1 rfl) ?_
              refine q_ic M dL_sets_210 ?_
              refine qc_L (As := [.ref (a 0), .int (iI 3), .int (iI z101), .int (iI z111), .int (iI ev), .int (iI 0)]) (rest := []) (wc := WAll cI a μ) (wc2 := WAll cI a (mset (mset μ 4 (iU (μ 4) z101 z111)) 5 (iU (μ 5) z101 ev))) (ws2 := WLset cI o (mset κ 4 (iU (iU (κ 4) z101 z111) (3 + z101) ev)) ++ WAll cI a (mset (mset μ 4 (iU (μ 4) z101 z111)) 5 (iU (μ 5) z101 ev))) M w hA hT hl (c_setFeel l hfl D cI cZ cJ a μ z101 z111 ev (by omega) (by omega) (by omega) h23 0 (μ 4 z101) (mset (mset μ 4 (iU (μ 4) z101 z111)) 5 (iU (μ 5) z101 ev)) (Or.inl ⟨by rw [chk_t (show 0 ≤ z101 ∧ z101 ≤ 11 from by omega), chk_t (show 0 ≤ z111 ∧ z111 ≤ 6 from by omega), chk_t (show ev = 0 ∨ 2 ≤ ev ∧ ev ≤ 8 from by omega), chk_t (show μ 23 0 = 0 from by omega)]; rfl, rfl, rfl⟩)) gL_sets_L_calls rfl ⟨by decide, by decide⟩ ⟨by show 0 + 5 ≤ 5; omega, by show 0 + 30 ≤ 30; omega⟩ 6 (by decide +kernel) rfl [false, false, false, true, true, true, true, true, true, true, true, true, true, true, true, true, true, true, true, true, true, true, true, true, true, true, true, true, true, true, true, true, true, true, true, true, true, true, true, true, true, true, true, true, true, true, true, true, true, true, true, true, true] rfl rfl rfl (Nat.le_of_ble_eq_true rfl) rfl dL_sets_211 (fun H locs w => ?_)
              refine q_il M dL_sets_214 (lv_at hl 4 rfl) ?_
              refine q_if_eq (tgt := 224) M dL_sets_216 (by decide) (by omega) (fun c216 => ?_) (fun c216 => ?_)
              · exfalso; omega
              · refine q_il M dL_sets_219 (lv_at hl 0 rfl) ?_
                refine q_go (tgt := 226) M dL_sets_221 (by decide) ?_
                refine q_icmp_neE (tgt := 233) (x := μ 4 z101) (y := (κ 4) z101) M (by have q1 := congrFun hR.1.1.2.2.2.2.1 z101; have q2 := (hL.1.2.2 z101 (by omega) (by omega)).1; omega) dL_sets_226 (by decide) ?_
                refine q_ic M dL_sets_229 ?_
                refine q_go (tgt := 234) M dL_sets_230 (by decide) ?_
                have hP9 : (1 : Int) = 1 ∧ ∃ ν2, Rel (mset (mset μ 4 (iU (μ 4) z101 z111)) 5 (iU (μ 5) z101 ev)) ν2 ∧ LR ν2 (mset (mset (mset κ 4 (iU (iU (κ 4) z101 z111) (3 + z101) ev)) 5 (κ 5)) 8 (κ 8)) := ⟨rfl, _, Rel_setFeel hR (by omega) (by omega) (by omega), LR_fe hL (by omega) (fun j => rfl) (fun j => rfl) (fun j => rfl) _⟩
                exact kret _ _ _ _ _ (iU (iU (κ 4) z101 z111) (3 + z101) ev, κ 5, κ 8, (mset (mset μ 4 (iU (μ 4) z101 z111)) 5 (iU (μ 5) z101 ev))) _ _ (by decide) (by decide) dL_sets_234 w (hP9)
        refine q_if_ne (tgt := 130) M dL_sets_123 (by decide) (by omega) (fun c123 => ?_) (fun c123 => ?_)
        · refine q_ic M dL_sets_130 ?_
          refine q_iln M dL_sets_131 (lv_at hl 5 rfl) ?_
          refine q_bp M dL_sets_132 (by decide +kernel) ?_
          refine q_shr M dL_sets_134 ?_
          refine q_iln M dL_sets_135 (lv_at hl 5 rfl) ?_
          refine q_bp M dL_sets_136 (by decide +kernel) ?_
          refine q_shr M dL_sets_138 ?_
          refine q_ic M dL_sets_139 ?_
          refine qe_iS (As := [.int (iI (shR zz 9)), .int (iI 2)]) (rest := [.int (iI (shR zz 6)), .int (iI 2)]) (wc := []) (G := fun x140 => WLset cI o κ ++ WAll cI a μ) M w hA hl (k_low l D cI cZ cJ (shR zz 9) 2 (by omega)) gL_sets_L_low rfl ⟨rfl, rfl, by decide, by decide⟩ ⟨by show 0 ≤ 5; omega, by show 0 ≤ 30; omega⟩ 2 (by decide +kernel) rfl [] rfl (fun _ => rfl) rfl (Nat.le_of_ble_eq_true rfl) (fun _ => rfl) dL_sets_140 (fun z140 x140 h140 H locs w => ?_)
          have jn143 : ∀ (n9 : Int) (H : Heap) (locs : List Loc) (ls : Array Slot), (0 < n9 ∧ n9 ≤ 7) → wW D A zs.heap (WLset cI o κ ++ WAll cI a μ) H locs → lv_has ls 11 [(8, .int (iI z111)), (7, .int (iI z101)), (6, .int (iI cv)), (0, .ref (a 0)), (1, .int (iI ac)), (2, .int (iI zz)), (3, .ref (o 4)), (4, .ref (o 5)), (5, .ref (o 8))] → W zp l ze rmL_sets zs zm zargs zbelow zmeth zc H locs 0 0 Q (F0 zm 152 ls [.int (iI n9), .int (iI (shR zz 6)), .int (iI 2)]) := by
            intro n9 H locs ls hn9 w hl
            refine qe_iS (As := [.int (iI (shR zz 6)), .int (iI n9)]) (rest := [.int (iI 2)]) (wc := []) (G := fun x152 => WLset cI o κ ++ WAll cI a μ) M w hA hl (k_low l D cI cZ cJ (shR zz 6) n9 (by omega)) gL_sets_L_low rfl ⟨rfl, rfl, by decide, by decide⟩ ⟨by show 0 ≤ 5; omega, by show 0 ≤ 30; omega⟩ 2 (by decide +kernel) rfl [] rfl (fun _ => rfl) rfl (Nat.le_of_ble_eq_true rfl) (fun _ => rfl) dL_sets_152 (fun z152 x152 h152 H locs w => ?_)
            refine q_add M dL_sets_155 ?_
            exact jn123 (2 + z152) _ _ _ (by omega) w (lv_sub hl [0, 1, 2, 3, 4, 5, 6, 7, 8] rfl)
          refine q_if_ne (tgt := 151) M dL_sets_143 (by decide) (by omega) (fun c143 => ?_) (fun c143 => ?_)
          · refine q_ic M dL_sets_151 ?_
            exact jn143 2 _ _ _ (by omega) w (lv_sub hl [0, 1, 2, 3, 4, 5, 6, 7, 8] rfl)
          · refine q_bp M dL_sets_146 (by decide +kernel) ?_
            refine q_go (tgt := 152) M dL_sets_148 (by decide) ?_
            exact jn143 7 _ _ _ (by omega) w (lv_sub hl [0, 1, 2, 3, 4, 5, 6, 7, 8] rfl)
        · refine q_ic M dL_sets_126 ?_
          refine q_go (tgt := 156) M dL_sets_127 (by decide) ?_
          exact jn123 0 _ _ _ (by omega) w (lv_sub hl [0, 1, 2, 3, 4, 5, 6, 7, 8] rfl)
    · refine q_iln M dL_sets_18 (lv_at hl 3 rfl) ?_
      refine q_bp M dL_sets_19 (by decide +kernel) ?_
      refine qe_iS (As := [.int (iI zz), .int (iI 8)]) (rest := []) (wc := []) (G := fun x21 => WLset cI o κ ++ WAll cI a μ) M w hA hl (k_low l D cI cZ cJ zz 8 (by omega)) gL_sets_L_low rfl ⟨rfl, rfl, by decide, by decide⟩ ⟨by show 0 ≤ 5; omega, by show 0 ≤ 30; omega⟩ 2 (by decide +kernel) rfl [] rfl (fun _ => rfl) rfl (Nat.le_of_ble_eq_true rfl) (fun _ => rfl) dL_sets_21 (fun z21 x21 h21 H locs w => ?_)
      refine q_is (lv' := [(7, .int (iI z21)), (6, .int (iI cv)), (0, .ref (a 0)), (1, .int (iI ac)), (2, .int (iI zz)), (3, .ref (o 4)), (4, .ref (o 5)), (5, .ref (o 8))]) M dL_sets_24 hl (by decide) rfl (fun ls hl => ?_)
      refine q_ic M dL_sets_26 ?_
      refine q_iln M dL_sets_27 (lv_at hl 4 rfl) ?_
      refine q_ic M dL_sets_28 ?_
      refine q_shr M dL_sets_29 ?_
      refine q_bp M dL_sets_30 (by decide +kernel) ?_
      refine qe_iS (As := [.int (iI (shR zz 3)), .int (iI 6)]) (rest := [.int (iI 1)]) (wc := []) (G := fun x32 => WLset cI o κ ++ WAll cI a μ) M w hA hl (k_low l D cI cZ cJ (shR zz 3) 6 (by omega)) gL_sets_L_low rfl ⟨rfl, rfl, by decide, by decide⟩ ⟨by show 0 ≤ 5; omega, by show 0 ≤ 30; omega⟩ 2 (by decide +kernel) rfl [] rfl (fun _ => rfl) rfl (Nat.le_of_ble_eq_true rfl) (fun _ => rfl) dL_sets_32 (fun z32 x32 h32 H locs w => ?_)
      refine q_add M dL_sets_35 ?_
      refine q_is (lv' := [(8, .int (iI (1 + z32))), (7, .int (iI z21)), (6, .int (iI cv)), (0, .ref (a 0)), (1, .int (iI ac)), (2, .int (iI zz)), (3, .ref (o 4)), (4, .ref (o 5)), (5, .ref (o 8))]) M dL_sets_36 hl (by decide) rfl (fun ls hl => ?_)
      refine q_al M dL_sets_38 (lv_at hl 7 rfl) ?_
      refine q_il M dL_sets_40 (lv_at hl 1 rfl) ?_
      refine q_iald (f := κ 5) M w 1 0 rfl rfl (by omega) dL_sets_42 ?_
      refine q_is (lv' := [(9, .int (iI ((κ 5) z21))), (8, .int (iI (1 + z32))), (7, .int (iI z21)), (6, .int (iI cv)), (0, .ref (a 0)), (1, .int (iI ac)), (2, .int (iI zz)), (3, .ref (o 4)), (4, .ref (o 5)), (5, .ref (o 8))]) M dL_sets_43 hl (by decide) rfl (fun ls hl => ?_)
      refine q_al M dL_sets_45 (lv_at hl 8 rfl) ?_
      refine q_il M dL_sets_47 (lv_at hl 2 rfl) ?_
      refine q_il M dL_sets_49 (lv_at hl 3 rfl) ?_
      refine q_if_eq (tgt := 59) M dL_sets_51 (by decide) (by omega) (fun c51 => ?_) (fun c51 => ?_)
      · refine q_il M dL_sets_59 (lv_at hl 0 rfl) ?_
        refine q_iast (f := κ 5) (ws2 := WLset cI o (mset κ 5 (iU (κ 5) z21 ((κ 5) z21))) ++ WAll cI a μ) M w 1 0 rfl rfl (by omega) rfl dL_sets_61 (fun H locs w => ?_)
        refine q_aln M dL_sets_62 (lv_at hl 4 rfl) ?_
        refine q_ic M dL_sets_63 ?_
        refine q_il M dL_sets_64 (lv_at hl 2 rfl) ?_
        refine q_il M dL_sets_66 (lv_at hl 1 rfl) ?_
        refine q_ic M dL_sets_68 ?_
        refine q_ic M dL_sets_69 ?_
        refine qc_L (As := [.ref (a 0), .int (iI 0), .int (iI z21), .int (iI (1 + z32)), .int (iI 0), .int (iI 0)]) (rest := []) (wc := WAll cI a μ) (wc2 := WAll cI a μ) (ws2 := WLset cI o (mset κ 5 (iU (κ 5) z21 ((κ 5) z21))) ++ WAll cI a μ) M w hA hT hl (c_setSize l hfl D cI cZ cJ a μ z21 (1 + z32) (by omega) (by omega) h23 0 0 (-7) μ (Or.inr ⟨by rw [chk_t (show 0 ≤ z21 ∧ z21 ≤ 7 from by omega), chk_t (show 1 ≤ (1 + z32) ∧ (1 + z32) ≤ 6 from by omega), chk_f (show ¬ (μ 23 0 = 0) from by omega)]; rfl, rfl, rfl⟩)) gL_sets_L_calls rfl ⟨by decide, by decide⟩ ⟨by show 0 + 5 ≤ 5; omega, by show 0 + 30 ≤ 30; omega⟩ 6 (by decide +kernel) rfl [false, false, false, true, true, true, true, true, true, true, true, true, true, true, true, true, true, true, true, true, true, true, true, true, true, true, true, true, true, true, true, true, true, true, true, true, true, true, true, true, true, true, true, true, true, true, true, true, true, true, true, true, true] rfl rfl rfl (Nat.le_of_ble_eq_true rfl) rfl dL_sets_70 (fun H locs w => ?_)
        refine q_il M dL_sets_73 (lv_at hl 3 rfl) ?_
        refine q_if_eq (tgt := 83) M dL_sets_75 (by decide) (by omega) (fun c75 => ?_) (fun c75 => ?_)
        · refine q_bp M dL_sets_83 (by decide +kernel) ?_
          refine q_icmp_neE (tgt := 92) (x := (-7)) (y := (-7)) M (by rfl) dL_sets_85 (by decide) ?_
          refine q_ic M dL_sets_88 ?_
          refine q_go (tgt := 93) M dL_sets_89 (by decide) ?_
          have hP9 : (1 : Int) = 1 ∧ ∃ ν2, Rel μ ν2 ∧ LR ν2 (mset (mset (mset κ 4 (κ 4)) 5 (iU (κ 5) z21 ((κ 5) z21))) 8 (κ 8)) := ⟨rfl, ν, hR, LR_q hL (fun j => rfl) (fun j => by rw [iU_self]) (fun j => rfl)⟩
          exact kret _ _ _ _ _ (κ 4, iU (κ 5) z21 ((κ 5) z21), κ 8, μ) _ _ (by decide) (by decide) dL_sets_93 w (hP9)
        · exfalso; omega
      · refine q_il M dL_sets_54 (lv_at hl 1 rfl) ?_
        refine q_go (tgt := 61) M dL_sets_56 (by decide) ?_
        refine q_iast (f := κ 5) (ws2 := WLset cI o (mset κ 5 (iU (κ 5) z21 (1 + z32))) ++ WAll cI a μ) M w 1 0 rfl rfl (by omega) rfl dL_sets_61 (fun H locs w => ?_)
        refine q_aln M dL_sets_62 (lv_at hl 4 rfl) ?_
        refine q_ic M dL_sets_63 ?_
        refine q_il M dL_sets_64 (lv_at hl 2 rfl) ?_
        refine q_il M dL_sets_66 (lv_at hl 1 rfl) ?_
        refine q_ic M dL_sets_68 ?_
        refine q_ic M dL_sets_69 ?_
        refine qc_L (As := [.ref (a 0), .int (iI 0), .int (iI z21), .int (iI (1 + z32)), .int (iI 0), .int (iI 0)]) (rest := []) (wc := WAll cI a μ) (wc2 := WAll cI a (mset μ 0 (iU (μ 0) z21 (1 + z32)))) (ws2 := WLset cI o (mset κ 5 (iU (κ 5) z21 (1 + z32))) ++ WAll cI a (mset μ 0 (iU (μ 0) z21 (1 + z32)))) M w hA hT hl (c_setSize l hfl D cI cZ cJ a μ z21 (1 + z32) (by omega) (by omega) h23 0 0 (μ 0 z21) (mset μ 0 (iU (μ 0) z21 (1 + z32))) (Or.inl ⟨by rw [chk_t (show 0 ≤ z21 ∧ z21 ≤ 7 from by omega), chk_t (show 1 ≤ (1 + z32) ∧ (1 + z32) ≤ 6 from by omega), chk_t (show μ 23 0 = 0 from by omega)]; rfl, rfl, rfl⟩)) gL_sets_L_calls rfl ⟨by decide, by decide⟩ ⟨by show 0 + 5 ≤ 5; omega, by show 0 + 30 ≤ 30; omega⟩ 6 (by decide +kernel) rfl [false, false, false, true, true, true, true, true, true, true, true, true, true, true, true, true, true, true, true, true, true, true, true, true, true, true, true, true, true, true, true, true, true, true, true, true, true, true, true, true, true, true, true, true, true, true, true, true, true, true, true, true, true] rfl rfl rfl (Nat.le_of_ble_eq_true rfl) rfl dL_sets_70 (fun H locs w => ?_)
        refine q_il M dL_sets_73 (lv_at hl 3 rfl) ?_
        refine q_if_eq (tgt := 83) M dL_sets_75 (by decide) (by omega) (fun c75 => ?_) (fun c75 => ?_)
        · exfalso; omega
        · refine q_il M dL_sets_78 (lv_at hl 0 rfl) ?_
          refine q_go (tgt := 85) M dL_sets_80 (by decide) ?_
          refine q_icmp_neE (tgt := 92) (x := μ 0 z21) (y := (κ 5) z21) M (by have q1 := congrFun hR.1.1.1 z21; have q2 := (hL.2.1.1 z21 (by omega) (by omega)).1; omega) dL_sets_85 (by decide) ?_
          refine q_ic M dL_sets_88 ?_
          refine q_go (tgt := 93) M dL_sets_89 (by decide) ?_
          have hP9 : (1 : Int) = 1 ∧ ∃ ν2, Rel (mset μ 0 (iU (μ 0) z21 (1 + z32))) ν2 ∧ LR ν2 (mset (mset (mset κ 4 (κ 4)) 5 (iU (κ 5) z21 (1 + z32))) 8 (κ 8)) := ⟨rfl, _, Rel_setSize hR (by omega) (by omega), LR_sz hL (by omega) (fun j => rfl) (fun j => rfl) (fun j => rfl) _⟩
          exact kret _ _ _ _ _ (κ 4, iU (κ 5) z21 (1 + z32), κ 8, (mset μ 0 (iU (μ 0) z21 (1 + z32)))) _ _ (by decide) (by decide) dL_sets_93 w (hP9)
  refine q_if_ne (tgt := 11) M dL_sets_4 (by decide) (by omega) (fun c4 => ?_) (fun c4 => ?_)
  · refine q_ic M dL_sets_11 ?_
    exact jn4 0 _ _ _ (by omega) w (lv_sub hl [0, 1, 2, 3, 4, 5] rfl)
  · refine q_ic M dL_sets_7 ?_
    refine q_go (tgt := 12) M dL_sets_8 (by decide) ?_
    exact jn4 1 _ _ _ (by omega) w (lv_sub hl [0, 1, 2, 3, 4, 5] rfl)
