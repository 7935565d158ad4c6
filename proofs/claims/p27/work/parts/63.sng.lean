/-! THE LAW: song -/
theorem LR_v {ν κ : Nat → Int → Int} (V : Int → Int) (h : LR ν κ) : LR ν (mset κ 11 V) := by
  obtain ⟨hA, hT, hn, hi, hm, h0⟩ := h
  exact ⟨hA, hT, hn, hi, hm, h0⟩
/-- the beats as the law counts them -/
noncomputable def cS (ν : Nat → Int → Int) (s b : Int) : Int := 10 * bP (vw ν) s b + fB (vw ν) s b
noncomputable def bL (ν : Nat → Int → Int) (s : Int) : Int → Int := fun k => if sA (vw ν) (cS ν s (k / 64)) (k % 4) (k % 64 / 4) = -1 then 0 else 1
theorem bL_sum (ν : Nat → Int → Int) (s : Int) {n : Int} (hn : 0 ≤ n) : sI (bL ν s) (n * 64) = sI (fun b => cBs (vw ν) (cdF (vw ν) (bP (vw ν) s b) (bT (vw ν) s b))) n := by
  rw [sI_blk _ (by omega) hn]
  refine sI_cg hn fun i h1 h2 => ?_
  have e := sI_blk (fun j => bL ν s (i * 64 + j)) (a := 4) (n := 16) (by omega) (by omega)
  rw [show (16 : Int) * 4 = 64 by omega] at e
  rw [e]
  refine sI_cg (by omega) fun st h3 h4 => ?_
  refine sI_cg (by omega) fun t h5 h6 => ?_
  show bL ν s (i * 64 + (st * 4 + t)) = _
  unfold bL
  rw [show (i * 64 + (st * 4 + t)) / 64 = i by omega, show (i * 64 + (st * 4 + t)) % 4 = t by omega, show (i * 64 + (st * 4 + t)) % 64 / 4 = st by omega]
  rfl
theorem bL_s (ν : Nat → Int → Int) (s : Int) {k : Int} (hk : 0 ≤ k) : sI (bL ν s) (k + 1) = sI (bL ν s) k + (if sA (vw ν) (cS ν s (k / 64)) (k % 4) (k % 64 / 4) = -1 then 0 else 1) := sI_s _ hk
theorem bL_beats {μ ν : Nat → Int → Int} (h : Rel μ ν) {s : Int} (hs : 0 ≤ s ∧ s < 6) : sI (fun b => cBs μ (cdF μ (μ 14 (s * 64 + b)) (μ 15 (s * 64 + b)))) (μ 13 s) = sI (bL ν s) (64 * lBs (vw ν) s) ∧ sI (fun b => cBt μ (cdF μ (μ 14 (s * 64 + b)) (μ 15 (s * 64 + b)))) (μ 13 s) = sI (bL ν s) (64 * lBs (vw ν) s) := by
  have hb := (lBs_bd (vw ν) s).1
  have e := bL_sum ν s hb
  have e2 := btR_cBs (vw ν) s hb
  rw [Int.mul_comm 64]
  exact ⟨(Rel_beats h hs).trans (e2.trans e.symm), (Rel_beatsT h hs).trans (e2.trans e.symm)⟩

set_option maxHeartbeats 4000000 in
set_option maxRecDepth 100000 in
theorem k_song (l : Launch) (hfl : l.stackTraces = false) (D : va_G) (cI cZ cJ : ClassId) (a o : Nat → Nat) (μ ν κ : Nat → Int → Int) (hR : Rel μ ν) (hL : LR ν κ) (sg zz : Int) (hsg : 0 ≤ sg ∧ sg < 3) : Le l D (tY cI cZ cJ) yL_song wsL_song rmL_song [.ref (a 0), .int (iI sg), .int (iI zz), .ref (o 0), .ref (o 1), .ref (o 2), .ref (o 3), .ref (o 4), .ref (o 6), .ref (o 7), .ref (o 11)] (WLsng cI o κ ++ WAll cI a μ) (fun (z : Int) (x : (Int → Int) × (Nat → Int → Int)) => z = 1 ∧ ∃ ν2, Rel x.2 ν2 ∧ LR ν2 (mset κ 11 x.1)) (fun x => WLsng cI o (mset κ 11 x.1) ++ WAll cI a x.2) := by
  have h23 := hR.2.2.2.1.2.2.2.2
  have b22 := hR.2.2.2.1.2.1
  have e22 := hR.2.2.2.1.1
  have hcan := can_cs hR hL
  have hSD := Rel_SD hR (s := sg) ⟨hsg.1, by omega⟩
  refine le_of (by decide +kernel) rfl (Nat.le_of_ble_eq_true rfl) (fun _ _ q => Or.inr q.1) ?_
  intro zp ze zs zm zargs zbelow zmeth zc A Q ls M hA w hl hT kret
  have hl : lv_has ls 14 [(0, .ref (a 0)), (1, .int (iI sg)), (2, .int (iI zz)), (3, .ref (o 0)), (4, .ref (o 1)), (5, .ref (o 2)), (6, .ref (o 3)), (7, .ref (o 4)), (8, .ref (o 6)), (9, .ref (o 7)), (10, .ref (o 11))] := hl
  refine q_iln M dL_song_0 (lv_at hl 1 rfl) ?_
  refine q_ic M dL_song_1 ?_
  refine q_al M dL_song_2 (lv_at hl 10 rfl) ?_
  refine q_al M dL_song_4 (lv_at hl 8 rfl) ?_
  refine q_al M dL_song_6 (lv_at hl 9 rfl) ?_
  refine q_al M dL_song_8 (lv_at hl 7 rfl) ?_
  refine qe_iS (As := [.int (iI sg), .int (iI 0), .ref (o 11), .ref (o 6), .ref (o 7), .ref (o 4)]) (rest := []) (wc := WLlay cI o (o 11) κ (κ 11)) (G := fun x10 => WLsng cI o (mset κ 11 x10) ++ WAll cI a μ) M w hA hl (k_lays l D cI cZ cJ o κ ν sg 0 (o 11) (κ 11) (Rel_IP hR) hSD hsg (by omega) hL.2.2.1 (fun k a b => (hL.1.2.2 k a b).2)) gL_song_L_lays rfl ⟨rfl, rfl, by decide, by decide⟩ ⟨by show 0 ≤ 6; omega, by show 0 ≤ 36; omega⟩ 6 (by decide +kernel) rfl [false, false, false, false, true, true, true, true] rfl (fun _ => rfl) rfl (Nat.le_of_ble_eq_true rfl) (fun _ => rfl) dL_song_10 (fun z10 x10 h10 H locs w => ?_)
  obtain ⟨hz1, hz2, -⟩ := h10
  have hzb := lBs_bd (vw ν) sg
  rw [← hz1] at hz2 hzb
  have hv : ∀ i, 0 ≤ i → i < z10 → x10 i = 2 * bP (vw ν) sg i + fB (vw ν) sg i := fun i a b => by have q := hz2 (by omega) i a b; rw [Int.zero_add] at q; exact q
  refine q_is (lv' := [(11, .int (iI z10)), (0, .ref (a 0)), (1, .int (iI sg)), (2, .int (iI zz)), (3, .ref (o 0)), (4, .ref (o 1)), (5, .ref (o 2)), (6, .ref (o 3)), (7, .ref (o 4)), (8, .ref (o 6)), (9, .ref (o 7)), (10, .ref (o 11))]) M dL_song_13 hl (by decide) rfl (fun ls hl => ?_)
  refine q_ic M dL_song_15 ?_
  refine q_is (lv' := [(12, .int (iI 0)), (11, .int (iI z10)), (0, .ref (a 0)), (1, .int (iI sg)), (2, .int (iI zz)), (3, .ref (o 0)), (4, .ref (o 1)), (5, .ref (o 2)), (6, .ref (o 3)), (7, .ref (o 4)), (8, .ref (o 6)), (9, .ref (o 7)), (10, .ref (o 11))]) M dL_song_16 hl (by decide) rfl (fun ls hl => ?_)
  refine q_ic M dL_song_18 ?_
  refine q_is (lv' := [(13, .int (iI 0)), (12, .int (iI 0)), (11, .int (iI z10)), (0, .ref (a 0)), (1, .int (iI sg)), (2, .int (iI zz)), (3, .ref (o 0)), (4, .ref (o 1)), (5, .ref (o 2)), (6, .ref (o 3)), (7, .ref (o 4)), (8, .ref (o 6)), (9, .ref (o 7)), (10, .ref (o 11))]) M dL_song_19 hl (by decide) rfl (fun ls hl => ?_)
  have lp21 : ∀ (n21 : Nat) (k : Int) (bt : Int), (0 ≤ k ∧ k ≤ 64 * z10) → (bt = sI (bL ν sg) k ∧ 0 ≤ bt ∧ bt ≤ k) → (64 * z10 - k : Int) < (n21 : Int) → ∀ (H : Heap) (locs : List Loc) (ls : Array Slot), wW D A zs.heap (WLsng cI o (mset κ 11 x10) ++ WAll cI a μ) H locs → lv_has ls 14 [(0, .ref (a 0)), (1, .int (iI sg)), (2, .int (iI zz)), (3, .ref (o 0)), (4, .ref (o 1)), (5, .ref (o 2)), (6, .ref (o 3)), (7, .ref (o 4)), (8, .ref (o 6)), (9, .ref (o 7)), (10, .ref (o 11)), (11, .int (iI z10)), (12, .int (iI bt)), (13, .int (iI k))] → W zp l ze rmL_song zs zm zargs zbelow zmeth zc H locs 0 0 Q (F0 zm 21 ls []) := by
    intro n21
    induction n21 with
    | zero => intro k bt hk hbt hm H locs ls w hl; exfalso; omega
    | succ n21 ih21 =>
      intro k bt hk hbt hm21 H locs ls w hl
      refine q_il M dL_song_21 (lv_at hl 13 rfl) ?_
      refine q_bp M dL_song_23 (by decide +kernel) ?_
      refine q_il M dL_song_25 (lv_at hl 11 rfl) ?_
      refine q_mul M dL_song_27 ?_
      refine q_icmp_ge (tgt := 79) M dL_song_28 (by decide) (by omega) (fun c28 => ?_) (fun c28 => ?_)
      · have ek : k = 64 * z10 := by omega
        have hbe := bL_beats hR (s := sg) (by omega)
        rw [← hz1, ← ek, ← hbt.1] at hbe
        have h13 := Rel_lB hR (s := sg) (by omega)
        refine q_il M dL_song_79 (lv_at hl 11 rfl) ?_
        have jn81 : ∀ (bv : Int) (H : Heap) (locs : List Loc) (ls : Array Slot), (z10 = 0 ∨ 0 ≤ bv ∧ bv < z10) → wW D A zs.heap (WLsng cI o (mset κ 11 x10) ++ WAll cI a μ) H locs → lv_has ls 14 [(0, .ref (a 0)), (1, .int (iI sg)), (2, .int (iI zz)), (3, .ref (o 0)), (4, .ref (o 1)), (5, .ref (o 2)), (6, .ref (o 3)), (7, .ref (o 4)), (8, .ref (o 6)), (9, .ref (o 7)), (10, .ref (o 11)), (11, .int (iI z10)), (12, .int (iI bt)), (13, .int (iI k))] → W zp l ze rmL_song zs zm zargs zbelow zmeth zc H locs 0 0 Q (F0 zm 94 ls [.int (iI bv)]) := by
          intro bv H locs ls hbv w hl
          refine q_is (lv' := [(13, .int (iI bv)), (0, .ref (a 0)), (1, .int (iI sg)), (2, .int (iI zz)), (3, .ref (o 0)), (4, .ref (o 1)), (5, .ref (o 2)), (6, .ref (o 3)), (7, .ref (o 4)), (8, .ref (o 6)), (9, .ref (o 7)), (10, .ref (o 11)), (11, .int (iI z10)), (12, .int (iI bt))]) M dL_song_94 hl (by decide) rfl (fun ls hl => ?_)
          refine q_aln M dL_song_96 (lv_at hl 1 rfl) ?_
          refine q_iln M dL_song_97 (lv_at hl 2 rfl) ?_
          refine qx_iV (As := [.int (iI sg)]) (rest := []) (wc := WAll cI a μ) (wc2 := WAll cI a μ) (ws2 := WLsng cI o (mset κ 11 x10) ++ WAll cI a μ) M w hA hT hl (k_bars l hfl D cI cZ cJ a μ sg (by omega)) gL_song_X6_bars rfl ⟨by decide, by decide⟩ ⟨by show 0 + 1 ≤ 6; omega, by show 0 + 6 ≤ 36; omega⟩ 1 ⟨rfl, by decide +kernel⟩ rfl [false, false, false, false, false, false, false, false, true, true, true, true, true, true, true, true, true, true, true, true, true, true, true, true, true, true, true, true, true, true, true, true, true, true, true, true, true, true, true, true, true, true, true, true, true, true, true, true, true, true, true, true, true, true, true, true, true, true] rfl rfl 8 rfl rfl rfl (Nat.le_of_ble_eq_true rfl) rfl dL_song_98 (fun E ce q9 H1 locs1 hE w h1 h2 h3 => ?_) (fun H locs hE w => ?_)
          · exfalso; rw [chk_t (show 0 ≤ sg ∧ sg ≤ 5 from by omega)] at hE; cases (show (none : Option String) = some E from hE)
          refine q_il M dL_song_101 (lv_at hl 12 rfl) ?_
          refine q_icmp_neE (tgt := 163) (x := μ 13 sg) (y := z10) M (by rw [h13, hz1]) dL_song_103 (by decide) ?_
          refine q_aln M dL_song_106 (lv_at hl 1 rfl) ?_
          refine q_iln M dL_song_107 (lv_at hl 2 rfl) ?_
          refine qx_iV (As := [.int (iI sg)]) (rest := []) (wc := WAll cI a μ) (wc2 := WAll cI a μ) (ws2 := WLsng cI o (mset κ 11 x10) ++ WAll cI a μ) M w hA hT hl (k_beats l hfl D cI cZ cJ a μ sg (by omega) hR.2.1.1 (Rel_IH hR) (Rel_IB hR)) gL_song_X6_beats rfl ⟨by decide, by decide⟩ ⟨by show (0 + 1) + 1 ≤ 6; omega, by show (0 + 6) + 6 ≤ 36; omega⟩ 1 ⟨rfl, by decide +kernel⟩ rfl [false, false, false, false, false, false, false, false, true, true, true, true, true, true, true, true, true, true, true, true, true, true, true, true, true, true, true, true, true, true, true, true, true, true, true, true, true, true, true, true, true, true, true, true, true, true, true, true, true, true, true, true, true, true, true, true, true, true] rfl rfl 8 rfl rfl rfl (Nat.le_of_ble_eq_true rfl) rfl dL_song_108 (fun E ce q9 H1 locs1 hE w h1 h2 h3 => ?_) (fun H locs hE w => ?_)
          · exfalso; rw [chk_t (show 0 ≤ sg ∧ sg ≤ 5 from by omega)] at hE; cases (show (none : Option String) = some E from hE)
          refine q_il M dL_song_111 (lv_at hl 13 rfl) ?_
          refine q_icmp_neE (tgt := 163) (x := sI (fun b => cBs μ (cdF μ (μ 14 (sg * 64 + b)) (μ 15 (sg * 64 + b)))) (μ 13 sg)) (y := bt) M (by exact hbe.1) dL_song_113 (by decide) ?_
          refine q_aln M dL_song_116 (lv_at hl 1 rfl) ?_
          refine q_iln M dL_song_117 (lv_at hl 2 rfl) ?_
          refine qx_iV (As := [.int (iI sg)]) (rest := []) (wc := WAll cI a μ) (wc2 := WAll cI a μ) (ws2 := WLsng cI o (mset κ 11 x10) ++ WAll cI a μ) M w hA hT hl (k_beatsByTicks l hfl D cI cZ cJ a μ sg (by omega) hR.2.1.1 (Rel_IH hR) (Rel_IB hR)) gL_song_X6_beatsByTicks rfl ⟨by decide, by decide⟩ ⟨by show ((0 + 1) + 1) + 1 ≤ 6; omega, by show ((0 + 6) + 6) + 6 ≤ 36; omega⟩ 1 ⟨rfl, by decide +kernel⟩ rfl [false, false, false, false, false, false, false, false, true, true, true, true, true, true, true, true, true, true, true, true, true, true, true, true, true, true, true, true, true, true, true, true, true, true, true, true, true, true, true, true, true, true, true, true, true, true, true, true, true, true, true, true, true, true, true, true, true, true] rfl rfl 8 rfl rfl rfl (Nat.le_of_ble_eq_true rfl) rfl dL_song_118 (fun E ce q9 H1 locs1 hE w h1 h2 h3 => ?_) (fun H locs hE w => ?_)
          · exfalso; rw [chk_t (show 0 ≤ sg ∧ sg ≤ 5 from by omega)] at hE; cases (show (none : Option String) = some E from hE)
          refine q_il M dL_song_121 (lv_at hl 13 rfl) ?_
          refine q_icmp_neE (tgt := 163) (x := sI (fun b => cBt μ (cdF μ (μ 14 (sg * 64 + b)) (μ 15 (sg * 64 + b)))) (μ 13 sg)) (y := bt) M (by exact hbe.2) dL_song_123 (by decide) ?_
          refine q_il M dL_song_126 (lv_at hl 12 rfl) ?_
          refine q_if_eq (tgt := 159) M dL_song_128 (by decide) (by omega) (fun c128 => ?_) (fun c128 => ?_)
          · refine q_ic M dL_song_159 ?_
            refine q_go (tgt := 164) M dL_song_160 (by decide) ?_
            have hP9 : (1 : Int) = 1 ∧ ∃ ν2, Rel μ ν2 ∧ LR ν2 (mset κ 11 x10) := ⟨rfl, ν, hR, LR_v _ hL⟩
            exact kret _ _ _ _ _ (x10, μ) _ _ (by decide) (by decide) dL_song_164 w (hP9)
          · have hb3 := bP_3 hL.2.2.1 hsg hSD (b := bv) (by omega)
            have hf1 := fB_bd (vw ν) sg bv
            refine q_aln M dL_song_131 (lv_at hl 1 rfl) ?_
            refine q_iln M dL_song_132 (lv_at hl 2 rfl) ?_
            refine q_il M dL_song_133 (lv_at hl 0 rfl) ?_
            refine qx_iV (As := [.int (iI sg), .int (iI bv)]) (rest := []) (wc := WAll cI a μ) (wc2 := WAll cI a μ) (ws2 := WLsng cI o (mset κ 11 x10) ++ WAll cI a μ) M w hA hT hl (k_barAt l hfl D cI cZ cJ a μ sg bv (by omega) (by omega) hR.2.1.1 (Rel_IH hR) (Rel_IB hR)) gL_song_X6_barAt rfl ⟨by decide, by decide⟩ ⟨by show (((0 + 1) + 1) + 1) + 2 ≤ 6; omega, by show (((0 + 6) + 6) + 6) + 12 ≤ 36; omega⟩ 2 ⟨rfl, by decide +kernel⟩ rfl [false, false, false, false, false, false, false, false, true, true, true, true, true, true, true, true, true, true, true, true, true, true, true, true, true, true, true, true, true, true, true, true, true, true, true, true, true, true, true, true, true, true, true, true, true, true, true, true, true, true, true, true, true, true, true, true, true, true] rfl rfl 8 rfl rfl rfl (Nat.le_of_ble_eq_true rfl) rfl dL_song_135 (fun E ce q9 H1 locs1 hE w h1 h2 h3 => ?_) (fun H locs hE w => ?_)
            · exfalso; rw [chk_t (show 0 ≤ sg ∧ sg ≤ 5 from by omega), chk_t (show 0 ≤ bv ∧ bv ≤ μ 13 sg - 1 from by omega)] at hE; cases (show (none : Option String) = some E from hE)
            refine q_al M dL_song_138 (lv_at hl 11 rfl) ?_
            refine q_il M dL_song_140 (lv_at hl 0 rfl) ?_
            refine q_iald (f := x10) M w 7 0 rfl rfl (by omega) dL_song_142 ?_
            refine q_top (y := 2 * bP (vw ν) sg bv + fB (vw ν) sg bv) (by exact hv _ (by omega) (by omega)) ?_
            refine q_ic M dL_song_143 ?_
            refine q_div M dL_song_144 (by omega) ?_
            refine q_top (y := bP (vw ν) sg bv) (by omega) ?_
            refine q_bp M dL_song_145 (by decide +kernel) ?_
            refine q_mul M dL_song_147 ?_
            refine q_al M dL_song_148 (lv_at hl 11 rfl) ?_
            refine q_il M dL_song_150 (lv_at hl 0 rfl) ?_
            refine q_iald (f := x10) M w 7 0 rfl rfl (by omega) dL_song_152 ?_
            refine q_top (y := 2 * bP (vw ν) sg bv + fB (vw ν) sg bv) (by exact hv _ (by omega) (by omega)) ?_
            refine q_ic M dL_song_153 ?_
            refine q_rem M dL_song_154 (by omega) ?_
            refine q_top (y := fB (vw ν) sg bv) (by omega) ?_
            refine q_add M dL_song_155 ?_
            refine q_icmp_neE (tgt := 163) (x := cdF μ (μ 14 (sg * 64 + bv)) (μ 15 (sg * 64 + bv))) (y := ((bP (vw ν) sg bv) * 10) + (fB (vw ν) sg bv)) M (by rw [Rel_barAt hR (by omega) (by omega)]; show 10 * bP (vw ν) sg bv + fB (vw ν) sg bv = _; omega) dL_song_156 (by decide) ?_
            refine q_ic M dL_song_159 ?_
            refine q_go (tgt := 164) M dL_song_160 (by decide) ?_
            have hP9 : (1 : Int) = 1 ∧ ∃ ν2, Rel μ ν2 ∧ LR ν2 (mset κ 11 x10) := ⟨rfl, ν, hR, LR_v _ hL⟩
            exact kret _ _ _ _ _ (x10, μ) _ _ (by decide) (by decide) dL_song_164 w (hP9)
        refine q_if_ne (tgt := 88) M dL_song_81 (by decide) (by omega) (fun c81 => ?_) (fun c81 => ?_)
        · refine q_iln M dL_song_88 (lv_at hl 2 rfl) ?_
          refine q_il M dL_song_89 (lv_at hl 11 rfl) ?_
          refine qe_iS (As := [.int (iI zz), .int (iI z10)]) (rest := []) (wc := []) (G := fun x91 => WLsng cI o (mset κ 11 x10) ++ WAll cI a μ) M w hA hl (k_low l D cI cZ cJ zz z10 (by omega)) gL_song_L_low rfl ⟨rfl, rfl, by decide, by decide⟩ ⟨by show 0 ≤ 6; omega, by show 0 ≤ 36; omega⟩ 2 (by decide +kernel) rfl [] rfl (fun _ => rfl) rfl (Nat.le_of_ble_eq_true rfl) (fun _ => rfl) dL_song_91 (fun z91 x91 h91 H locs w => ?_)
          exact jn81 z91 _ _ _ (by omega) w (lv_sub hl [0, 1, 2, 3, 4, 5, 6, 7, 8, 9, 10, 11, 12, 13] rfl)
        · refine q_ic M dL_song_84 ?_
          refine q_go (tgt := 94) M dL_song_85 (by decide) ?_
          exact jn81 0 _ _ _ (by omega) w (lv_sub hl [0, 1, 2, 3, 4, 5, 6, 7, 8, 9, 10, 11, 12, 13] rfl)
      · refine q_il M dL_song_31 (lv_at hl 12 rfl) ?_
        have hb3 := bP_3 hL.2.2.1 hsg hSD (b := k / 64) (by omega)
        have hf1 := fB_bd (vw ν) sg (k / 64)
        have hsb := sA_bd (Rel_IP hR) (cS ν sg (k / 64)) (k % 4) (k % 64 / 4)
        refine q_al M dL_song_33 (lv_at hl 10 rfl) ?_
        refine q_il M dL_song_35 (lv_at hl 13 rfl) ?_
        refine q_bp M dL_song_37 (by decide +kernel) ?_
        refine q_div M dL_song_39 (by omega) ?_
        refine q_iald (f := x10) M w 7 0 rfl rfl (by omega) dL_song_40 ?_
        refine q_top (y := 2 * bP (vw ν) sg (k / 64) + fB (vw ν) sg (k / 64)) (by exact hv _ (by omega) (by omega)) ?_
        refine q_il M dL_song_41 (lv_at hl 13 rfl) ?_
        refine q_ic M dL_song_43 ?_
        refine q_rem M dL_song_44 (by omega) ?_
        refine q_il M dL_song_45 (lv_at hl 13 rfl) ?_
        refine q_bp M dL_song_47 (by decide +kernel) ?_
        refine q_rem M dL_song_49 (by omega) ?_
        refine q_ic M dL_song_50 ?_
        refine q_div M dL_song_51 (by omega) ?_
        refine q_aln M dL_song_52 (lv_at hl 3 rfl) ?_
        refine q_al M dL_song_53 (lv_at hl 4 rfl) ?_
        refine q_al M dL_song_55 (lv_at hl 5 rfl) ?_
        refine q_al M dL_song_57 (lv_at hl 6 rfl) ?_
        refine qc_iS (As := [.int (iI (2 * bP (vw ν) sg (k / 64) + fB (vw ν) sg (k / 64))), .int (iI (k % 4)), .int (iI ((k % 64) / 4)), .ref (o 0), .ref (o 1), .ref (o 2), .ref (o 3)]) (rest := [.int (iI bt)]) (wc := WLhas cI o κ) (wc2 := WLhas cI o κ) (ws2 := WLsng cI o (mset κ 11 x10) ++ WAll cI a μ) M w hA hl (k_has l D cI cZ cJ o κ (2 * bP (vw ν) sg (k / 64) + fB (vw ν) sg (k / 64)) (k % 4) ((k % 64) / 4) (by omega) (by omega) (by omega) (by omega)) gL_song_L_has rfl ⟨rfl, rfl, by decide, by decide⟩ ⟨by show 0 ≤ 6; omega, by show 0 ≤ 36; omega⟩ 7 (by decide +kernel) rfl [true, true, true, true] rfl rfl rfl (Nat.le_of_ble_eq_true rfl) rfl dL_song_59 (fun H locs w => ?_)
        refine q_top (y := sA (vw ν) (cS ν sg (k / 64)) (k % 4) (k % 64 / 4) + 1) (by exact hF_sA hL.1 (by omega) hb3 hf1 (by omega) (by omega)) ?_
        refine q_if_le (tgt := 69) M dL_song_62 (by decide) (by omega) (fun c62 => ?_) (fun c62 => ?_)
        · refine q_ic M dL_song_69 ?_
          refine q_add M dL_song_70 ?_
          refine q_is (lv' := [(12, .int (iI (bt + 0))), (0, .ref (a 0)), (1, .int (iI sg)), (2, .int (iI zz)), (3, .ref (o 0)), (4, .ref (o 1)), (5, .ref (o 2)), (6, .ref (o 3)), (7, .ref (o 4)), (8, .ref (o 6)), (9, .ref (o 7)), (10, .ref (o 11)), (11, .int (iI z10)), (13, .int (iI k))]) M dL_song_71 hl (by decide) rfl (fun ls hl => ?_)
          refine q_inc (z := k) (lv' := [(13, .int (iI (k + 1))), (12, .int (iI (bt + 0))), (0, .ref (a 0)), (1, .int (iI sg)), (2, .int (iI zz)), (3, .ref (o 0)), (4, .ref (o 1)), (5, .ref (o 2)), (6, .ref (o 3)), (7, .ref (o 4)), (8, .ref (o 6)), (9, .ref (o 7)), (10, .ref (o 11)), (11, .int (iI z10))]) M dL_song_73 hl (k := 13) rfl (by decide) rfl (fun ls hl => ?_)
          refine q_go (tgt := 21) M dL_song_76 (by decide) ?_
          exact ih21 (k + 1) (bt + 0) (by omega) ⟨by rw [bL_s ν sg hk.1, ← hbt.1, if_pos (by omega)], by omega, by omega⟩ (by omega) _ _ _ w (lv_sub hl [2, 3, 4, 5, 6, 7, 8, 9, 10, 11, 12, 13, 1, 0] rfl)
        · refine q_ic M dL_song_65 ?_
          refine q_go (tgt := 70) M dL_song_66 (by decide) ?_
          refine q_add M dL_song_70 ?_
          refine q_is (lv' := [(12, .int (iI (bt + 1))), (0, .ref (a 0)), (1, .int (iI sg)), (2, .int (iI zz)), (3, .ref (o 0)), (4, .ref (o 1)), (5, .ref (o 2)), (6, .ref (o 3)), (7, .ref (o 4)), (8, .ref (o 6)), (9, .ref (o 7)), (10, .ref (o 11)), (11, .int (iI z10)), (13, .int (iI k))]) M dL_song_71 hl (by decide) rfl (fun ls hl => ?_)
          refine q_inc (z := k) (lv' := [(13, .int (iI (k + 1))), (12, .int (iI (bt + 1))), (0, .ref (a 0)), (1, .int (iI sg)), (2, .int (iI zz)), (3, .ref (o 0)), (4, .ref (o 1)), (5, .ref (o 2)), (6, .ref (o 3)), (7, .ref (o 4)), (8, .ref (o 6)), (9, .ref (o 7)), (10, .ref (o 11)), (11, .int (iI z10))]) M dL_song_73 hl (k := 13) rfl (by decide) rfl (fun ls hl => ?_)
          refine q_go (tgt := 21) M dL_song_76 (by decide) ?_
          exact ih21 (k + 1) (bt + 1) (by omega) ⟨by rw [bL_s ν sg hk.1, ← hbt.1, if_neg (by omega)], by omega, by omega⟩ (by omega) _ _ _ w (lv_sub hl [2, 3, 4, 5, 6, 7, 8, 9, 10, 11, 12, 13, 1, 0] rfl)
  exact lp21 4100 0 0 (by omega) ⟨(sI_0 _).symm, by omega, by omega⟩ (by omega) _ _ _ w (lv_sub hl [3, 4, 5, 6, 7, 8, 9, 10, 11, 12, 13, 2, 1, 0] rfl)
