/-! THE LAW'S ACTS: list -/
theorem bP_3 {ν κ : Nat → Int → Int} (hN : LN ν κ) {s b : Int} (hs : 0 ≤ s ∧ s < 3) (hS : SDs (vw ν) s) (hb : 0 ≤ b ∧ b < lBs (vw ν) s) : 0 ≤ bP (vw ν) s b ∧ bP (vw ν) s b < 3 := by
  have h1 : (ly (vw ν) s b).1 < ν 9 s := (lB_in _ _ _ _ _).2.1 b hb.1 hb.2
  have h2 : 0 ≤ (ly (vw ν) s b).1 := (lay_ok hS hb.1 (Int.le_of_lt hb.2)).1.1
  exact ((hN s hs.1 hs.2).2 _ h2 h1).1.2
def sC (ν κ : Nat → Int → Int) (k : Int) : Prop := κ 8 1 = 0 ∧ 0 < ν 14 0 ∧ ∀ j, 0 ≤ j → j < k → 0 < lBs (vw ν) (ν 15 j)
theorem sC_s {ν κ : Nat → Int → Int} {k : Int} (h : sC ν κ k) (h2 : 0 < lBs (vw ν) (ν 15 k)) : sC ν κ (k + 1) := ⟨h.1, h.2.1, fun j a b => by
  by_cases e : j = k
  · rw [e]; exact h2
  · exact h.2.2 j a (by omega)⟩
theorem sC_f {ν κ : Nat → Int → Int} {k : Int} (h : ¬ sC ν κ k) : ¬ sC ν κ (k + 1) := fun q => h ⟨q.1, q.2.1, fun j a b => q.2.2 j a (by omega)⟩
theorem sC_g {ν κ : Nat → Int → Int} {k : Int} (hk : 0 ≤ k) (h : ¬ 0 < lBs (vw ν) (ν 15 k)) : ¬ sC ν κ (k + 1) := fun q => h (q.2.2 k hk (by omega))
def sGr (ν : Nat → Int → Int) (k : Int) (g : Int → Int) : Prop := fsR ν k ≤ 64 → (∀ j, 0 ≤ j → j < k → 0 < lBs (vw ν) (ν 15 j)) → ∀ j b, 0 ≤ j → j < k → 0 ≤ b → b < lBs (vw ν) (ν 15 j) → g (fsR ν j + b) = 8 * j + 2 * bP (vw ν) (ν 15 j) b + fB (vw ν) (ν 15 j) b
theorem sGr_s {ν : Nat → Int → Int} {k i : Int} {g g1 g2 : Int → Int} (hk : 0 ≤ k) (h : sGr ν k g) (h1 : lyG (vw ν) (ν 15 k) (fsR ν k) (lBs (vw ν) (ν 15 k)) g1) (h2 : lyH (fsR ν k) g1 g) (h3 : ∀ x, g2 x = if fsR ν k ≤ x ∧ x < i then g1 x + 8 * k else g1 x) (hi : fsR ν k + lBs (vw ν) (ν 15 k) ≤ 64 → i = fsR ν k + lBs (vw ν) (ν 15 k)) : sGr ν (k + 1) g2 := by
  intro w1 w2 j b a1 a2 a3 a4
  have e := fsR_s ν hk
  have pk := w2 k hk (by omega)
  have b0 := (fsR_bd ν hk).1
  rw [e] at w1
  have hi2 := hi w1
  by_cases q : j = k
  · rw [q] at a4 ⊢
    rw [h3, if_pos (by omega), h1 w1 b a3 a4]
    omega
  · have e2 := fsR_s ν a1
    have e3 := fsR_le ν (a := j + 1) (b := k) (by omega) (by omega)
    have b1 := (fsR_bd ν a1).1
    rw [h3, if_neg (by omega), h2 _ (by omega) (by omega) (by omega)]
    exact h (by omega) (fun j2 c1 c2 => w2 j2 c1 (by omega)) j b a1 (by omega) a3 a4
theorem ad_s {f g1 : Int → Int} {q i k : Int} (hi : q ≤ i) (h : ∀ x, f x = if q ≤ x ∧ x < i then g1 x + 8 * k else g1 x) : ∀ x, iU f i (f i + 8 * k) x = if q ≤ x ∧ x < i + 1 then g1 x + 8 * k else g1 x := by
  intro x
  by_cases e : x = i
  · rw [e, iU_s, h i, if_neg (by omega), if_pos (by omega)]
  · rw [iU_n f _ e, h x]
    by_cases z : q ≤ x ∧ x < i
    · rw [if_pos z, if_pos (by omega)]
    · rw [if_neg z, if_neg (by omega)]
theorem LR_l0 {ν κ : Nat → Int → Int} {N q m g : Int → Int} (h : LR ν κ) (hN : ∀ j, j < 3 + ν 14 0 → N j = κ 7 j) (hq : ∀ j, q j = κ 8 j) (hm : ∀ j, m j = κ 9 j) (hg : ν 21 0 = 1 → ∀ j, g j = κ 10 j) : LR ν (mset (mset (mset (mset κ 7 N) 8 q) 9 m) 10 g) := by
  obtain ⟨hA, ⟨t1, t2, t3⟩, hn, ⟨⟨i1, i2⟩, i3⟩, ⟨m1, ⟨m2, m3⟩, m4, m5, m6⟩, h0, h1⟩ := h
  refine ⟨hA, ⟨t1, t2, (hq 9).trans t3⟩, fun s a b => ⟨⟨(hN s (by omega)).trans (hn s a b).1.1, (hn s a b).1.2⟩, (hn s a b).2⟩, ⟨⟨(hq 0).trans i1, i2⟩, fun j a b => ⟨(hN (3 + j) (by omega)).trans (i3 j a b).1, (i3 j a b).2⟩⟩, ⟨fun k a b => (hm k).trans (m1 k a b), ⟨(hq 4).trans m2, (hq 5).trans m3⟩, (hq 6).trans m4, (hq 7).trans m5, (hq 8).trans m6⟩, fun z => (hq 1).trans (h0 z), fun z => ?_⟩
  obtain ⟨⟨g1, g2⟩, ⟨g3, g4⟩, g5⟩ := h1 z
  refine ⟨⟨g1, (hq 1).trans g2⟩, ⟨(hq 2).trans g3, (hq 3).trans g4⟩, fun i a b => ?_⟩
  obtain ⟨c1, c2, j, c3, c4, c5⟩ := g5 i a b
  exact ⟨c1, c2, j, c3, c4, (hg z i).trans c5⟩
theorem LR_as {ν κ : Nat → Int → Int} {N q m g : Int → Int} {s : Int} (h : LR ν κ) (h21 : ν 21 0 = 0) (hs : 0 ≤ s ∧ s < 3) (h3 : ν 14 0 < 3) (hN : ∀ j, N j = iU (κ 7) (3 + ν 14 0) s j) (hq : ∀ j, q j = iU (κ 8) 0 (ν 14 0 + 1) j) (hm : ∀ j, m j = κ 9 j) : LR (mset (mset (mset ν 0 (fun _ => 0)) 14 (fun _ => ν 14 0 + 1)) 15 (iU (ν 15) (ν 14 0) s)) (mset (mset (mset (mset κ 7 N) 8 q) 9 m) 10 g) := by
  obtain ⟨hA, ⟨t1, t2, t3⟩, hn, ⟨⟨i1, i2⟩, i3⟩, ⟨m1, ⟨m2, m3⟩, m4, m5, m6⟩, h0, h1⟩ := h
  have hz : ∀ j, j ≠ 0 → q j = κ 8 j := fun j z => (hq j).trans (iU_n _ _ z)
  refine ⟨hA, ⟨t1, t2, (hz 9 (by omega)).trans t3⟩, fun s2 a b => ⟨⟨(hN s2).trans ((iU_n _ _ (by omega)).trans (hn s2 a b).1.1), (hn s2 a b).1.2⟩, (hn s2 a b).2⟩, ⟨⟨?_, ?_⟩, fun j a b => ?_⟩, ⟨fun k a b => (hm k).trans (m1 k a b), ⟨(hz 4 (by omega)).trans m2, (hz 5 (by omega)).trans m3⟩, (hz 6 (by omega)).trans m4, (hz 7 (by omega)).trans m5, (hz 8 (by omega)).trans m6⟩, fun z => (hz 1 (by omega)).trans (h0 h21), fun z => ?_⟩
  · exact (hq 0).trans (iU_s _ _ _)
  · show 0 ≤ ν 14 0 + 1 ∧ ν 14 0 + 1 ≤ 3
    omega
  · have b : j < ν 14 0 + 1 := b
    show N (3 + j) = iU (ν 15) (ν 14 0) s j ∧ 0 ≤ iU (ν 15) (ν 14 0) s j ∧ iU (ν 15) (ν 14 0) s j < 3
    rw [hN]
    by_cases e : j = ν 14 0
    · rw [e, iU_s, iU_s]
      exact ⟨rfl, hs⟩
    · rw [iU_n (κ 7) s (show 3 + j ≠ 3 + ν 14 0 by omega), iU_n (ν 15) s e]
      exact i3 j a (by omega)
  · have z : ν 21 0 = 1 := z
    omega
theorem LR_cs {ν κ : Nat → Int → Int} {N q m g : Int → Int} (h : LR ν κ) (h21 : ν 21 0 = 0) (hN : ∀ j, N j = κ 7 j) (hq : ∀ j, q j = iU (κ 8) 0 0 j) (hm : ∀ j, m j = κ 9 j) : LR (mset (mset ν 0 (fun _ => 0)) 14 (fun _ => 0)) (mset (mset (mset (mset κ 7 N) 8 q) 9 m) 10 g) := by
  obtain ⟨hA, ⟨t1, t2, t3⟩, hn, ⟨⟨i1, i2⟩, i3⟩, ⟨m1, ⟨m2, m3⟩, m4, m5, m6⟩, h0, h1⟩ := h
  have hz : ∀ j, j ≠ 0 → q j = κ 8 j := fun j z => (hq j).trans (iU_n _ _ z)
  refine ⟨hA, ⟨t1, t2, (hz 9 (by omega)).trans t3⟩, fun s2 a b => ⟨⟨(hN s2).trans (hn s2 a b).1.1, (hn s2 a b).1.2⟩, (hn s2 a b).2⟩, ⟨⟨?_, ?_⟩, fun j a b => ?_⟩, ⟨fun k a b => (hm k).trans (m1 k a b), ⟨(hz 4 (by omega)).trans m2, (hz 5 (by omega)).trans m3⟩, (hz 6 (by omega)).trans m4, (hz 7 (by omega)).trans m5, (hz 8 (by omega)).trans m6⟩, fun z => (hz 1 (by omega)).trans (h0 h21), fun z => ?_⟩
  · exact (hq 0).trans (iU_s _ _ _)
  · show (0 : Int) ≤ 0 ∧ (0 : Int) ≤ 3
    omega
  · have b : j < 0 := b
    omega
  · have z : ν 21 0 = 1 := z
    omega
theorem LR_start {μ ν κ : Nat → Int → Int} {N q m g : Int → Int} (hR : Rel μ ν) (h : LR ν κ) (hC : sC ν κ (ν 14 0)) (h64 : fsR ν (ν 14 0) ≤ 64) (hN : ∀ j, N j = κ 7 j) (hq1 : q 1 = fsR ν (ν 14 0)) (hq2 : q 2 = 0 ∧ q 3 = 0 ∧ q 4 = 0 ∧ q 5 = 0) (hq : ∀ j, j ≠ 1 → j ≠ 2 → j ≠ 3 → j ≠ 4 → j ≠ 5 → q j = κ 8 j) (hm : ∀ j, 0 ≤ j → j < 8 → m j = 0) (hg : sGr ν (ν 14 0) g) : LR (stR ν) (mset (mset (mset (mset κ 7 N) 8 q) 9 m) 10 g) := by
  have e22 := hR.2.2.2.1.1
  have f18 := (st_facts hR).1
  obtain ⟨hA, ⟨t1, t2, t3⟩, hn, ⟨⟨i1, i2⟩, i3⟩, ⟨m1, ⟨m2, m3⟩, m4, m5, m6⟩, h0, h1⟩ := h
  have g18 : ∀ j, 0 ≤ j → j ≤ ν 14 0 → (stR ν) 18 j = fsR ν j := fun j a b => (f18 j a (by omega)).trans (fs_eq hR ⟨a, by omega⟩)
  have g14 : (stR ν) 18 ((stR ν) 14 0) = fsR ν (ν 14 0) := g18 _ i2.1 (Int.le_refl _)
  refine ⟨hA, ⟨t1, t2, (hq 9 (by omega) (by omega) (by omega) (by omega) (by omega)).trans t3⟩, fun s a b => ⟨⟨(hN s).trans (hn s a b).1.1, (hn s a b).1.2⟩, (hn s a b).2⟩, ⟨⟨(hq 0 (by omega) (by omega) (by omega) (by omega) (by omega)).trans i1, i2⟩, fun j a b => ⟨(hN (3 + j)).trans (i3 j a b).1, (i3 j a b).2⟩⟩, ⟨fun k a b => hm k a b, ⟨hq2.2.2.1, hq2.2.2.2⟩, (hq 6 (by omega) (by omega) (by omega) (by omega) (by omega)).trans m4, (hq 7 (by omega) (by omega) (by omega) (by omega) (by omega)).trans m5, (hq 8 (by omega) (by omega) (by omega) (by omega) (by omega)).trans m6⟩, fun z => absurd z (by show ¬ (1 : Int) = 0; omega), fun _ => ⟨⟨by rw [g14]; exact h64, hq1.trans g14.symm⟩, ⟨hq2.1, hq2.2.1⟩, fun i a b => ?_⟩⟩
  rw [g14] at b
  obtain ⟨n, en⟩ := Int.eq_ofNat_of_zero_le i2.1
  have b2 : i < fsC μ (n : Int) := by rw [← en, fs_eq hR ⟨i2.1, by omega⟩]; exact b
  obtain ⟨j, x, hj, hx, ei⟩ := fs_split μ n ⟨a, b2⟩
  have ej := fs_eq hR (j := j) ⟨hj.1, by omega⟩
  have h18 := hR.2.2.2.1.2.2.1 j hj.1 (by omega)
  have h15 := i3 j hj.1 (by omega)
  have hlb := Rel_lB hR (s := μ 18 j) ⟨h18.2.1, h18.2.2⟩
  rw [h18.1] at hlb hx
  have hx2 : x < lBs (vw ν) (ν 15 j) := by omega
  have hw := (stX_w ν n).2.2 j x hj.1 (by omega) hx.1 hx2
  rw [← en] at hw
  have hSD := Rel_SD hR (s := ν 15 j) ⟨h15.2.1, by omega⟩
  have h3 := bP_3 hn (s := ν 15 j) h15.2 hSD ⟨hx.1, hx2⟩
  have hfb := fB_bd (vw ν) (ν 15 j) x
  rw [ej] at ei
  have e16 : (stR ν) 16 i = bP (vw ν) (ν 15 j) x := by rw [ei]; exact hw.1
  have e17 : (stR ν) 17 i = fB (vw ν) (ν 15 j) x := by rw [ei]; exact hw.2
  have e18 := fsR_s ν hj.1
  rw [e16, e17]
  refine ⟨h3, hfb, j, ⟨hj.1, by show j < ν 14 0; omega⟩, ⟨?_, ?_⟩, ?_⟩
  · rw [g18 j hj.1 (by omega)]; omega
  · rw [g18 (j + 1) (by omega) (by omega)]; omega
  · show g i = _
    rw [ei]
    exact hg h64 hC.2.2 j x hj.1 (by omega) hx.1 hx2
/-- what start asks -/
theorem sC_can {μ ν κ : Nat → Int → Int} (hR : Rel μ ν) (hL : LR ν κ) : sC ν κ (ν 14 0) ↔ μ 23 0 = 0 ∧ 0 < μ 22 0 ∧ ∀ i, 0 ≤ i → i < μ 22 0 → μ 13 (μ 18 i) ≠ 0 := by
  have e22 := hR.2.2.2.1.1
  have hcan := can_cs hR hL
  have key : ∀ i, 0 ≤ i → i < μ 22 0 → μ 13 (μ 18 i) = lBs (vw ν) (ν 15 i) := fun i a b => by
    have h18 := hR.2.2.2.1.2.2.1 i a b
    rw [Rel_lB hR ⟨h18.2.1, h18.2.2⟩, h18.1]
  refine ⟨fun q => ⟨?_, by have := q.2.1; omega, fun i a b => ?_⟩, fun q => ⟨?_, by have := q.2.1; omega, fun j a b => ?_⟩⟩
  · have := q.1; omega
  · rw [key i a b]
    have := q.2.2 i a (by omega)
    omega
  · have := q.1; omega
  · have c := q.2.2 j a (by omega)
    rw [key j a (by omega)] at c
    have := (lBs_bd (vw ν) (ν 15 j)).1
    omega

set_option maxHeartbeats 4000000 in
set_option maxRecDepth 100000 in
theorem k_list (l : Launch) (hfl : l.stackTraces = false) (D : va_G) (cI cZ cJ : ClassId) (a o : Nat → Nat) (μ ν κ : Nat → Int → Int) (hR : Rel μ ν) (hL : LR ν κ) (ac zz : Int) (hac : -2147483648 ≤ ac ∧ ac < 2147483648) : Le l D (tY cI cZ cJ) yL_list wsL_list rmL_list [.ref (a 0), .int (iI ac), .int (iI zz), .ref (o 6), .ref (o 7), .ref (o 4), .ref (o 8), .ref (o 9), .ref (o 10)] (WLlst cI o κ ++ WAll cI a μ) (fun (z : Int) (x : (Int → Int) × (Int → Int) × (Int → Int) × (Int → Int) × (Nat → Int → Int)) => z = 1 ∧ ∃ ν2, Rel x.2.2.2.2 ν2 ∧ LR ν2 (mset (mset (mset (mset κ 7 x.1) 8 x.2.1) 9 x.2.2.1) 10 x.2.2.2.1)) (fun x => WLlst cI o (mset (mset (mset (mset κ 7 x.1) 8 x.2.1) 9 x.2.2.1) 10 x.2.2.2.1) ++ WAll cI a x.2.2.2.2) := by
  have h23 := hR.2.2.2.1.2.2.2.2
  have b22 := hR.2.2.2.1.2.1
  have e22 := hR.2.2.2.1.1
  have hcan := can_cs hR hL
  have h14 := hL.2.2.2.1.1
  refine le_of (by decide +kernel) rfl (Nat.le_of_ble_eq_true rfl) (fun _ _ q => Or.inr q.1) ?_
  intro zp ze zs zm zargs zbelow zmeth zc A Q ls M hA w hl hT kret
  have hl : lv_has ls 14 [(0, .ref (a 0)), (1, .int (iI ac)), (2, .int (iI zz)), (3, .ref (o 6)), (4, .ref (o 7)), (5, .ref (o 4)), (6, .ref (o 8)), (7, .ref (o 9)), (8, .ref (o 10))] := hl
  refine q_iln M dL_list_0 (lv_at hl 1 rfl) ?_
  refine q_if_ne (tgt := 97) M dL_list_1 (by decide) (by omega) (fun c1 => ?_) (fun c1 => ?_)
  · refine q_iln M dL_list_97 (lv_at hl 1 rfl) ?_
    refine q_ic M dL_list_98 ?_
    refine q_icmp_ne (tgt := 158) M dL_list_99 (by decide) (by omega) (fun c99 => ?_) (fun c99 => ?_)
    · refine q_ic M dL_list_158 ?_
      refine q_is (lv' := [(9, .int (iI 0)), (0, .ref (a 0)), (1, .int (iI ac)), (2, .int (iI zz)), (3, .ref (o 6)), (4, .ref (o 7)), (5, .ref (o 4)), (6, .ref (o 8)), (7, .ref (o 9)), (8, .ref (o 10))]) M dL_list_159 hl (by decide) rfl (fun ls hl => ?_)
      refine q_al M dL_list_161 (lv_at hl 7 rfl) ?_
      refine q_ic M dL_list_163 ?_
      refine q_iald (f := κ 8) M w 3 0 rfl rfl (by omega) dL_list_164 ?_
      have jn165 : ∀ (cw : Int) (H : Heap) (locs : List Loc) (ls : Array Slot), ((cw = 1 ∧ κ 8 1 = 0 ∧ 0 < ν 14 0) ∨ (cw = 0 ∧ ¬ (κ 8 1 = 0 ∧ 0 < ν 14 0))) → wW D A zs.heap (WLlst cI o κ ++ WAll cI a μ) H locs → lv_has ls 14 [(9, .int (iI 0)), (0, .ref (a 0)), (1, .int (iI ac)), (2, .int (iI zz)), (3, .ref (o 6)), (4, .ref (o 7)), (5, .ref (o 4)), (6, .ref (o 8)), (7, .ref (o 9)), (8, .ref (o 10))] → W zp l ze rmL_list zs zm zargs zbelow zmeth zc H locs 0 0 Q (F0 zm 180 ls [.int (iI cw)]) := by
        intro cw H locs ls hcw w hl
        refine q_is (lv' := [(10, .int (iI cw)), (9, .int (iI 0)), (0, .ref (a 0)), (1, .int (iI ac)), (2, .int (iI zz)), (3, .ref (o 6)), (4, .ref (o 7)), (5, .ref (o 4)), (6, .ref (o 8)), (7, .ref (o 9)), (8, .ref (o 10))]) M dL_list_180 hl (by decide) rfl (fun ls hl => ?_)
        refine q_ic M dL_list_182 ?_
        refine q_is (lv' := [(11, .int (iI 0)), (10, .int (iI cw)), (9, .int (iI 0)), (0, .ref (a 0)), (1, .int (iI ac)), (2, .int (iI zz)), (3, .ref (o 6)), (4, .ref (o 7)), (5, .ref (o 4)), (6, .ref (o 8)), (7, .ref (o 9)), (8, .ref (o 10))]) M dL_list_183 hl (by decide) rfl (fun ls hl => ?_)
        have lp185 : ∀ (n185 : Nat) (k : Int) (al : Int) (cx : Int) (g : Int → Int), (0 ≤ k ∧ k ≤ ν 14 0) → (al = fsR ν k ∧ 0 ≤ al ∧ al ≤ 64 * k) → ((cx = 1 ∧ sC ν κ k) ∨ (cx = 0 ∧ ¬ sC ν κ k)) → (sGr ν k g) → (κ 8 1 ≠ 0 → ∀ j, g j = κ 10 j) → (ν 14 0 - k : Int) < (n185 : Int) → ∀ (H : Heap) (locs : List Loc) (ls : Array Slot), wW D A zs.heap (WLlst cI o (mset κ 10 g) ++ WAll cI a μ) H locs → lv_has ls 14 [(0, .ref (a 0)), (1, .int (iI ac)), (2, .int (iI zz)), (3, .ref (o 6)), (4, .ref (o 7)), (5, .ref (o 4)), (6, .ref (o 8)), (7, .ref (o 9)), (8, .ref (o 10)), (9, .int (iI al)), (10, .int (iI cx)), (11, .int (iI k))] → W zp l ze rmL_list zs zm zargs zbelow zmeth zc H locs 0 0 Q (F0 zm 185 ls []) := by
          intro n185
          induction n185 with
          | zero => intro k al cx g hk hal hcx hg hgp hm H locs ls w hl; exfalso; omega
          | succ n185 ih185 =>
            intro k al cx g hk hal hcx hg hgp hm185 H locs ls w hl
            refine q_il M dL_list_185 (lv_at hl 11 rfl) ?_
            refine q_al M dL_list_187 (lv_at hl 6 rfl) ?_
            refine q_ic M dL_list_189 ?_
            refine q_iald (f := κ 8) M w 3 0 rfl rfl (by omega) dL_list_190 ?_
            refine q_top (y := ν 14 0) (by exact hL.2.2.2.1.1.1) ?_
            refine q_icmp_ge (tgt := 292) M dL_list_191 (by decide) (by omega) (fun c191 => ?_) (fun c191 => ?_)
            · refine q_il M dL_list_292 (lv_at hl 10 rfl) ?_
              refine q_if_eq (tgt := 306) M dL_list_294 (by decide) (by omega) (fun c294 => ?_) (fun c294 => ?_)
              · refine q_il M dL_list_306 (lv_at hl 10 rfl) ?_
                refine q_if_eq (tgt := 359) M dL_list_308 (by decide) (by omega) (fun c308 => ?_) (fun c308 => ?_)
                · have hnC : ¬ sC ν κ (ν 14 0) := by
                    rcases hcx with ⟨q, _⟩ | ⟨_, q⟩
                    · omega
                    · rw [show ν 14 0 = k by omega]; exact q
                  have hex : sq (chk (μ 23 0 = 0) eISE) (chk (0 < μ 22 0 ∧ ∀ i, 0 ≤ i → i < μ 22 0 → μ 13 (μ 18 i) ≠ 0) eISE) = some eISE := by
                    by_cases q : μ 23 0 = 0
                    · rw [chk_t q, chk_f (fun q2 => hnC ((sC_can hR hL).mpr ⟨q, q2⟩))]; rfl
                    · rw [chk_f q]; rfl
                  refine q_aln M dL_list_359 (lv_at hl 0 rfl) ?_
                  refine q_bp M dL_list_360 (by decide +kernel) ?_
                  refine q_ic M dL_list_362 ?_
                  refine q_ic M dL_list_363 ?_
                  refine q_ic M dL_list_364 ?_
                  refine q_ic M dL_list_365 ?_
                  refine qc_L (As := [.ref (a 0), .int (iI 8), .int (iI 0), .int (iI 0), .int (iI 0), .int (iI 0)]) (rest := []) (wc := WAll cI a μ) (wc2 := WAll cI a μ) (ws2 := WLlst cI o (mset κ 10 g) ++ WAll cI a μ) M w hA hT hl (c_start l hfl D cI cZ cJ a μ h23 hR.2.1.1 (Rel_IH hR) (Rel_IB hR) (fun hc => (Rel_start hR hc).2) 0 0 0 0 (-7) μ (Or.inr ⟨hex, rfl, rfl⟩)) gL_list_L_calls rfl ⟨by decide, by decide⟩ ⟨by show 0 + 5 ≤ 5; omega, by show 0 + 30 ≤ 30; omega⟩ 6 (by decide +kernel) rfl [false, false, false, false, false, false, true, true, true, true, true, true, true, true, true, true, true, true, true, true, true, true, true, true, true, true, true, true, true, true, true, true, true, true, true, true, true, true, true, true, true, true, true, true, true, true, true, true, true, true, true, true, true, true, true, true] rfl rfl rfl (Nat.le_of_ble_eq_true rfl) rfl dL_list_366 (fun H locs w => ?_)
                  refine q_il M dL_list_369 (lv_at hl 10 rfl) ?_
                  refine q_if_eq (tgt := 379) M dL_list_371 (by decide) (by omega) (fun c371 => ?_) (fun c371 => ?_)
                  · refine q_bp M dL_list_379 (by decide +kernel) ?_
                    refine q_icmp_neE (tgt := 388) (x := (-7)) (y := (-7)) M (by rfl) dL_list_381 (by decide) ?_
                    refine q_ic M dL_list_384 ?_
                    refine q_go (tgt := 389) M dL_list_385 (by decide) ?_
                    have hP9 : (1 : Int) = 1 ∧ ∃ ν2, Rel μ ν2 ∧ LR ν2 (mset (mset (mset (mset κ 7 (κ 7)) 8 (κ 8)) 9 (κ 9)) 10 g) := ⟨rfl, ν, hR, LR_l0 hL (fun _ _ => rfl) (fun _ => rfl) (fun _ => rfl) (fun z => hgp (by omega))⟩
                    exact kret _ _ _ _ _ (κ 7, κ 8, κ 9, g, μ) _ _ (by decide) (by decide) dL_list_389 w (hP9)
                  · exfalso; omega
                · exfalso; omega
              · have hC : sC ν κ (ν 14 0) := by
                  rcases hcx with ⟨_, q⟩ | ⟨q, _⟩
                  · rw [show ν 14 0 = k by omega]; exact q
                  · omega
                have eal : al = fsR ν (ν 14 0) := by rw [show ν 14 0 = k by omega]; exact hal.1
                have hg9 : sGr ν (ν 14 0) g := by rw [show ν 14 0 = k by omega]; exact hg
                have h810 := hC.1
                refine q_il M dL_list_297 (lv_at hl 9 rfl) ?_
                refine q_bp M dL_list_299 (by decide +kernel) ?_
                refine q_icmp_le (tgt := 306) M dL_list_301 (by decide) (by omega) (fun c301 => ?_) (fun c301 => ?_)
                · refine q_il M dL_list_306 (lv_at hl 10 rfl) ?_
                  refine q_if_eq (tgt := 359) M dL_list_308 (by decide) (by omega) (fun c308 => ?_) (fun c308 => ?_)
                  · exfalso; omega
                  · refine q_al M dL_list_311 (lv_at hl 6 rfl) ?_
                    refine q_ic M dL_list_313 ?_
                    refine q_il M dL_list_314 (lv_at hl 9 rfl) ?_
                    refine q_iast (f := κ 8) (ws2 := WLlst cI o (mset (mset κ 8 (iU (κ 8) 1 al)) 10 g) ++ WAll cI a μ) M w 3 0 rfl rfl (by omega) rfl dL_list_316 (fun H locs w => ?_)
                    refine q_al M dL_list_317 (lv_at hl 6 rfl) ?_
                    refine q_ic M dL_list_319 ?_
                    refine q_ic M dL_list_320 ?_
                    refine q_iast (f := iU (κ 8) 1 al) (ws2 := WLlst cI o (mset (mset κ 8 (iU (iU (κ 8) 1 al) 2 0)) 10 g) ++ WAll cI a μ) M w 3 0 rfl rfl (by omega) rfl dL_list_321 (fun H locs w => ?_)
                    refine q_al M dL_list_322 (lv_at hl 6 rfl) ?_
                    refine q_ic M dL_list_324 ?_
                    refine q_ic M dL_list_325 ?_
                    refine q_iast (f := iU (iU (κ 8) 1 al) 2 0) (ws2 := WLlst cI o (mset (mset κ 8 (iU (iU (iU (κ 8) 1 al) 2 0) 3 0)) 10 g) ++ WAll cI a μ) M w 3 0 rfl rfl (by omega) rfl dL_list_326 (fun H locs w => ?_)
                    refine q_al M dL_list_327 (lv_at hl 6 rfl) ?_
                    refine q_ic M dL_list_329 ?_
                    refine q_ic M dL_list_330 ?_
                    refine q_iast (f := iU (iU (iU (κ 8) 1 al) 2 0) 3 0) (ws2 := WLlst cI o (mset (mset κ 8 (iU (iU (iU (iU (κ 8) 1 al) 2 0) 3 0) 4 0)) 10 g) ++ WAll cI a μ) M w 3 0 rfl rfl (by omega) rfl dL_list_331 (fun H locs w => ?_)
                    refine q_al M dL_list_332 (lv_at hl 6 rfl) ?_
                    refine q_ic M dL_list_334 ?_
                    refine q_ic M dL_list_335 ?_
                    refine q_iast (f := iU (iU (iU (iU (κ 8) 1 al) 2 0) 3 0) 4 0) (ws2 := WLlst cI o (mset (mset κ 8 (iU (iU (iU (iU (iU (κ 8) 1 al) 2 0) 3 0) 4 0) 5 0)) 10 g) ++ WAll cI a μ) M w 3 0 rfl rfl (by omega) rfl dL_list_336 (fun H locs w => ?_)
                    refine q_ic M dL_list_337 ?_
                    refine q_is (lv' := [(11, .int (iI 0)), (0, .ref (a 0)), (1, .int (iI ac)), (2, .int (iI zz)), (3, .ref (o 6)), (4, .ref (o 7)), (5, .ref (o 4)), (6, .ref (o 8)), (7, .ref (o 9)), (8, .ref (o 10)), (9, .int (iI al)), (10, .int (iI cx))]) M dL_list_338 hl (by decide) rfl (fun ls hl => ?_)
                    have lp340 : ∀ (n340 : Nat) (x : Int) (m : Int → Int), (0 ≤ x ∧ x ≤ 8) → (∀ j, 0 ≤ j → j < x → m j = 0) → (8 - x : Int) < (n340 : Int) → ∀ (H : Heap) (locs : List Loc) (ls : Array Slot), wW D A zs.heap (WLlst cI o (mset (mset (mset κ 8 (iU (iU (iU (iU (iU (κ 8) 1 al) 2 0) 3 0) 4 0) 5 0)) 9 m) 10 g) ++ WAll cI a μ) H locs → lv_has ls 14 [(0, .ref (a 0)), (1, .int (iI ac)), (2, .int (iI zz)), (3, .ref (o 6)), (4, .ref (o 7)), (5, .ref (o 4)), (6, .ref (o 8)), (7, .ref (o 9)), (8, .ref (o 10)), (9, .int (iI al)), (10, .int (iI cx)), (11, .int (iI x))] → W zp l ze rmL_list zs zm zargs zbelow zmeth zc H locs 0 0 Q (F0 zm 340 ls []) := by
                      intro n340
                      induction n340 with
                      | zero => intro x m hx hm hm H locs ls w hl; exfalso; omega
                      | succ n340 ih340 =>
                        intro x m hx hm hm340 H locs ls w hl
                        refine q_il M dL_list_340 (lv_at hl 11 rfl) ?_
                        refine q_bp M dL_list_342 (by decide +kernel) ?_
                        refine q_icmp_ge (tgt := 359) M dL_list_344 (by decide) (by omega) (fun c344 => ?_) (fun c344 => ?_)
                        · have hst := (sC_can hR hL).mp hC
                          refine q_aln M dL_list_359 (lv_at hl 0 rfl) ?_
                          refine q_bp M dL_list_360 (by decide +kernel) ?_
                          refine q_ic M dL_list_362 ?_
                          refine q_ic M dL_list_363 ?_
                          refine q_ic M dL_list_364 ?_
                          refine q_ic M dL_list_365 ?_
                          refine qc_L (As := [.ref (a 0), .int (iI 8), .int (iI 0), .int (iI 0), .int (iI 0), .int (iI 0)]) (rest := []) (wc := WAll cI a μ) (wc2 := WAll cI a (enM (stM μ))) (ws2 := WLlst cI o (mset (mset (mset κ 8 (iU (iU (iU (iU (iU (κ 8) 1 al) 2 0) 3 0) 4 0) 5 0)) 9 m) 10 g) ++ WAll cI a (enM (stM μ))) M w hA hT hl (c_start l hfl D cI cZ cJ a μ h23 hR.2.1.1 (Rel_IH hR) (Rel_IB hR) (fun hc => (Rel_start hR hc).2) 0 0 0 0 (sI (fun j => μ 13 (μ 18 j)) (μ 22 0)) (enM (stM μ)) (Or.inl ⟨by rw [chk_t (show μ 23 0 = 0 from hst.1), chk_t (show 0 < μ 22 0 ∧ ∀ i, 0 ≤ i → i < μ 22 0 → μ 13 (μ 18 i) ≠ 0 from hst.2)]; rfl, rfl, rfl⟩)) gL_list_L_calls rfl ⟨by decide, by decide⟩ ⟨by show 0 + 5 ≤ 5; omega, by show 0 + 30 ≤ 30; omega⟩ 6 (by decide +kernel) rfl [false, false, false, false, false, false, true, true, true, true, true, true, true, true, true, true, true, true, true, true, true, true, true, true, true, true, true, true, true, true, true, true, true, true, true, true, true, true, true, true, true, true, true, true, true, true, true, true, true, true, true, true, true, true, true, true] rfl rfl rfl (Nat.le_of_ble_eq_true rfl) rfl dL_list_366 (fun H locs w => ?_)
                          refine q_il M dL_list_369 (lv_at hl 10 rfl) ?_
                          refine q_if_eq (tgt := 379) M dL_list_371 (by decide) (by omega) (fun c371 => ?_) (fun c371 => ?_)
                          · exfalso; omega
                          · refine q_il M dL_list_374 (lv_at hl 9 rfl) ?_
                            refine q_go (tgt := 381) M dL_list_376 (by decide) ?_
                            refine q_icmp_neE (tgt := 388) (x := sI (fun j => μ 13 (μ 18 j)) (μ 22 0)) (y := al) M (by rw [Rel_fs hR]; exact eal.symm) dL_list_381 (by decide) ?_
                            refine q_ic M dL_list_384 ?_
                            refine q_go (tgt := 389) M dL_list_385 (by decide) ?_
                            have q1 : (iU (iU (iU (iU (iU (κ 8) 1 al) 2 0) 3 0) 4 0) 5 0) 1 = fsR ν (ν 14 0) := (iU_n _ _ (by omega)).trans ((iU_n _ _ (by omega)).trans ((iU_n _ _ (by omega)).trans ((iU_n _ _ (by omega)).trans ((iU_s _ _ _).trans eal))))
                            have q2 : (iU (iU (iU (iU (iU (κ 8) 1 al) 2 0) 3 0) 4 0) 5 0) 2 = 0 ∧ (iU (iU (iU (iU (iU (κ 8) 1 al) 2 0) 3 0) 4 0) 5 0) 3 = 0 ∧ (iU (iU (iU (iU (iU (κ 8) 1 al) 2 0) 3 0) 4 0) 5 0) 4 = 0 ∧ (iU (iU (iU (iU (iU (κ 8) 1 al) 2 0) 3 0) 4 0) 5 0) 5 = 0 := ⟨(iU_n _ _ (by omega)).trans ((iU_n _ _ (by omega)).trans ((iU_n _ _ (by omega)).trans (iU_s _ _ _))), (iU_n _ _ (by omega)).trans ((iU_n _ _ (by omega)).trans (iU_s _ _ _)), (iU_n _ _ (by omega)).trans (iU_s _ _ _), iU_s _ _ _⟩
                            have q3 : ∀ j, j ≠ 1 → j ≠ 2 → j ≠ 3 → j ≠ 4 → j ≠ 5 → (iU (iU (iU (iU (iU (κ 8) 1 al) 2 0) 3 0) 4 0) 5 0) j = κ 8 j := fun j a1 a2 a3 a4 a5 => (iU_n _ _ a5).trans ((iU_n _ _ a4).trans ((iU_n _ _ a3).trans ((iU_n _ _ a2).trans (iU_n _ _ a1))))
                            have hP9 : (1 : Int) = 1 ∧ ∃ ν2, Rel (enM (stM μ)) ν2 ∧ LR ν2 (mset (mset (mset (mset κ 7 (κ 7)) 8 (iU (iU (iU (iU (iU (κ 8) 1 al) 2 0) 3 0) 4 0) 5 0)) 9 m) 10 g) := ⟨rfl, _, (Rel_start hR hst.2).1, LR_start hR hL hC (by omega) (fun _ => rfl) q1 q2 q3 (fun j a b => hm j a (by omega)) hg9⟩
                            exact kret _ _ _ _ _ (κ 7, iU (iU (iU (iU (iU (κ 8) 1 al) 2 0) 3 0) 4 0) 5 0, m, g, (enM (stM μ))) _ _ (by decide) (by decide) dL_list_389 w (hP9)
                        · refine q_al M dL_list_347 (lv_at hl 7 rfl) ?_
                          refine q_il M dL_list_349 (lv_at hl 11 rfl) ?_
                          refine q_ic M dL_list_351 ?_
                          refine q_iast (f := m) (ws2 := WLlst cI o (mset (mset (mset κ 8 (iU (iU (iU (iU (iU (κ 8) 1 al) 2 0) 3 0) 4 0) 5 0)) 9 (iU m x 0)) 10 g) ++ WAll cI a μ) M w 4 0 rfl rfl (by omega) rfl dL_list_352 (fun H locs w => ?_)
                          refine q_inc (z := x) (lv' := [(11, .int (iI (x + 1))), (0, .ref (a 0)), (1, .int (iI ac)), (2, .int (iI zz)), (3, .ref (o 6)), (4, .ref (o 7)), (5, .ref (o 4)), (6, .ref (o 8)), (7, .ref (o 9)), (8, .ref (o 10)), (9, .int (iI al)), (10, .int (iI cx))]) M dL_list_353 hl (k := 11) rfl (by decide) rfl (fun ls hl => ?_)
                          refine q_go (tgt := 340) M dL_list_356 (by decide) ?_
                          exact ih340 (x + 1) _ (by omega) (iU_fill hm) (by omega) _ _ _ w (lv_sub hl [1, 2, 3, 4, 5, 6, 7, 8, 9, 10, 11, 0] rfl)
                    exact lp340 9 0 (κ 9) (by omega) (fun j a b => absurd b (by omega)) (by omega) _ _ _ w (lv_sub hl [1, 2, 3, 4, 5, 6, 7, 8, 9, 10, 11, 0] rfl)
                · refine q_ic M dL_list_304 ?_
                  have hP9 : (1 : Int) = 1 ∧ ∃ ν2, Rel μ ν2 ∧ LR ν2 (mset (mset (mset (mset κ 7 (κ 7)) 8 (κ 8)) 9 (κ 9)) 10 g) := ⟨rfl, ν, hR, LR_l0 hL (fun _ _ => rfl) (fun _ => rfl) (fun _ => rfl) (fun z => hgp (by omega))⟩
                  exact kret _ _ _ _ _ (κ 7, κ 8, κ 9, g, μ) _ _ (by decide) (by decide) dL_list_305 w (hP9)
            · refine q_al M dL_list_194 (lv_at hl 6 rfl) ?_
              refine q_ic M dL_list_196 ?_
              refine q_iald (f := κ 8) M w 3 0 rfl rfl (by omega) dL_list_197 ?_
              refine q_if_ne (tgt := 292) M dL_list_198 (by decide) (by omega) (fun c198 => ?_) (fun c198 => ?_)
              · refine q_il M dL_list_292 (lv_at hl 10 rfl) ?_
                refine q_if_eq (tgt := 306) M dL_list_294 (by decide) (by omega) (fun c294 => ?_) (fun c294 => ?_)
                · refine q_il M dL_list_306 (lv_at hl 10 rfl) ?_
                  refine q_if_eq (tgt := 359) M dL_list_308 (by decide) (by omega) (fun c308 => ?_) (fun c308 => ?_)
                  · have hnC : ¬ sC ν κ (ν 14 0) := by
                      intro q; have := q.1; omega
                    have hex : sq (chk (μ 23 0 = 0) eISE) (chk (0 < μ 22 0 ∧ ∀ i, 0 ≤ i → i < μ 22 0 → μ 13 (μ 18 i) ≠ 0) eISE) = some eISE := by
                      by_cases q : μ 23 0 = 0
                      · rw [chk_t q, chk_f (fun q2 => hnC ((sC_can hR hL).mpr ⟨q, q2⟩))]; rfl
                      · rw [chk_f q]; rfl
                    refine q_aln M dL_list_359 (lv_at hl 0 rfl) ?_
                    refine q_bp M dL_list_360 (by decide +kernel) ?_
                    refine q_ic M dL_list_362 ?_
                    refine q_ic M dL_list_363 ?_
                    refine q_ic M dL_list_364 ?_
                    refine q_ic M dL_list_365 ?_
                    refine qc_L (As := [.ref (a 0), .int (iI 8), .int (iI 0), .int (iI 0), .int (iI 0), .int (iI 0)]) (rest := []) (wc := WAll cI a μ) (wc2 := WAll cI a μ) (ws2 := WLlst cI o (mset κ 10 g) ++ WAll cI a μ) M w hA hT hl (c_start l hfl D cI cZ cJ a μ h23 hR.2.1.1 (Rel_IH hR) (Rel_IB hR) (fun hc => (Rel_start hR hc).2) 0 0 0 0 (-7) μ (Or.inr ⟨hex, rfl, rfl⟩)) gL_list_L_calls rfl ⟨by decide, by decide⟩ ⟨by show 0 + 5 ≤ 5; omega, by show 0 + 30 ≤ 30; omega⟩ 6 (by decide +kernel) rfl [false, false, false, false, false, false, true, true, true, true, true, true, true, true, true, true, true, true, true, true, true, true, true, true, true, true, true, true, true, true, true, true, true, true, true, true, true, true, true, true, true, true, true, true, true, true, true, true, true, true, true, true, true, true, true, true] rfl rfl rfl (Nat.le_of_ble_eq_true rfl) rfl dL_list_366 (fun H locs w => ?_)
                    refine q_il M dL_list_369 (lv_at hl 10 rfl) ?_
                    refine q_if_eq (tgt := 379) M dL_list_371 (by decide) (by omega) (fun c371 => ?_) (fun c371 => ?_)
                    · refine q_bp M dL_list_379 (by decide +kernel) ?_
                      refine q_icmp_neE (tgt := 388) (x := (-7)) (y := (-7)) M (by rfl) dL_list_381 (by decide) ?_
                      refine q_ic M dL_list_384 ?_
                      refine q_go (tgt := 389) M dL_list_385 (by decide) ?_
                      have hP9 : (1 : Int) = 1 ∧ ∃ ν2, Rel μ ν2 ∧ LR ν2 (mset (mset (mset (mset κ 7 (κ 7)) 8 (κ 8)) 9 (κ 9)) 10 g) := ⟨rfl, ν, hR, LR_l0 hL (fun _ _ => rfl) (fun _ => rfl) (fun _ => rfl) (fun z => hgp (by omega))⟩
                      exact kret _ _ _ _ _ (κ 7, κ 8, κ 9, g, μ) _ _ (by decide) (by decide) dL_list_389 w (hP9)
                    · exfalso; omega
                  · exfalso; omega
                · exfalso; rcases hcx with ⟨_, q⟩ | ⟨q, _⟩; (have := q.1; omega); omega
              · have h15 := hL.2.2.2.1.2 k (by omega) (by omega)
                refine q_al M dL_list_201 (lv_at hl 4 rfl) ?_
                refine q_ic M dL_list_203 ?_
                refine q_il M dL_list_204 (lv_at hl 11 rfl) ?_
                refine q_add M dL_list_206 ?_
                refine q_iald (f := κ 7) M w 2 0 rfl rfl (by omega) dL_list_207 ?_
                refine q_top (y := ν 15 k) (by exact (hL.2.2.2.1.2 k (by omega) (by omega)).1) ?_
                refine q_il M dL_list_208 (lv_at hl 9 rfl) ?_
                refine q_al M dL_list_210 (lv_at hl 8 rfl) ?_
                refine q_aln M dL_list_212 (lv_at hl 3 rfl) ?_
                refine q_al M dL_list_213 (lv_at hl 4 rfl) ?_
                refine q_al M dL_list_215 (lv_at hl 5 rfl) ?_
                refine qe_iS (As := [.int (iI (ν 15 k)), .int (iI al), .ref (o 10), .ref (o 6), .ref (o 7), .ref (o 4)]) (rest := []) (wc := WLlay cI o (o 10) κ g) (G := fun x217 => WLlst cI o (mset κ 10 x217) ++ WAll cI a μ) M w hA hl (k_lays l D cI cZ cJ o κ ν (ν 15 k) al (o 10) g (Rel_IP hR) (Rel_SD hR (by omega)) (by omega) (by omega) hL.2.2.1 (fun k a b => (hL.1.2.2 k a b).2)) gL_list_L_lays rfl ⟨rfl, rfl, by decide, by decide⟩ ⟨by show 0 ≤ 5; omega, by show 0 ≤ 30; omega⟩ 6 (by decide +kernel) rfl [true, true, true, false, false, true] rfl (fun _ => rfl) rfl (Nat.le_of_ble_eq_true rfl) (fun _ => rfl) dL_list_217 (fun z217 x217 h217 H locs w => ?_)
                obtain ⟨hz1, hz2, hz3⟩ := h217
                have hzb := lBs_bd (vw ν) (ν 15 k)
                rw [← hz1] at hz2
                refine q_is (lv' := [(12, .int (iI z217)), (0, .ref (a 0)), (1, .int (iI ac)), (2, .int (iI zz)), (3, .ref (o 6)), (4, .ref (o 7)), (5, .ref (o 4)), (6, .ref (o 8)), (7, .ref (o 9)), (8, .ref (o 10)), (9, .int (iI al)), (10, .int (iI cx)), (11, .int (iI k))]) M dL_list_220 hl (by decide) rfl (fun ls hl => ?_)
                refine q_il M dL_list_222 (lv_at hl 10 rfl) ?_
                refine q_is (lv' := [(13, .int (iI al)), (12, .int (iI z217)), (0, .ref (a 0)), (1, .int (iI ac)), (2, .int (iI zz)), (3, .ref (o 6)), (4, .ref (o 7)), (5, .ref (o 4)), (6, .ref (o 8)), (7, .ref (o 9)), (8, .ref (o 10)), (9, .int (iI al)), (10, .int (iI cx)), (11, .int (iI k))]) M dL_list_224 hl (by decide) rfl (fun ls hl => ?_)
                have lp226 : ∀ (n226 : Nat) (i : Int) (g2 : Int → Int), (al ≤ i ∧ i ≤ al + z217) → (∀ x, g2 x = if al ≤ x ∧ x < i then x217 x + 8 * k else x217 x) → (al + z217 - i : Int) < (n226 : Int) → ∀ (H : Heap) (locs : List Loc) (ls : Array Slot), wW D A zs.heap (WLlst cI o (mset κ 10 g2) ++ WAll cI a μ) H locs → lv_has ls 14 [(0, .ref (a 0)), (1, .int (iI ac)), (2, .int (iI zz)), (3, .ref (o 6)), (4, .ref (o 7)), (5, .ref (o 4)), (6, .ref (o 8)), (7, .ref (o 9)), (8, .ref (o 10)), (9, .int (iI al)), (10, .int (iI cx)), (11, .int (iI k)), (12, .int (iI z217)), (13, .int (iI i))] → W zp l ze rmL_list zs zm zargs zbelow zmeth zc H locs 0 0 Q (F0 zm 226 ls []) := by
                  intro n226
                  induction n226 with
                  | zero => intro i g2 hi hg2 hm H locs ls w hl; exfalso; omega
                  | succ n226 ih226 =>
                    intro i g2 hi hg2 hm226 H locs ls w hl
                    refine q_il M dL_list_226 (lv_at hl 13 rfl) ?_
                    refine q_il M dL_list_228 (lv_at hl 9 rfl) ?_
                    refine q_il M dL_list_230 (lv_at hl 12 rfl) ?_
                    refine q_add M dL_list_232 ?_
                    refine q_icmp_ge (tgt := 262) M dL_list_233 (by decide) (by omega) (fun c233 => ?_) (fun c233 => ?_)
                    · refine q_il M dL_list_262 (lv_at hl 10 rfl) ?_
                      refine q_if_eq (tgt := 276) M dL_list_264 (by decide) (by omega) (fun c264 => ?_) (fun c264 => ?_)
                      · refine q_ic M dL_list_276 ?_
                        refine q_is (lv' := [(10, .int (iI 0)), (0, .ref (a 0)), (1, .int (iI ac)), (2, .int (iI zz)), (3, .ref (o 6)), (4, .ref (o 7)), (5, .ref (o 4)), (6, .ref (o 8)), (7, .ref (o 9)), (8, .ref (o 10)), (9, .int (iI al)), (11, .int (iI k)), (12, .int (iI z217)), (13, .int (iI i))]) M dL_list_277 hl (by decide) rfl (fun ls hl => ?_)
                        refine q_il M dL_list_279 (lv_at hl 10 rfl) ?_
                        refine q_il M dL_list_281 (lv_at hl 12 rfl) ?_
                        refine q_add M dL_list_283 ?_
                        refine q_is (lv' := [(9, .int (iI (al + z217))), (10, .int (iI 0)), (0, .ref (a 0)), (1, .int (iI ac)), (2, .int (iI zz)), (3, .ref (o 6)), (4, .ref (o 7)), (5, .ref (o 4)), (6, .ref (o 8)), (7, .ref (o 9)), (8, .ref (o 10)), (11, .int (iI k)), (12, .int (iI z217)), (13, .int (iI i))]) M dL_list_284 hl (by decide) rfl (fun ls hl => ?_)
                        refine q_inc (z := k) (lv' := [(11, .int (iI (k + 1))), (9, .int (iI (al + z217))), (10, .int (iI 0)), (0, .ref (a 0)), (1, .int (iI ac)), (2, .int (iI zz)), (3, .ref (o 6)), (4, .ref (o 7)), (5, .ref (o 4)), (6, .ref (o 8)), (7, .ref (o 9)), (8, .ref (o 10)), (12, .int (iI z217)), (13, .int (iI i))]) M dL_list_286 hl (k := 11) rfl (by decide) rfl (fun ls hl => ?_)
                        refine q_go (tgt := 185) M dL_list_289 (by decide) ?_
                        exact ih185 (k + 1) (al + z217) 0 g2 (by omega) ⟨by rw [fsR_s ν hk.1, ← hal.1, ← hz1], by omega, by omega⟩ (Or.inr ⟨rfl, sC_f (by rcases hcx with ⟨q, _⟩ | ⟨_, q⟩; omega; exact q)⟩) (sGr_s hk.1 hg (by rw [← hal.1, ← hz1]; exact hz2) (by rw [← hal.1]; exact hz3) (by rw [← hal.1]; exact hg2) (by rw [← hal.1, ← hz1]; omega)) (fun z => absurd c198 z) (by omega) _ _ _ w (lv_sub hl [3, 4, 5, 6, 7, 8, 9, 10, 11, 1, 2, 0] rfl)
                      · refine q_il M dL_list_267 (lv_at hl 12 rfl) ?_
                        refine q_if_le (tgt := 276) M dL_list_269 (by decide) (by omega) (fun c269 => ?_) (fun c269 => ?_)
                        · refine q_ic M dL_list_276 ?_
                          refine q_is (lv' := [(10, .int (iI 0)), (0, .ref (a 0)), (1, .int (iI ac)), (2, .int (iI zz)), (3, .ref (o 6)), (4, .ref (o 7)), (5, .ref (o 4)), (6, .ref (o 8)), (7, .ref (o 9)), (8, .ref (o 10)), (9, .int (iI al)), (11, .int (iI k)), (12, .int (iI z217)), (13, .int (iI i))]) M dL_list_277 hl (by decide) rfl (fun ls hl => ?_)
                          refine q_il M dL_list_279 (lv_at hl 10 rfl) ?_
                          refine q_il M dL_list_281 (lv_at hl 12 rfl) ?_
                          refine q_add M dL_list_283 ?_
                          refine q_is (lv' := [(9, .int (iI (al + z217))), (10, .int (iI 0)), (0, .ref (a 0)), (1, .int (iI ac)), (2, .int (iI zz)), (3, .ref (o 6)), (4, .ref (o 7)), (5, .ref (o 4)), (6, .ref (o 8)), (7, .ref (o 9)), (8, .ref (o 10)), (11, .int (iI k)), (12, .int (iI z217)), (13, .int (iI i))]) M dL_list_284 hl (by decide) rfl (fun ls hl => ?_)
                          refine q_inc (z := k) (lv' := [(11, .int (iI (k + 1))), (9, .int (iI (al + z217))), (10, .int (iI 0)), (0, .ref (a 0)), (1, .int (iI ac)), (2, .int (iI zz)), (3, .ref (o 6)), (4, .ref (o 7)), (5, .ref (o 4)), (6, .ref (o 8)), (7, .ref (o 9)), (8, .ref (o 10)), (12, .int (iI z217)), (13, .int (iI i))]) M dL_list_286 hl (k := 11) rfl (by decide) rfl (fun ls hl => ?_)
                          refine q_go (tgt := 185) M dL_list_289 (by decide) ?_
                          exact ih185 (k + 1) (al + z217) 0 g2 (by omega) ⟨by rw [fsR_s ν hk.1, ← hal.1, ← hz1], by omega, by omega⟩ (Or.inr ⟨rfl, sC_g (by omega) (by omega)⟩) (sGr_s hk.1 hg (by rw [← hal.1, ← hz1]; exact hz2) (by rw [← hal.1]; exact hz3) (by rw [← hal.1]; exact hg2) (by rw [← hal.1, ← hz1]; omega)) (fun z => absurd c198 z) (by omega) _ _ _ w (lv_sub hl [3, 4, 5, 6, 7, 8, 9, 10, 11, 1, 2, 0] rfl)
                        · refine q_ic M dL_list_272 ?_
                          refine q_go (tgt := 277) M dL_list_273 (by decide) ?_
                          refine q_is (lv' := [(10, .int (iI 1)), (0, .ref (a 0)), (1, .int (iI ac)), (2, .int (iI zz)), (3, .ref (o 6)), (4, .ref (o 7)), (5, .ref (o 4)), (6, .ref (o 8)), (7, .ref (o 9)), (8, .ref (o 10)), (9, .int (iI al)), (11, .int (iI k)), (12, .int (iI z217)), (13, .int (iI i))]) M dL_list_277 hl (by decide) rfl (fun ls hl => ?_)
                          refine q_il M dL_list_279 (lv_at hl 10 rfl) ?_
                          refine q_il M dL_list_281 (lv_at hl 12 rfl) ?_
                          refine q_add M dL_list_283 ?_
                          refine q_is (lv' := [(9, .int (iI (al + z217))), (10, .int (iI 1)), (0, .ref (a 0)), (1, .int (iI ac)), (2, .int (iI zz)), (3, .ref (o 6)), (4, .ref (o 7)), (5, .ref (o 4)), (6, .ref (o 8)), (7, .ref (o 9)), (8, .ref (o 10)), (11, .int (iI k)), (12, .int (iI z217)), (13, .int (iI i))]) M dL_list_284 hl (by decide) rfl (fun ls hl => ?_)
                          refine q_inc (z := k) (lv' := [(11, .int (iI (k + 1))), (9, .int (iI (al + z217))), (10, .int (iI 1)), (0, .ref (a 0)), (1, .int (iI ac)), (2, .int (iI zz)), (3, .ref (o 6)), (4, .ref (o 7)), (5, .ref (o 4)), (6, .ref (o 8)), (7, .ref (o 9)), (8, .ref (o 10)), (12, .int (iI z217)), (13, .int (iI i))]) M dL_list_286 hl (k := 11) rfl (by decide) rfl (fun ls hl => ?_)
                          refine q_go (tgt := 185) M dL_list_289 (by decide) ?_
                          exact ih185 (k + 1) (al + z217) 1 g2 (by omega) ⟨by rw [fsR_s ν hk.1, ← hal.1, ← hz1], by omega, by omega⟩ (Or.inl ⟨rfl, sC_s (by rcases hcx with ⟨_, q⟩ | ⟨q, _⟩; exact q; omega) (by omega)⟩) (sGr_s hk.1 hg (by rw [← hal.1, ← hz1]; exact hz2) (by rw [← hal.1]; exact hz3) (by rw [← hal.1]; exact hg2) (by rw [← hal.1, ← hz1]; omega)) (fun z => absurd c198 z) (by omega) _ _ _ w (lv_sub hl [3, 4, 5, 6, 7, 8, 9, 10, 11, 1, 2, 0] rfl)
                    · refine q_il M dL_list_236 (lv_at hl 13 rfl) ?_
                      refine q_bp M dL_list_238 (by decide +kernel) ?_
                      refine q_icmp_ge (tgt := 262) M dL_list_240 (by decide) (by omega) (fun c240 => ?_) (fun c240 => ?_)
                      · refine q_il M dL_list_262 (lv_at hl 10 rfl) ?_
                        refine q_if_eq (tgt := 276) M dL_list_264 (by decide) (by omega) (fun c264 => ?_) (fun c264 => ?_)
                        · refine q_ic M dL_list_276 ?_
                          refine q_is (lv' := [(10, .int (iI 0)), (0, .ref (a 0)), (1, .int (iI ac)), (2, .int (iI zz)), (3, .ref (o 6)), (4, .ref (o 7)), (5, .ref (o 4)), (6, .ref (o 8)), (7, .ref (o 9)), (8, .ref (o 10)), (9, .int (iI al)), (11, .int (iI k)), (12, .int (iI z217)), (13, .int (iI i))]) M dL_list_277 hl (by decide) rfl (fun ls hl => ?_)
                          refine q_il M dL_list_279 (lv_at hl 10 rfl) ?_
                          refine q_il M dL_list_281 (lv_at hl 12 rfl) ?_
                          refine q_add M dL_list_283 ?_
                          refine q_is (lv' := [(9, .int (iI (al + z217))), (10, .int (iI 0)), (0, .ref (a 0)), (1, .int (iI ac)), (2, .int (iI zz)), (3, .ref (o 6)), (4, .ref (o 7)), (5, .ref (o 4)), (6, .ref (o 8)), (7, .ref (o 9)), (8, .ref (o 10)), (11, .int (iI k)), (12, .int (iI z217)), (13, .int (iI i))]) M dL_list_284 hl (by decide) rfl (fun ls hl => ?_)
                          refine q_inc (z := k) (lv' := [(11, .int (iI (k + 1))), (9, .int (iI (al + z217))), (10, .int (iI 0)), (0, .ref (a 0)), (1, .int (iI ac)), (2, .int (iI zz)), (3, .ref (o 6)), (4, .ref (o 7)), (5, .ref (o 4)), (6, .ref (o 8)), (7, .ref (o 9)), (8, .ref (o 10)), (12, .int (iI z217)), (13, .int (iI i))]) M dL_list_286 hl (k := 11) rfl (by decide) rfl (fun ls hl => ?_)
                          refine q_go (tgt := 185) M dL_list_289 (by decide) ?_
                          exact ih185 (k + 1) (al + z217) 0 g2 (by omega) ⟨by rw [fsR_s ν hk.1, ← hal.1, ← hz1], by omega, by omega⟩ (Or.inr ⟨rfl, sC_f (by rcases hcx with ⟨q, _⟩ | ⟨_, q⟩; omega; exact q)⟩) (sGr_s hk.1 hg (by rw [← hal.1, ← hz1]; exact hz2) (by rw [← hal.1]; exact hz3) (by rw [← hal.1]; exact hg2) (by rw [← hal.1, ← hz1]; omega)) (fun z => absurd c198 z) (by omega) _ _ _ w (lv_sub hl [3, 4, 5, 6, 7, 8, 9, 10, 11, 1, 2, 0] rfl)
                        · refine q_il M dL_list_267 (lv_at hl 12 rfl) ?_
                          refine q_if_le (tgt := 276) M dL_list_269 (by decide) (by omega) (fun c269 => ?_) (fun c269 => ?_)
                          · refine q_ic M dL_list_276 ?_
                            refine q_is (lv' := [(10, .int (iI 0)), (0, .ref (a 0)), (1, .int (iI ac)), (2, .int (iI zz)), (3, .ref (o 6)), (4, .ref (o 7)), (5, .ref (o 4)), (6, .ref (o 8)), (7, .ref (o 9)), (8, .ref (o 10)), (9, .int (iI al)), (11, .int (iI k)), (12, .int (iI z217)), (13, .int (iI i))]) M dL_list_277 hl (by decide) rfl (fun ls hl => ?_)
                            refine q_il M dL_list_279 (lv_at hl 10 rfl) ?_
                            refine q_il M dL_list_281 (lv_at hl 12 rfl) ?_
                            refine q_add M dL_list_283 ?_
                            refine q_is (lv' := [(9, .int (iI (al + z217))), (10, .int (iI 0)), (0, .ref (a 0)), (1, .int (iI ac)), (2, .int (iI zz)), (3, .ref (o 6)), (4, .ref (o 7)), (5, .ref (o 4)), (6, .ref (o 8)), (7, .ref (o 9)), (8, .ref (o 10)), (11, .int (iI k)), (12, .int (iI z217)), (13, .int (iI i))]) M dL_list_284 hl (by decide) rfl (fun ls hl => ?_)
                            refine q_inc (z := k) (lv' := [(11, .int (iI (k + 1))), (9, .int (iI (al + z217))), (10, .int (iI 0)), (0, .ref (a 0)), (1, .int (iI ac)), (2, .int (iI zz)), (3, .ref (o 6)), (4, .ref (o 7)), (5, .ref (o 4)), (6, .ref (o 8)), (7, .ref (o 9)), (8, .ref (o 10)), (12, .int (iI z217)), (13, .int (iI i))]) M dL_list_286 hl (k := 11) rfl (by decide) rfl (fun ls hl => ?_)
                            refine q_go (tgt := 185) M dL_list_289 (by decide) ?_
                            exact ih185 (k + 1) (al + z217) 0 g2 (by omega) ⟨by rw [fsR_s ν hk.1, ← hal.1, ← hz1], by omega, by omega⟩ (Or.inr ⟨rfl, sC_g (by omega) (by omega)⟩) (sGr_s hk.1 hg (by rw [← hal.1, ← hz1]; exact hz2) (by rw [← hal.1]; exact hz3) (by rw [← hal.1]; exact hg2) (by rw [← hal.1, ← hz1]; omega)) (fun z => absurd c198 z) (by omega) _ _ _ w (lv_sub hl [3, 4, 5, 6, 7, 8, 9, 10, 11, 1, 2, 0] rfl)
                          · refine q_ic M dL_list_272 ?_
                            refine q_go (tgt := 277) M dL_list_273 (by decide) ?_
                            refine q_is (lv' := [(10, .int (iI 1)), (0, .ref (a 0)), (1, .int (iI ac)), (2, .int (iI zz)), (3, .ref (o 6)), (4, .ref (o 7)), (5, .ref (o 4)), (6, .ref (o 8)), (7, .ref (o 9)), (8, .ref (o 10)), (9, .int (iI al)), (11, .int (iI k)), (12, .int (iI z217)), (13, .int (iI i))]) M dL_list_277 hl (by decide) rfl (fun ls hl => ?_)
                            refine q_il M dL_list_279 (lv_at hl 10 rfl) ?_
                            refine q_il M dL_list_281 (lv_at hl 12 rfl) ?_
                            refine q_add M dL_list_283 ?_
                            refine q_is (lv' := [(9, .int (iI (al + z217))), (10, .int (iI 1)), (0, .ref (a 0)), (1, .int (iI ac)), (2, .int (iI zz)), (3, .ref (o 6)), (4, .ref (o 7)), (5, .ref (o 4)), (6, .ref (o 8)), (7, .ref (o 9)), (8, .ref (o 10)), (11, .int (iI k)), (12, .int (iI z217)), (13, .int (iI i))]) M dL_list_284 hl (by decide) rfl (fun ls hl => ?_)
                            refine q_inc (z := k) (lv' := [(11, .int (iI (k + 1))), (9, .int (iI (al + z217))), (10, .int (iI 1)), (0, .ref (a 0)), (1, .int (iI ac)), (2, .int (iI zz)), (3, .ref (o 6)), (4, .ref (o 7)), (5, .ref (o 4)), (6, .ref (o 8)), (7, .ref (o 9)), (8, .ref (o 10)), (12, .int (iI z217)), (13, .int (iI i))]) M dL_list_286 hl (k := 11) rfl (by decide) rfl (fun ls hl => ?_)
                            refine q_go (tgt := 185) M dL_list_289 (by decide) ?_
                            exact ih185 (k + 1) (al + z217) 1 g2 (by omega) ⟨by rw [fsR_s ν hk.1, ← hal.1, ← hz1], by omega, by omega⟩ (Or.inl ⟨rfl, sC_s (by rcases hcx with ⟨_, q⟩ | ⟨q, _⟩; exact q; omega) (by omega)⟩) (sGr_s hk.1 hg (by rw [← hal.1, ← hz1]; exact hz2) (by rw [← hal.1]; exact hz3) (by rw [← hal.1]; exact hg2) (by rw [← hal.1, ← hz1]; omega)) (fun z => absurd c198 z) (by omega) _ _ _ w (lv_sub hl [3, 4, 5, 6, 7, 8, 9, 10, 11, 1, 2, 0] rfl)
                      · refine q_al M dL_list_243 (lv_at hl 8 rfl) ?_
                        refine q_il M dL_list_245 (lv_at hl 13 rfl) ?_
                        refine q_dup2 M dL_list_247 rfl rfl ?_
                        refine q_iald (f := g2) M w 5 0 rfl rfl (by omega) dL_list_248 ?_
                        refine q_bp M dL_list_249 (by decide +kernel) ?_
                        refine q_il M dL_list_251 (lv_at hl 11 rfl) ?_
                        refine q_mul M dL_list_253 ?_
                        refine q_add M dL_list_254 ?_
                        refine q_iast (f := g2) (ws2 := WLlst cI o (mset κ 10 (iU g2 i ((g2 i) + (8 * k)))) ++ WAll cI a μ) M w 5 0 rfl rfl (by omega) rfl dL_list_255 (fun H locs w => ?_)
                        refine q_inc (z := i) (lv' := [(13, .int (iI (i + 1))), (0, .ref (a 0)), (1, .int (iI ac)), (2, .int (iI zz)), (3, .ref (o 6)), (4, .ref (o 7)), (5, .ref (o 4)), (6, .ref (o 8)), (7, .ref (o 9)), (8, .ref (o 10)), (9, .int (iI al)), (10, .int (iI cx)), (11, .int (iI k)), (12, .int (iI z217))]) M dL_list_256 hl (k := 13) rfl (by decide) rfl (fun ls hl => ?_)
                        refine q_go (tgt := 226) M dL_list_259 (by decide) ?_
                        exact ih226 (i + 1) _ (by omega) (ad_s hi.1 hg2) (by omega) _ _ _ w (lv_sub hl [1, 2, 3, 4, 5, 6, 7, 8, 9, 10, 11, 12, 13, 0] rfl)
                exact lp226 66 al x217 (by omega) (fun x => by rw [if_neg (by omega)]) (by omega) _ _ _ w (lv_sub hl [2, 3, 4, 5, 6, 7, 8, 9, 10, 11, 12, 13, 1, 0] rfl)
        exact lp185 5 0 0 cw (κ 10) (by omega) ⟨(sI_0 _).symm, by omega, by omega⟩ (by rcases hcw with ⟨q1, q2, q3⟩ | ⟨q1, q2⟩; exact Or.inl ⟨q1, q2, q3, fun j a b => absurd b (by omega)⟩; exact Or.inr ⟨q1, fun q => q2 ⟨q.1, q.2.1⟩⟩) (fun _ _ j b a1 a2 => absurd a2 (by omega)) (fun _ _ => rfl) (by omega) _ _ _ w (lv_sub hl [3, 4, 5, 6, 7, 8, 9, 10, 11, 2, 1, 0] rfl)
      refine q_if_ne (tgt := 179) M dL_list_165 (by decide) (by omega) (fun c165 => ?_) (fun c165 => ?_)
      · refine q_ic M dL_list_179 ?_
        exact jn165 0 _ _ _ (by omega) w (lv_sub hl [0, 1, 2, 3, 4, 5, 6, 7, 8, 9] rfl)
      · refine q_al M dL_list_168 (lv_at hl 7 rfl) ?_
        refine q_ic M dL_list_170 ?_
        refine q_iald (f := κ 8) M w 3 0 rfl rfl (by omega) dL_list_171 ?_
        refine q_top (y := ν 14 0) (by exact hL.2.2.2.1.1.1) ?_
        refine q_if_le (tgt := 179) M dL_list_172 (by decide) (by omega) (fun c172 => ?_) (fun c172 => ?_)
        · refine q_ic M dL_list_179 ?_
          exact jn165 0 _ _ _ (by omega) w (lv_sub hl [0, 1, 2, 3, 4, 5, 6, 7, 8, 9] rfl)
        · refine q_ic M dL_list_175 ?_
          refine q_go (tgt := 180) M dL_list_176 (by decide) ?_
          exact jn165 1 _ _ _ (by omega) w (lv_sub hl [0, 1, 2, 3, 4, 5, 6, 7, 8, 9] rfl)
    · refine q_al M dL_list_102 (lv_at hl 6 rfl) ?_
      refine q_ic M dL_list_104 ?_
      refine q_iald (f := κ 8) M w 3 0 rfl rfl (by omega) dL_list_105 ?_
      refine q_if_le (tgt := 114) M dL_list_106 (by decide) (by omega) (fun c106 => ?_) (fun c106 => ?_)
      · refine q_al M dL_list_114 (lv_at hl 6 rfl) ?_
        refine q_ic M dL_list_116 ?_
        refine q_iald (f := κ 8) M w 3 0 rfl rfl (by omega) dL_list_117 ?_
        refine q_top (y := ν 14 0) (by exact hL.2.2.2.1.1.1) ?_
        refine q_is (lv' := [(9, .int (iI (ν 14 0))), (0, .ref (a 0)), (1, .int (iI ac)), (2, .int (iI zz)), (3, .ref (o 6)), (4, .ref (o 7)), (5, .ref (o 4)), (6, .ref (o 8)), (7, .ref (o 9)), (8, .ref (o 10))]) M dL_list_118 hl (by decide) rfl (fun ls hl => ?_)
        refine q_al M dL_list_120 (lv_at hl 7 rfl) ?_
        refine q_ic M dL_list_122 ?_
        refine q_il M dL_list_123 (lv_at hl 0 rfl) ?_
        refine q_if_ge (tgt := 135) M dL_list_125 (by decide) (by omega) (fun c125 => ?_) (fun c125 => ?_)
        · refine q_ic M dL_list_135 ?_
          refine q_iast (f := κ 8) (ws2 := WLlst cI o (mset κ 8 (iU (κ 8) 0 0)) ++ WAll cI a μ) M w 3 0 rfl rfl (by omega) rfl dL_list_136 (fun H locs w => ?_)
          refine q_aln M dL_list_137 (lv_at hl 1 rfl) ?_
          refine q_bp M dL_list_138 (by decide +kernel) ?_
          refine q_ic M dL_list_140 ?_
          refine q_ic M dL_list_141 ?_
          refine q_ic M dL_list_142 ?_
          refine q_ic M dL_list_143 ?_
          refine qc_L (As := [.ref (a 0), .int (iI 7), .int (iI 0), .int (iI 0), .int (iI 0), .int (iI 0)]) (rest := []) (wc := WAll cI a μ) (wc2 := WAll cI a (mset μ 22 (fun _ => 0))) (ws2 := WLlst cI o (mset κ 8 (iU (κ 8) 0 0)) ++ WAll cI a (mset μ 22 (fun _ => 0))) M w hA hT hl (c_clearSet l hfl D cI cZ cJ a μ h23 0 0 0 0 (μ 22 0) (mset μ 22 (fun _ => 0)) (Or.inl ⟨by rw [chk_t (show μ 23 0 = 0 from by omega)], rfl, rfl⟩)) gL_list_L_calls rfl ⟨by decide, by decide⟩ ⟨by show 0 + 5 ≤ 5; omega, by show 0 + 30 ≤ 30; omega⟩ 6 (by decide +kernel) rfl [false, false, false, false, false, false, true, true, true, true, true, true, true, true, true, true, true, true, true, true, true, true, true, true, true, true, true, true, true, true, true, true, true, true, true, true, true, true, true, true, true, true, true, true, true, true, true, true, true, true, true, true, true, true, true, true] rfl rfl rfl (Nat.le_of_ble_eq_true rfl) rfl dL_list_144 (fun H locs w => ?_)
          refine q_il M dL_list_147 (lv_at hl 0 rfl) ?_
          refine q_icmp_neE (tgt := 156) (x := μ 22 0) (y := ν 14 0) M (by omega) dL_list_149 (by decide) ?_
          refine q_ic M dL_list_152 ?_
          refine q_go (tgt := 157) M dL_list_153 (by decide) ?_
          have hP9 : (1 : Int) = 1 ∧ ∃ ν2, Rel (mset μ 22 (fun _ => 0)) ν2 ∧ LR ν2 (mset (mset (mset (mset κ 7 (κ 7)) 8 (iU (κ 8) 0 0)) 9 (κ 9)) 10 (κ 10)) := ⟨rfl, _, Rel_clearSet hR (by omega), LR_cs hL (by omega) (fun _ => rfl) (fun _ => rfl) (fun _ => rfl)⟩
          exact kret _ _ _ _ _ (κ 7, iU (κ 8) 0 0, κ 9, κ 10, (mset μ 22 (fun _ => 0))) _ _ (by decide) (by decide) dL_list_157 w (hP9)
        · exfalso; omega
      · refine q_bp M dL_list_109 (by decide +kernel) ?_
        refine q_go (tgt := 118) M dL_list_111 (by decide) ?_
        refine q_is (lv' := [(9, .int (iI (-7))), (0, .ref (a 0)), (1, .int (iI ac)), (2, .int (iI zz)), (3, .ref (o 6)), (4, .ref (o 7)), (5, .ref (o 4)), (6, .ref (o 8)), (7, .ref (o 9)), (8, .ref (o 10))]) M dL_list_118 hl (by decide) rfl (fun ls hl => ?_)
        refine q_al M dL_list_120 (lv_at hl 7 rfl) ?_
        refine q_ic M dL_list_122 ?_
        refine q_il M dL_list_123 (lv_at hl 0 rfl) ?_
        refine q_if_ge (tgt := 135) M dL_list_125 (by decide) (by omega) (fun c125 => ?_) (fun c125 => ?_)
        · exfalso; omega
        · refine q_al M dL_list_128 (lv_at hl 7 rfl) ?_
          refine q_ic M dL_list_130 ?_
          refine q_iald (f := κ 8) M w 3 0 rfl rfl (by omega) dL_list_131 ?_
          refine q_top (y := ν 14 0) (by exact hL.2.2.2.1.1.1) ?_
          refine q_go (tgt := 136) M dL_list_132 (by decide) ?_
          refine q_iast (f := κ 8) (ws2 := WLlst cI o (mset κ 8 (iU (κ 8) 0 (ν 14 0))) ++ WAll cI a μ) M w 3 0 rfl rfl (by omega) rfl dL_list_136 (fun H locs w => ?_)
          refine q_aln M dL_list_137 (lv_at hl 1 rfl) ?_
          refine q_bp M dL_list_138 (by decide +kernel) ?_
          refine q_ic M dL_list_140 ?_
          refine q_ic M dL_list_141 ?_
          refine q_ic M dL_list_142 ?_
          refine q_ic M dL_list_143 ?_
          refine qc_L (As := [.ref (a 0), .int (iI 7), .int (iI 0), .int (iI 0), .int (iI 0), .int (iI 0)]) (rest := []) (wc := WAll cI a μ) (wc2 := WAll cI a μ) (ws2 := WLlst cI o (mset κ 8 (iU (κ 8) 0 (ν 14 0))) ++ WAll cI a μ) M w hA hT hl (c_clearSet l hfl D cI cZ cJ a μ h23 0 0 0 0 (-7) μ (Or.inr ⟨by rw [chk_f (show ¬ (μ 23 0 = 0) from by omega)], rfl, rfl⟩)) gL_list_L_calls rfl ⟨by decide, by decide⟩ ⟨by show 0 + 5 ≤ 5; omega, by show 0 + 30 ≤ 30; omega⟩ 6 (by decide +kernel) rfl [false, false, false, false, false, false, true, true, true, true, true, true, true, true, true, true, true, true, true, true, true, true, true, true, true, true, true, true, true, true, true, true, true, true, true, true, true, true, true, true, true, true, true, true, true, true, true, true, true, true, true, true, true, true, true, true] rfl rfl rfl (Nat.le_of_ble_eq_true rfl) rfl dL_list_144 (fun H locs w => ?_)
          refine q_il M dL_list_147 (lv_at hl 0 rfl) ?_
          refine q_icmp_neE (tgt := 156) (x := (-7)) (y := (-7)) M (by rfl) dL_list_149 (by decide) ?_
          refine q_ic M dL_list_152 ?_
          refine q_go (tgt := 157) M dL_list_153 (by decide) ?_
          have hP9 : (1 : Int) = 1 ∧ ∃ ν2, Rel μ ν2 ∧ LR ν2 (mset (mset (mset (mset κ 7 (κ 7)) 8 (iU (κ 8) 0 (ν 14 0))) 9 (κ 9)) 10 (κ 10)) := ⟨rfl, ν, hR, LR_l0 hL (fun _ _ => rfl) (fun j => by rw [show ν 14 0 = κ 8 0 from hL.2.2.2.1.1.1.symm, iU_self]) (fun _ => rfl) (fun _ _ => rfl)⟩
          exact kret _ _ _ _ _ (κ 7, iU (κ 8) 0 (ν 14 0), κ 9, κ 10, μ) _ _ (by decide) (by decide) dL_list_157 w (hP9)
  · refine q_iln M dL_list_4 (lv_at hl 2 rfl) ?_
    refine q_ic M dL_list_5 ?_
    refine qe_iS (As := [.int (iI zz), .int (iI 3)]) (rest := []) (wc := []) (G := fun x6 => WLlst cI o κ ++ WAll cI a μ) M w hA hl (k_low l D cI cZ cJ zz 3 (by omega)) gL_list_L_low rfl ⟨rfl, rfl, by decide, by decide⟩ ⟨by show 0 ≤ 5; omega, by show 0 ≤ 30; omega⟩ 2 (by decide +kernel) rfl [] rfl (fun _ => rfl) rfl (Nat.le_of_ble_eq_true rfl) (fun _ => rfl) dL_list_6 (fun z6 x6 h6 H locs w => ?_)
    refine q_is (lv' := [(9, .int (iI z6)), (0, .ref (a 0)), (1, .int (iI ac)), (2, .int (iI zz)), (3, .ref (o 6)), (4, .ref (o 7)), (5, .ref (o 4)), (6, .ref (o 8)), (7, .ref (o 9)), (8, .ref (o 10))]) M dL_list_9 hl (by decide) rfl (fun ls hl => ?_)
    refine q_al M dL_list_11 (lv_at hl 7 rfl) ?_
    refine q_ic M dL_list_13 ?_
    refine q_iald (f := κ 8) M w 3 0 rfl rfl (by omega) dL_list_14 ?_
    refine q_top (y := ν 14 0) (by exact hL.2.2.2.1.1.1) ?_
    refine q_ic M dL_list_15 ?_
    refine q_icmp_ne (tgt := 21) M dL_list_16 (by decide) (by omega) (fun c16 => ?_) (fun c16 => ?_)
    · refine q_al M dL_list_21 (lv_at hl 7 rfl) ?_
      refine q_ic M dL_list_23 ?_
      refine q_iald (f := κ 8) M w 3 0 rfl rfl (by omega) dL_list_24 ?_
      have jn25 : ∀ (cv : Int) (H : Heap) (locs : List Loc) (ls : Array Slot), (cv = 1 ∧ κ 8 1 = 0 ∨ cv = 0 ∧ κ 8 1 ≠ 0) → wW D A zs.heap (WLlst cI o κ ++ WAll cI a μ) H locs → lv_has ls 14 [(9, .int (iI z6)), (0, .ref (a 0)), (1, .int (iI ac)), (2, .int (iI zz)), (3, .ref (o 6)), (4, .ref (o 7)), (5, .ref (o 4)), (6, .ref (o 8)), (7, .ref (o 9)), (8, .ref (o 10))] → W zp l ze rmL_list zs zm zargs zbelow zmeth zc H locs 0 0 Q (F0 zm 33 ls [.int (iI cv)]) := by
        intro cv H locs ls hcv w hl
        refine q_is (lv' := [(10, .int (iI cv)), (9, .int (iI z6)), (0, .ref (a 0)), (1, .int (iI ac)), (2, .int (iI zz)), (3, .ref (o 6)), (4, .ref (o 7)), (5, .ref (o 4)), (6, .ref (o 8)), (7, .ref (o 9)), (8, .ref (o 10))]) M dL_list_33 hl (by decide) rfl (fun ls hl => ?_)
        refine q_al M dL_list_35 (lv_at hl 6 rfl) ?_
        refine q_ic M dL_list_37 ?_
        refine q_al M dL_list_38 (lv_at hl 8 rfl) ?_
        refine q_ic M dL_list_40 ?_
        refine q_iald (f := κ 8) M w 3 0 rfl rfl (by omega) dL_list_41 ?_
        refine q_top (y := ν 14 0) (by exact hL.2.2.2.1.1.1) ?_
        refine q_add M dL_list_42 ?_
        refine q_il M dL_list_43 (lv_at hl 1 rfl) ?_
        refine q_iast (f := κ 7) (ws2 := WLlst cI o (mset κ 7 (iU (κ 7) (3 + (ν 14 0)) z6)) ++ WAll cI a μ) M w 2 0 rfl rfl (by omega) rfl dL_list_45 (fun H locs w => ?_)
        refine q_al M dL_list_46 (lv_at hl 8 rfl) ?_
        refine q_ic M dL_list_48 ?_
        refine q_dup2 M dL_list_49 rfl rfl ?_
        refine q_iald (f := κ 8) M w 3 0 rfl rfl (by omega) dL_list_50 ?_
        refine q_top (y := ν 14 0) (by exact hL.2.2.2.1.1.1) ?_
        refine q_il M dL_list_51 (lv_at hl 0 rfl) ?_
        refine q_if_eq (tgt := 60) M dL_list_53 (by decide) (by omega) (fun c53 => ?_) (fun c53 => ?_)
        · refine q_ic M dL_list_60 ?_
          refine q_add M dL_list_61 ?_
          refine q_iast (f := κ 8) (ws2 := WLlst cI o (mset (mset κ 7 (iU (κ 7) (3 + (ν 14 0)) z6)) 8 (iU (κ 8) 0 ((ν 14 0) + 0))) ++ WAll cI a μ) M w 3 0 rfl rfl (by omega) rfl dL_list_62 (fun H locs w => ?_)
          refine q_aln M dL_list_63 (lv_at hl 2 rfl) ?_
          refine q_bp M dL_list_64 (by decide +kernel) ?_
          refine q_il M dL_list_66 (lv_at hl 1 rfl) ?_
          refine q_ic M dL_list_68 ?_
          refine q_ic M dL_list_69 ?_
          refine q_ic M dL_list_70 ?_
          refine qc_L (As := [.ref (a 0), .int (iI 6), .int (iI z6), .int (iI 0), .int (iI 0), .int (iI 0)]) (rest := []) (wc := WAll cI a μ) (wc2 := WAll cI a μ) (ws2 := WLlst cI o (mset (mset κ 7 (iU (κ 7) (3 + (ν 14 0)) z6)) 8 (iU (κ 8) 0 ((ν 14 0) + 0))) ++ WAll cI a μ) M w hA hT hl (c_addToSet l hfl D cI cZ cJ a μ z6 (by omega) h23 (by omega) 0 0 0 (-7) μ (Or.inr ⟨by rw [chk_t (show 0 ≤ z6 ∧ z6 ≤ 5 from by omega), chk_f (show ¬ (μ 23 0 = 0) from by omega)]; rfl, rfl, rfl⟩)) gL_list_L_calls rfl ⟨by decide, by decide⟩ ⟨by show 0 + 5 ≤ 5; omega, by show 0 + 30 ≤ 30; omega⟩ 6 (by decide +kernel) rfl [false, false, false, false, false, false, true, true, true, true, true, true, true, true, true, true, true, true, true, true, true, true, true, true, true, true, true, true, true, true, true, true, true, true, true, true, true, true, true, true, true, true, true, true, true, true, true, true, true, true, true, true, true, true, true, true] rfl rfl rfl (Nat.le_of_ble_eq_true rfl) rfl dL_list_71 (fun H locs w => ?_)
          refine q_il M dL_list_74 (lv_at hl 0 rfl) ?_
          refine q_if_eq (tgt := 86) M dL_list_76 (by decide) (by omega) (fun c76 => ?_) (fun c76 => ?_)
          · refine q_bp M dL_list_86 (by decide +kernel) ?_
            refine q_icmp_neE (tgt := 95) (x := (-7)) (y := (-7)) M (by rfl) dL_list_88 (by decide) ?_
            refine q_ic M dL_list_91 ?_
            refine q_go (tgt := 96) M dL_list_92 (by decide) ?_
            have hP9 : (1 : Int) = 1 ∧ ∃ ν2, Rel μ ν2 ∧ LR ν2 (mset (mset (mset (mset κ 7 (iU (κ 7) (3 + (ν 14 0)) z6)) 8 (iU (κ 8) 0 ((ν 14 0) + 0))) 9 (κ 9)) 10 (κ 10)) := ⟨rfl, ν, hR, LR_l0 hL (fun j b => iU_n _ _ (by omega)) (fun j => by rw [show ν 14 0 + 0 = κ 8 0 by have := hL.2.2.2.1.1.1; omega, iU_self]) (fun _ => rfl) (fun _ _ => rfl)⟩
            exact kret _ _ _ _ _ (iU (κ 7) (3 + (ν 14 0)) z6, iU (κ 8) 0 ((ν 14 0) + 0), κ 9, κ 10, μ) _ _ (by decide) (by decide) dL_list_96 w (hP9)
          · exfalso; omega
        · refine q_ic M dL_list_56 ?_
          refine q_go (tgt := 61) M dL_list_57 (by decide) ?_
          refine q_add M dL_list_61 ?_
          refine q_iast (f := κ 8) (ws2 := WLlst cI o (mset (mset κ 7 (iU (κ 7) (3 + (ν 14 0)) z6)) 8 (iU (κ 8) 0 ((ν 14 0) + 1))) ++ WAll cI a μ) M w 3 0 rfl rfl (by omega) rfl dL_list_62 (fun H locs w => ?_)
          refine q_aln M dL_list_63 (lv_at hl 2 rfl) ?_
          refine q_bp M dL_list_64 (by decide +kernel) ?_
          refine q_il M dL_list_66 (lv_at hl 1 rfl) ?_
          refine q_ic M dL_list_68 ?_
          refine q_ic M dL_list_69 ?_
          refine q_ic M dL_list_70 ?_
          refine qc_L (As := [.ref (a 0), .int (iI 6), .int (iI z6), .int (iI 0), .int (iI 0), .int (iI 0)]) (rest := []) (wc := WAll cI a μ) (wc2 := WAll cI a (mset (mset μ 18 (iU (μ 18) (μ 22 0) z6)) 22 (fun _ => μ 22 0 + 1))) (ws2 := WLlst cI o (mset (mset κ 7 (iU (κ 7) (3 + (ν 14 0)) z6)) 8 (iU (κ 8) 0 ((ν 14 0) + 1))) ++ WAll cI a (mset (mset μ 18 (iU (μ 18) (μ 22 0) z6)) 22 (fun _ => μ 22 0 + 1))) M w hA hT hl (c_addToSet l hfl D cI cZ cJ a μ z6 (by omega) h23 (by omega) 0 0 0 (μ 22 0 + 1) (mset (mset μ 18 (iU (μ 18) (μ 22 0) z6)) 22 (fun _ => μ 22 0 + 1)) (Or.inl ⟨by rw [chk_t (show 0 ≤ z6 ∧ z6 ≤ 5 from by omega), chk_t (show μ 23 0 = 0 from by omega), chk_t (show μ 22 0 < 8 from by omega)]; rfl, rfl, rfl⟩)) gL_list_L_calls rfl ⟨by decide, by decide⟩ ⟨by show 0 + 5 ≤ 5; omega, by show 0 + 30 ≤ 30; omega⟩ 6 (by decide +kernel) rfl [false, false, false, false, false, false, true, true, true, true, true, true, true, true, true, true, true, true, true, true, true, true, true, true, true, true, true, true, true, true, true, true, true, true, true, true, true, true, true, true, true, true, true, true, true, true, true, true, true, true, true, true, true, true, true, true] rfl rfl rfl (Nat.le_of_ble_eq_true rfl) rfl dL_list_71 (fun H locs w => ?_)
          refine q_il M dL_list_74 (lv_at hl 0 rfl) ?_
          refine q_if_eq (tgt := 86) M dL_list_76 (by decide) (by omega) (fun c76 => ?_) (fun c76 => ?_)
          · exfalso; omega
          · refine q_al M dL_list_79 (lv_at hl 8 rfl) ?_
            refine q_ic M dL_list_81 ?_
            refine q_iald (f := iU (κ 8) 0 ((ν 14 0) + 1)) M w 3 0 rfl rfl (by omega) dL_list_82 ?_
            refine q_top (y := ν 14 0 + 1) (by exact iU_s _ _ _) ?_
            refine q_go (tgt := 88) M dL_list_83 (by decide) ?_
            refine q_icmp_neE (tgt := 95) (x := μ 22 0 + 1) (y := ν 14 0 + 1) M (by omega) dL_list_88 (by decide) ?_
            refine q_ic M dL_list_91 ?_
            refine q_go (tgt := 96) M dL_list_92 (by decide) ?_
            have hP9 : (1 : Int) = 1 ∧ ∃ ν2, Rel (mset (mset μ 18 (iU (μ 18) (μ 22 0) z6)) 22 (fun _ => μ 22 0 + 1)) ν2 ∧ LR ν2 (mset (mset (mset (mset κ 7 (iU (κ 7) (3 + (ν 14 0)) z6)) 8 (iU (κ 8) 0 ((ν 14 0) + 1))) 9 (κ 9)) 10 (κ 10)) := ⟨rfl, _, Rel_addToSet hR (by omega) (by omega) (by omega), LR_as hL (by omega) (by omega) (by omega) (fun _ => rfl) (fun _ => rfl) (fun _ => rfl)⟩
            exact kret _ _ _ _ _ (iU (κ 7) (3 + (ν 14 0)) z6, iU (κ 8) 0 ((ν 14 0) + 1), κ 9, κ 10, (mset (mset μ 18 (iU (μ 18) (μ 22 0) z6)) 22 (fun _ => μ 22 0 + 1))) _ _ (by decide) (by decide) dL_list_96 w (hP9)
      refine q_if_ne (tgt := 32) M dL_list_25 (by decide) (by omega) (fun c25 => ?_) (fun c25 => ?_)
      · refine q_ic M dL_list_32 ?_
        exact jn25 0 _ _ _ (by omega) w (lv_sub hl [0, 1, 2, 3, 4, 5, 6, 7, 8, 9] rfl)
      · refine q_ic M dL_list_28 ?_
        refine q_go (tgt := 33) M dL_list_29 (by decide) ?_
        exact jn25 1 _ _ _ (by omega) w (lv_sub hl [0, 1, 2, 3, 4, 5, 6, 7, 8, 9] rfl)
    · refine q_ic M dL_list_19 ?_
      have hP9 : (1 : Int) = 1 ∧ ∃ ν2, Rel μ ν2 ∧ LR ν2 (mset (mset (mset (mset κ 7 (κ 7)) 8 (κ 8)) 9 (κ 9)) 10 (κ 10)) := ⟨rfl, ν, hR, LR_l0 hL (fun _ _ => rfl) (fun _ => rfl) (fun _ => rfl) (fun _ _ => rfl)⟩
      exact kret _ _ _ _ _ (κ 7, κ 8, κ 9, κ 10, μ) _ _ (by decide) (by decide) dL_list_20 w (hP9)
