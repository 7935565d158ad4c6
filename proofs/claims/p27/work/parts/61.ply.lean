/-! THE LAW'S ACTS: plays -/
theorem sg_a {μ ν : Nat → Int → Int} (h : Rel μ ν) (hp : μ 23 0 = 1) : ((0 ≤ ν 22 0 ∧ ν 22 0 < ν 14 0) ∧ ν 14 0 ≤ 8) ∧ (ν 18 (ν 22 0) ≤ ν 23 0 ∧ ν 23 0 < ν 18 (ν 22 0 + 1)) ∧ ν 18 (ν 22 0 + 1) ≤ ν 18 (ν 14 0) ∧ (∀ i j, 0 ≤ i → i < j → j ≤ ν 14 0 → ν 18 i < ν 18 j) ∧ 0 ≤ ν 18 (ν 22 0) := by
  have hI := Rel_IH h
  obtain ⟨⟨a1, a2, a3, a4, a5⟩, ⟨b1, b2, b3⟩, -, -, hz⟩ := h.2.2.2.2.2 hp
  have e22 := h.2.2.2.1.1
  have b22 := h.2.2.2.1.2.1
  have mono : ∀ i j, 0 ≤ i → i < j → j ≤ ν 14 0 → ν 18 i < ν 18 j := fun i j c1 c2 c3 => by
    have e1 := fsC_s μ c1
    have e2 := fsC_le hI (a := i + 1) (b := j) (by omega) (by omega) (by omega)
    have e3 := hz i c1 (by omega)
    have e4 := hI.2.1 i c1 (by omega)
    have e5 := (hI.2.2 (μ 18 i) e4.1 e4.2).1
    rw [b1 i c1 (by omega), b1 j (by omega) (by omega)]
    omega
  have s1 := fsC_s μ a1.1
  have c1 := b1 (μ 24 0) a1.1 (by omega)
  have c2 := b1 (μ 24 0 + 1) (by omega) (by omega)
  have c0 := fsC_le hI (a := 0) (b := μ 24 0) (by omega) a1.1 (by omega)
  have z0 : fsC μ 0 = 0 := sI_0 _
  rw [a3]
  refine ⟨⟨⟨a1.1, by omega⟩, by omega⟩, ⟨by omega, by omega⟩, ?_, mono, by omega⟩
  by_cases q : μ 24 0 + 1 = ν 14 0
  · rw [q]; exact Int.le_refl _
  · exact Int.le_of_lt (mono _ _ (by omega) (by omega) (Int.le_refl _))
theorem sg_e {μ ν : Nat → Int → Int} (h : Rel μ ν) (hp : μ 23 0 = 1) : ν 18 (ν 22 0 + 1) = ν 18 (ν 14 0) ↔ ν 22 0 + 1 = ν 14 0 := by
  obtain ⟨⟨h1, h2⟩, h3, h4, mono, h5⟩ := sg_a h hp
  refine ⟨fun q => ?_, fun q => by rw [q]⟩
  by_cases z : ν 22 0 + 1 = ν 14 0
  · exact z
  · have := mono (ν 22 0 + 1) (ν 14 0) (by omega) (by omega) (Int.le_refl _)
    omega
theorem Rel_end {μ ν : Nat → Int → Int} (h : Rel μ ν) (hp : μ 23 0 = 1) : ν 24 0 + 1 = 192 → (ν 23 0 + 1 = ν 18 (ν 14 0) ∧ rd21 ν = 0) ∨ (ν 23 0 + 1 < ν 18 (ν 14 0) ∧ rd21 ν = 1) := by
  intro h24
  obtain ⟨⟨h1, h2⟩, h3, h4, mono, h5⟩ := sg_a h hp
  have he := sg_e h hp
  unfold rd21
  rw [if_pos h24]
  by_cases q : ν 23 0 + 1 = ν 18 (ν 22 0 + 1)
  · have e22 : rd22 ν = ν 22 0 + 1 := if_pos ⟨h24, q⟩
    rw [e22]
    by_cases z : ν 22 0 + 1 < ν 14 0
    · rw [if_pos z]
      have := mono (ν 22 0 + 1) (ν 14 0) (by omega) (by omega) (Int.le_refl _)
      exact Or.inr ⟨by omega, rfl⟩
    · rw [if_neg z]
      have := he.mpr (by omega)
      exact Or.inl ⟨by omega, rfl⟩
  · have e22 : rd22 ν = ν 22 0 := if_neg (fun z => q z.2)
    rw [e22, if_pos h1.2]
    exact Or.inr ⟨by omega, rfl⟩
theorem sg_p {μ ν κ : Nat → Int → Int} (h : Rel μ ν) (hL : LR ν κ) (hp : μ 23 0 = 1) {i : Int} (hi : 0 ≤ i ∧ i < ν 18 (ν 14 0)) : (0 ≤ κ 10 i ∧ κ 10 i < 24) ∧ (κ 10 i / 8 = ν 22 0 ↔ ν 18 (ν 22 0) ≤ i ∧ i < ν 18 (ν 22 0 + 1)) := by
  obtain ⟨⟨h1, h2⟩, h3, h4, mono, h5⟩ := sg_a h hp
  have e := h.2.2.2.1.2.2.2.1
  have h14 := hL.2.2.2.1.1
  obtain ⟨-, -, hLC⟩ := hL.2.2.2.2.2.2 (by omega)
  obtain ⟨c1, c2, j, c3, c4, c5⟩ := hLC i hi.1 hi.2
  refine ⟨⟨by omega, by omega⟩, fun q => ?_, fun q => ?_⟩
  · have : j = ν 22 0 := by omega
    rw [← this]; exact c4
  · have key : j = ν 22 0 := by
      by_cases z1 : j < ν 22 0
      · have : ν 18 (j + 1) ≤ ν 18 (ν 22 0) := by
          by_cases z : j + 1 = ν 22 0
          · rw [z]; exact Int.le_refl _
          · exact Int.le_of_lt (mono _ _ (by omega) (by omega) (by omega))
        omega
      · by_cases z2 : ν 22 0 < j
        · have : ν 18 (ν 22 0 + 1) ≤ ν 18 j := by
            by_cases z : ν 22 0 + 1 = j
            · rw [z]; exact Int.le_refl _
            · exact Int.le_of_lt (mono _ _ (by omega) (by omega) (by omega))
          omega
        · omega
    omega
theorem tkN_fix {μ : Nat → Int → Int} {k n : Int} (hk : 0 ≤ k ∧ k ≤ n) (h : tkN μ k 23 0 ≠ 1) : tkN μ n = tkN μ k := itI_fix (x := tkN μ k) hk rfl (fun _ => if_neg h)
theorem tkN_0' (μ : Nat → Int → Int) : tkN μ 0 = μ := itI_0 _ _
theorem tkN_s' (μ : Nat → Int → Int) {k : Int} (hk : 0 ≤ k) : tkN μ (k + 1) = if tkN μ k 23 0 = 1 then psT (tkN μ k) else tkN μ k := itI_s _ _ hk
theorem tkN_p {μ : Nat → Int → Int} {k : Int} (hk : 0 ≤ k) (h : tkN μ k 23 0 = 1) : μ 23 0 = 1 := by
  by_cases q : μ 23 0 = 1
  · exact q
  · have e := tkN_fix (μ := μ) (k := 0) (n := k) ⟨Int.le_refl 0, hk⟩ (by rw [tkN_0']; exact q)
    rw [e, tkN_0'] at h
    exact h
theorem LR_sk {ν κ : Nat → Int → Int} {q m : Int → Int} (h : LR ν κ) (hp : ν 21 0 = 1) (hq1 : (ν 22 0 + 1 < ν 14 0 ∧ q 1 = κ 8 1) ∨ (¬ ν 22 0 + 1 < ν 14 0 ∧ q 1 = 0)) (hq2 : q 2 = ν 18 (ν 22 0 + 1)) (hq3 : q 3 = 0) (hq : ∀ j, j ≠ 1 → j ≠ 2 → j ≠ 3 → q j = κ 8 j) (hm : ∀ j, m j = κ 9 j) : LR (skR ν) (mset (mset κ 8 q) 9 m) := by
  obtain ⟨hA, ⟨t1, t2, t3⟩, hn, ⟨⟨i1, i2⟩, i3⟩, ⟨m1, ⟨m2, m3⟩, m4, m5, m6⟩, h0, h1⟩ := h
  obtain ⟨⟨a1, a2⟩, ⟨a3, a4⟩, a5⟩ := h1 hp
  refine ⟨hA, ⟨t1, t2, (hq 9 (by omega) (by omega) (by omega)).trans t3⟩, hn, ⟨⟨(hq 0 (by omega) (by omega) (by omega)).trans i1, i2⟩, i3⟩, ⟨fun k a b => (hm k).trans (m1 k a b), ⟨(hq 4 (by omega) (by omega) (by omega)).trans m2, (hq 5 (by omega) (by omega) (by omega)).trans m3⟩, (hq 6 (by omega) (by omega) (by omega)).trans m4, (hq 7 (by omega) (by omega) (by omega)).trans m5, (hq 8 (by omega) (by omega) (by omega)).trans m6⟩, fun z => ?_, fun z => ?_⟩
  · have z : (if ν 22 0 + 1 < ν 14 0 then (1 : Int) else 0) = 0 := z
    rcases hq1 with ⟨w1, w2⟩ | ⟨w1, w2⟩
    · rw [if_pos w1] at z; omega
    · exact w2
  · have z : (if ν 22 0 + 1 < ν 14 0 then (1 : Int) else 0) = 1 := z
    rcases hq1 with ⟨w1, w2⟩ | ⟨w1, w2⟩
    · exact ⟨⟨a1, w2.trans a2⟩, ⟨hq2, hq3⟩, a5⟩
    · rw [if_neg w1] at z; omega
theorem LR_q2 {ν κ : Nat → Int → Int} {q m : Int → Int} (h : LR ν κ) (hq : ∀ j, q j = κ 8 j) (hm : ∀ j, m j = κ 9 j) : LR ν (mset (mset κ 8 q) 9 m) := by
  obtain ⟨hA, ⟨t1, t2, t3⟩, hn, ⟨⟨i1, i2⟩, i3⟩, ⟨m1, ⟨m2, m3⟩, m4, m5, m6⟩, h0, h1⟩ := h
  refine ⟨hA, ⟨t1, t2, (hq 9).trans t3⟩, hn, ⟨⟨(hq 0).trans i1, i2⟩, i3⟩, ⟨fun k a b => (hm k).trans (m1 k a b), ⟨(hq 4).trans m2, (hq 5).trans m3⟩, (hq 6).trans m4, (hq 7).trans m5, (hq 8).trans m6⟩, fun z => (hq 1).trans (h0 z), fun z => ?_⟩
  obtain ⟨⟨a1, a2⟩, ⟨a3, a4⟩, a5⟩ := h1 z
  exact ⟨⟨a1, (hq 1).trans a2⟩, ⟨(hq 2).trans a3, (hq 3).trans a4⟩, a5⟩

set_option maxHeartbeats 4000000 in
set_option maxRecDepth 100000 in
theorem k_plays (l : Launch) (hfl : l.stackTraces = false) (D : va_G) (cI cZ cJ : ClassId) (a o : Nat → Nat) (μ ν κ : Nat → Int → Int) (hR : Rel μ ν) (hL : LR ν κ) (ac zz : Int) (hac : -2147483648 ≤ ac ∧ ac < 2147483648) : Le l D (tY cI cZ cJ) yL_plays wsL_plays rmL_plays [.ref (a 0), .int (iI ac), .int (iI zz), .ref (o 0), .ref (o 1), .ref (o 2), .ref (o 3), .ref (o 4), .ref (o 5), .ref (o 8), .ref (o 9), .ref (o 10)] (WLtic cI o κ ++ WAll cI a μ) (fun (z : Int) (x : (Int → Int) × (Int → Int) × (Nat → Int → Int)) => z = 1 ∧ ∃ ν2, Rel x.2.2 ν2 ∧ LR ν2 (mset (mset κ 8 x.1) 9 x.2.1)) (fun x => WLtic cI o (mset (mset κ 8 x.1) 9 x.2.1) ++ WAll cI a x.2.2) := by
  have h23 := hR.2.2.2.1.2.2.2.2
  have b22 := hR.2.2.2.1.2.1
  have e22 := hR.2.2.2.1.1
  have hcan := can_cs hR hL
  refine le_of (by decide +kernel) rfl (Nat.le_of_ble_eq_true rfl) (fun _ _ q => Or.inr q.1) ?_
  intro zp ze zs zm zargs zbelow zmeth zc A Q ls M hA w hl hT kret
  have hl : lv_has ls 15 [(0, .ref (a 0)), (1, .int (iI ac)), (2, .int (iI zz)), (3, .ref (o 0)), (4, .ref (o 1)), (5, .ref (o 2)), (6, .ref (o 3)), (7, .ref (o 4)), (8, .ref (o 5)), (9, .ref (o 8)), (10, .ref (o 9)), (11, .ref (o 10))] := hl
  refine q_iln M dL_plays_0 (lv_at hl 1 rfl) ?_
  refine q_if_ne (tgt := 116) M dL_plays_1 (by decide) (by omega) (fun c1 => ?_) (fun c1 => ?_)
  · refine q_bp M dL_plays_116 (by decide +kernel) ?_
    refine q_is (lv' := [(12, .int (iI (-7))), (0, .ref (a 0)), (1, .int (iI ac)), (2, .int (iI zz)), (3, .ref (o 0)), (4, .ref (o 1)), (5, .ref (o 2)), (6, .ref (o 3)), (7, .ref (o 4)), (8, .ref (o 5)), (9, .ref (o 8)), (10, .ref (o 9)), (11, .ref (o 10))]) M dL_plays_118 hl (by decide) rfl (fun ls hl => ?_)
    refine q_al M dL_plays_120 (lv_at hl 10 rfl) ?_
    refine q_ic M dL_plays_122 ?_
    refine q_iald (f := κ 8) M w 6 0 rfl rfl (by omega) dL_plays_123 ?_
    refine q_if_le (tgt := 219) M dL_plays_124 (by decide) (by omega) (fun c124 => ?_) (fun c124 => ?_)
    · refine q_aln M dL_plays_219 (lv_at hl 1 rfl) ?_
      refine q_bp M dL_plays_220 (by decide +kernel) ?_
      refine q_ic M dL_plays_222 ?_
      refine q_ic M dL_plays_223 ?_
      refine q_ic M dL_plays_224 ?_
      refine q_ic M dL_plays_225 ?_
      refine qc_L (As := [.ref (a 0), .int (iI 10), .int (iI 0), .int (iI 0), .int (iI 0), .int (iI 0)]) (rest := []) (wc := WAll cI a μ) (wc2 := WAll cI a μ) (ws2 := WLtic cI o κ ++ WAll cI a μ) M w hA hT hl (c_skip l hfl D cI cZ cJ a μ h23 hR.2.1.1 (Rel_IH hR) (Rel_IB hR) (fun hp => (hR.2.2.2.2.2 hp).1.1) (fun hp hq => sk_bd hR hp hq) 0 0 0 0 (-7) μ (Or.inr ⟨by rw [chk_f (show ¬ (μ 23 0 = 1) from by omega)], rfl, rfl⟩)) gL_plays_L_calls rfl ⟨by decide, by decide⟩ ⟨by show 0 + 5 ≤ 5; omega, by show 0 + 30 ≤ 30; omega⟩ 6 (by decide +kernel) rfl [false, false, false, false, false, false, false, false, false, true, true, true, true, true, true, true, true, true, true, true, true, true, true, true, true, true, true, true, true, true, true, true, true, true, true, true, true, true, true, true, true, true, true, true, true, true, true, true, true, true, true, true, true, true, true, true, true, true, true] rfl rfl rfl (Nat.le_of_ble_eq_true rfl) rfl dL_plays_226 (fun H locs w => ?_)
      refine q_il M dL_plays_229 (lv_at hl 0 rfl) ?_
      refine q_icmp_neE (tgt := 238) (x := (-7)) (y := (-7)) M (by rfl) dL_plays_231 (by decide) ?_
      refine q_ic M dL_plays_234 ?_
      refine q_go (tgt := 239) M dL_plays_235 (by decide) ?_
      have hP9 : (1 : Int) = 1 ∧ ∃ ν2, Rel μ ν2 ∧ LR ν2 (mset (mset κ 8 (κ 8)) 9 (κ 9)) := ⟨rfl, ν, hR, LR_q2 hL (fun _ => rfl) (fun _ => rfl)⟩
      exact kret _ _ _ _ _ (κ 8, κ 9, μ) _ _ (by decide) (by decide) dL_plays_239 w (hP9)
    · have hp : μ 23 0 = 1 := by omega
      obtain ⟨⟨hs1, hs2⟩, hs3, hs4, hmono, hs5⟩ := sg_a hR hp
      have hse := sg_e hR hp
      have hq1 : κ 8 1 = ν 18 (ν 14 0) := by omega
      have hq2 : κ 8 2 = ν 23 0 := by omega
      have hpl0 := sg_p hR hL hp (i := ν 23 0) (by omega)
      have h14 := hL.2.2.2.1.1
      have e24 := (hR.2.2.2.2.2 hp).1.2.2.1
      refine q_al M dL_plays_127 (lv_at hl 12 rfl) ?_
      refine q_al M dL_plays_129 (lv_at hl 10 rfl) ?_
      refine q_ic M dL_plays_131 ?_
      refine q_iald (f := κ 8) M w 6 0 rfl rfl (by omega) dL_plays_132 ?_
      refine q_top (y := ν 23 0) (by exact hq2) ?_
      refine q_iald (f := κ 10) M w 8 0 rfl rfl (by omega) dL_plays_133 ?_
      refine q_bp M dL_plays_134 (by decide +kernel) ?_
      refine q_div M dL_plays_136 (by omega) ?_
      refine q_top (y := ν 22 0) (by exact hpl0.2.mpr ⟨by omega, by omega⟩) ?_
      refine q_is (lv' := [(13, .int (iI (ν 22 0))), (12, .int (iI (-7))), (0, .ref (a 0)), (1, .int (iI ac)), (2, .int (iI zz)), (3, .ref (o 0)), (4, .ref (o 1)), (5, .ref (o 2)), (6, .ref (o 3)), (7, .ref (o 4)), (8, .ref (o 5)), (9, .ref (o 8)), (10, .ref (o 9)), (11, .ref (o 10))]) M dL_plays_137 hl (by decide) rfl (fun ls hl => ?_)
      have lp139 : ∀ (n139 : Nat) (i : Int) (f : Int → Int), (ν 23 0 ≤ i ∧ i ≤ ν 18 (ν 22 0 + 1)) → (f 2 = i) → (∀ j, j ≠ 2 → f j = κ 8 j) → (ν 18 (ν 22 0 + 1) - i : Int) < (n139 : Int) → ∀ (H : Heap) (locs : List Loc) (ls : Array Slot), wW D A zs.heap (WLtic cI o (mset κ 8 f) ++ WAll cI a μ) H locs → lv_has ls 15 [(0, .ref (a 0)), (1, .int (iI ac)), (2, .int (iI zz)), (3, .ref (o 0)), (4, .ref (o 1)), (5, .ref (o 2)), (6, .ref (o 3)), (7, .ref (o 4)), (8, .ref (o 5)), (9, .ref (o 8)), (10, .ref (o 9)), (11, .ref (o 10)), (12, .int (iI (-7))), (13, .int (iI (ν 22 0)))] → W zp l ze rmL_plays zs zm zargs zbelow zmeth zc H locs 0 0 Q (F0 zm 139 ls []) := by
        intro n139
        induction n139 with
        | zero => intro i f hi hf2 hfo hm H locs ls w hl; exfalso; omega
        | succ n139 ih139 =>
          intro i f hi hf2 hfo hm139 H locs ls w hl
          refine q_al M dL_plays_139 (lv_at hl 9 rfl) ?_
          refine q_ic M dL_plays_141 ?_
          refine q_iald (f := f) M w 6 0 rfl rfl (by omega) dL_plays_142 ?_
          refine q_top (y := i) (by exact hf2) ?_
          refine q_al M dL_plays_143 (lv_at hl 9 rfl) ?_
          refine q_ic M dL_plays_145 ?_
          refine q_iald (f := f) M w 6 0 rfl rfl (by omega) dL_plays_146 ?_
          refine q_top (y := ν 18 (ν 14 0)) (by exact (hfo 1 (by omega)).trans hq1) ?_
          refine q_icmp_ge (tgt := 176) M dL_plays_147 (by decide) (by omega) (fun c147 => ?_) (fun c147 => ?_)
          · have ei : i = ν 18 (ν 22 0 + 1) := by omega
            refine q_al M dL_plays_176 (lv_at hl 9 rfl) ?_
            refine q_ic M dL_plays_178 ?_
            refine q_ic M dL_plays_179 ?_
            refine q_iast (f := f) (ws2 := WLtic cI o (mset κ 8 (iU f 3 0)) ++ WAll cI a μ) M w 6 0 rfl rfl (by omega) rfl dL_plays_180 (fun H locs w => ?_)
            refine q_al M dL_plays_181 (lv_at hl 9 rfl) ?_
            refine q_ic M dL_plays_183 ?_
            refine q_iald (f := iU f 3 0) M w 6 0 rfl rfl (by omega) dL_plays_184 ?_
            refine q_top (y := i) (by exact (iU_n _ _ (by omega)).trans hf2) ?_
            refine q_al M dL_plays_185 (lv_at hl 9 rfl) ?_
            refine q_ic M dL_plays_187 ?_
            refine q_iald (f := iU f 3 0) M w 6 0 rfl rfl (by omega) dL_plays_188 ?_
            refine q_top (y := ν 18 (ν 14 0)) (by exact (iU_n _ _ (by omega)).trans ((hfo 1 (by omega)).trans hq1)) ?_
            refine q_icmp_ne (tgt := 196) M dL_plays_189 (by decide) (by omega) (fun c189 => ?_) (fun c189 => ?_)
            · refine q_il M dL_plays_196 (lv_at hl 13 rfl) ?_
              refine q_ic M dL_plays_198 ?_
              refine q_add M dL_plays_199 ?_
              refine q_is (lv' := [(12, .int (iI ((ν 22 0) + 1))), (0, .ref (a 0)), (1, .int (iI ac)), (2, .int (iI zz)), (3, .ref (o 0)), (4, .ref (o 1)), (5, .ref (o 2)), (6, .ref (o 3)), (7, .ref (o 4)), (8, .ref (o 5)), (9, .ref (o 8)), (10, .ref (o 9)), (11, .ref (o 10)), (13, .int (iI (ν 22 0)))]) M dL_plays_200 hl (by decide) rfl (fun ls hl => ?_)
              refine q_al M dL_plays_202 (lv_at hl 10 rfl) ?_
              refine q_ic M dL_plays_204 ?_
              refine q_il M dL_plays_205 (lv_at hl 0 rfl) ?_
              refine q_if_ge (tgt := 214) M dL_plays_207 (by decide) (by omega) (fun c207 => ?_) (fun c207 => ?_)
              · refine q_al M dL_plays_214 (lv_at hl 10 rfl) ?_
                refine q_ic M dL_plays_216 ?_
                refine q_iald (f := iU f 3 0) M w 6 0 rfl rfl (by omega) dL_plays_217 ?_
                refine q_top (y := ν 18 (ν 14 0)) (by exact (iU_n _ _ (by omega)).trans ((hfo 1 (by omega)).trans hq1)) ?_
                refine q_iast (f := iU f 3 0) (ws2 := WLtic cI o (mset κ 8 (iU (iU f 3 0) 1 (ν 18 (ν 14 0)))) ++ WAll cI a μ) M w 6 0 rfl rfl (by omega) rfl dL_plays_218 (fun H locs w => ?_)
                refine q_aln M dL_plays_219 (lv_at hl 1 rfl) ?_
                refine q_bp M dL_plays_220 (by decide +kernel) ?_
                refine q_ic M dL_plays_222 ?_
                refine q_ic M dL_plays_223 ?_
                refine q_ic M dL_plays_224 ?_
                refine q_ic M dL_plays_225 ?_
                refine qc_L (As := [.ref (a 0), .int (iI 10), .int (iI 0), .int (iI 0), .int (iI 0), .int (iI 0)]) (rest := []) (wc := WAll cI a μ) (wc2 := WAll cI a (skE μ)) (ws2 := WLtic cI o (mset κ 8 (iU (iU f 3 0) 1 (ν 18 (ν 14 0)))) ++ WAll cI a (skE μ)) M w hA hT hl (c_skip l hfl D cI cZ cJ a μ h23 hR.2.1.1 (Rel_IH hR) (Rel_IB hR) (fun hp => (hR.2.2.2.2.2 hp).1.1) (fun hp hq => sk_bd hR hp hq) 0 0 0 0 (if μ 24 0 + 1 < μ 22 0 then μ 24 0 + 1 else -1) (skE μ) (Or.inl ⟨by rw [chk_t (show μ 23 0 = 1 from by omega)], rfl, rfl⟩)) gL_plays_L_calls rfl ⟨by decide, by decide⟩ ⟨by show 0 + 5 ≤ 5; omega, by show 0 + 30 ≤ 30; omega⟩ 6 (by decide +kernel) rfl [false, false, false, false, false, false, false, false, false, true, true, true, true, true, true, true, true, true, true, true, true, true, true, true, true, true, true, true, true, true, true, true, true, true, true, true, true, true, true, true, true, true, true, true, true, true, true, true, true, true, true, true, true, true, true, true, true, true, true] rfl rfl rfl (Nat.le_of_ble_eq_true rfl) rfl dL_plays_226 (fun H locs w => ?_)
                refine q_il M dL_plays_229 (lv_at hl 0 rfl) ?_
                refine q_icmp_neE (tgt := 238) (x := if μ 24 0 + 1 < μ 22 0 then μ 24 0 + 1 else -1) (y := (ν 22 0) + 1) M (by rw [if_pos (by omega)]; omega) dL_plays_231 (by decide) ?_
                refine q_ic M dL_plays_234 ?_
                refine q_go (tgt := 239) M dL_plays_235 (by decide) ?_
                have hP9 : (1 : Int) = 1 ∧ ∃ ν2, Rel (skE μ) ν2 ∧ LR ν2 (mset (mset κ 8 (iU (iU f 3 0) 1 (ν 18 (ν 14 0)))) 9 (κ 9)) := ⟨rfl, _, Rel_skip hR hp, LR_sk hL (by omega) (Or.inl ⟨by omega, (iU_s _ _ _).trans hq1.symm⟩) ((iU_n _ _ (by omega)).trans ((iU_n _ _ (by omega)).trans (hf2.trans ei))) ((iU_n _ _ (by omega)).trans (iU_s _ _ _)) (fun j b1 b2 b3 => (iU_n _ _ b1).trans ((iU_n _ _ b3).trans (hfo j b2))) (fun _ => rfl)⟩
                exact kret _ _ _ _ _ (iU (iU f 3 0) 1 (ν 18 (ν 14 0)), κ 9, (skE μ)) _ _ (by decide) (by decide) dL_plays_239 w (hP9)
              · exfalso; omega
            · refine q_ic M dL_plays_192 ?_
              refine q_go (tgt := 200) M dL_plays_193 (by decide) ?_
              refine q_is (lv' := [(12, .int (iI (-1))), (0, .ref (a 0)), (1, .int (iI ac)), (2, .int (iI zz)), (3, .ref (o 0)), (4, .ref (o 1)), (5, .ref (o 2)), (6, .ref (o 3)), (7, .ref (o 4)), (8, .ref (o 5)), (9, .ref (o 8)), (10, .ref (o 9)), (11, .ref (o 10)), (13, .int (iI (ν 22 0)))]) M dL_plays_200 hl (by decide) rfl (fun ls hl => ?_)
              refine q_al M dL_plays_202 (lv_at hl 10 rfl) ?_
              refine q_ic M dL_plays_204 ?_
              refine q_il M dL_plays_205 (lv_at hl 0 rfl) ?_
              refine q_if_ge (tgt := 214) M dL_plays_207 (by decide) (by omega) (fun c207 => ?_) (fun c207 => ?_)
              · exfalso; omega
              · refine q_ic M dL_plays_210 ?_
                refine q_go (tgt := 218) M dL_plays_211 (by decide) ?_
                refine q_iast (f := iU f 3 0) (ws2 := WLtic cI o (mset κ 8 (iU (iU f 3 0) 1 0)) ++ WAll cI a μ) M w 6 0 rfl rfl (by omega) rfl dL_plays_218 (fun H locs w => ?_)
                refine q_aln M dL_plays_219 (lv_at hl 1 rfl) ?_
                refine q_bp M dL_plays_220 (by decide +kernel) ?_
                refine q_ic M dL_plays_222 ?_
                refine q_ic M dL_plays_223 ?_
                refine q_ic M dL_plays_224 ?_
                refine q_ic M dL_plays_225 ?_
                refine qc_L (As := [.ref (a 0), .int (iI 10), .int (iI 0), .int (iI 0), .int (iI 0), .int (iI 0)]) (rest := []) (wc := WAll cI a μ) (wc2 := WAll cI a (skE μ)) (ws2 := WLtic cI o (mset κ 8 (iU (iU f 3 0) 1 0)) ++ WAll cI a (skE μ)) M w hA hT hl (c_skip l hfl D cI cZ cJ a μ h23 hR.2.1.1 (Rel_IH hR) (Rel_IB hR) (fun hp => (hR.2.2.2.2.2 hp).1.1) (fun hp hq => sk_bd hR hp hq) 0 0 0 0 (if μ 24 0 + 1 < μ 22 0 then μ 24 0 + 1 else -1) (skE μ) (Or.inl ⟨by rw [chk_t (show μ 23 0 = 1 from by omega)], rfl, rfl⟩)) gL_plays_L_calls rfl ⟨by decide, by decide⟩ ⟨by show 0 + 5 ≤ 5; omega, by show 0 + 30 ≤ 30; omega⟩ 6 (by decide +kernel) rfl [false, false, false, false, false, false, false, false, false, true, true, true, true, true, true, true, true, true, true, true, true, true, true, true, true, true, true, true, true, true, true, true, true, true, true, true, true, true, true, true, true, true, true, true, true, true, true, true, true, true, true, true, true, true, true, true, true, true, true] rfl rfl rfl (Nat.le_of_ble_eq_true rfl) rfl dL_plays_226 (fun H locs w => ?_)
                refine q_il M dL_plays_229 (lv_at hl 0 rfl) ?_
                refine q_icmp_neE (tgt := 238) (x := if μ 24 0 + 1 < μ 22 0 then μ 24 0 + 1 else -1) (y := (-1)) M (by rw [if_neg (by omega)]) dL_plays_231 (by decide) ?_
                refine q_ic M dL_plays_234 ?_
                refine q_go (tgt := 239) M dL_plays_235 (by decide) ?_
                have hP9 : (1 : Int) = 1 ∧ ∃ ν2, Rel (skE μ) ν2 ∧ LR ν2 (mset (mset κ 8 (iU (iU f 3 0) 1 0)) 9 (κ 9)) := ⟨rfl, _, Rel_skip hR hp, LR_sk hL (by omega) (Or.inr ⟨by omega, iU_s _ _ _⟩) ((iU_n _ _ (by omega)).trans ((iU_n _ _ (by omega)).trans (hf2.trans ei))) ((iU_n _ _ (by omega)).trans (iU_s _ _ _)) (fun j b1 b2 b3 => (iU_n _ _ b1).trans ((iU_n _ _ b3).trans (hfo j b2))) (fun _ => rfl)⟩
                exact kret _ _ _ _ _ (iU (iU f 3 0) 1 0, κ 9, (skE μ)) _ _ (by decide) (by decide) dL_plays_239 w (hP9)
          · have hpl := sg_p hR hL hp (i := i) (by omega)
            refine q_al M dL_plays_150 (lv_at hl 11 rfl) ?_
            refine q_al M dL_plays_152 (lv_at hl 9 rfl) ?_
            refine q_ic M dL_plays_154 ?_
            refine q_iald (f := f) M w 6 0 rfl rfl (by omega) dL_plays_155 ?_
            refine q_top (y := i) (by exact hf2) ?_
            refine q_iald (f := κ 10) M w 8 0 rfl rfl (by omega) dL_plays_156 ?_
            refine q_bp M dL_plays_157 (by decide +kernel) ?_
            refine q_div M dL_plays_159 (by omega) ?_
            refine q_il M dL_plays_160 (lv_at hl 13 rfl) ?_
            refine q_icmp_ne (tgt := 176) M dL_plays_162 (by decide) (by omega) (fun c162 => ?_) (fun c162 => ?_)
            · have ei : i = ν 18 (ν 22 0 + 1) := by
                by_cases z : i < ν 18 (ν 22 0 + 1)
                · exact absurd (hpl.2.mpr ⟨by omega, z⟩) c162
                · omega
              refine q_al M dL_plays_176 (lv_at hl 9 rfl) ?_
              refine q_ic M dL_plays_178 ?_
              refine q_ic M dL_plays_179 ?_
              refine q_iast (f := f) (ws2 := WLtic cI o (mset κ 8 (iU f 3 0)) ++ WAll cI a μ) M w 6 0 rfl rfl (by omega) rfl dL_plays_180 (fun H locs w => ?_)
              refine q_al M dL_plays_181 (lv_at hl 9 rfl) ?_
              refine q_ic M dL_plays_183 ?_
              refine q_iald (f := iU f 3 0) M w 6 0 rfl rfl (by omega) dL_plays_184 ?_
              refine q_top (y := i) (by exact (iU_n _ _ (by omega)).trans hf2) ?_
              refine q_al M dL_plays_185 (lv_at hl 9 rfl) ?_
              refine q_ic M dL_plays_187 ?_
              refine q_iald (f := iU f 3 0) M w 6 0 rfl rfl (by omega) dL_plays_188 ?_
              refine q_top (y := ν 18 (ν 14 0)) (by exact (iU_n _ _ (by omega)).trans ((hfo 1 (by omega)).trans hq1)) ?_
              refine q_icmp_ne (tgt := 196) M dL_plays_189 (by decide) (by omega) (fun c189 => ?_) (fun c189 => ?_)
              · refine q_il M dL_plays_196 (lv_at hl 13 rfl) ?_
                refine q_ic M dL_plays_198 ?_
                refine q_add M dL_plays_199 ?_
                refine q_is (lv' := [(12, .int (iI ((ν 22 0) + 1))), (0, .ref (a 0)), (1, .int (iI ac)), (2, .int (iI zz)), (3, .ref (o 0)), (4, .ref (o 1)), (5, .ref (o 2)), (6, .ref (o 3)), (7, .ref (o 4)), (8, .ref (o 5)), (9, .ref (o 8)), (10, .ref (o 9)), (11, .ref (o 10)), (13, .int (iI (ν 22 0)))]) M dL_plays_200 hl (by decide) rfl (fun ls hl => ?_)
                refine q_al M dL_plays_202 (lv_at hl 10 rfl) ?_
                refine q_ic M dL_plays_204 ?_
                refine q_il M dL_plays_205 (lv_at hl 0 rfl) ?_
                refine q_if_ge (tgt := 214) M dL_plays_207 (by decide) (by omega) (fun c207 => ?_) (fun c207 => ?_)
                · refine q_al M dL_plays_214 (lv_at hl 10 rfl) ?_
                  refine q_ic M dL_plays_216 ?_
                  refine q_iald (f := iU f 3 0) M w 6 0 rfl rfl (by omega) dL_plays_217 ?_
                  refine q_top (y := ν 18 (ν 14 0)) (by exact (iU_n _ _ (by omega)).trans ((hfo 1 (by omega)).trans hq1)) ?_
                  refine q_iast (f := iU f 3 0) (ws2 := WLtic cI o (mset κ 8 (iU (iU f 3 0) 1 (ν 18 (ν 14 0)))) ++ WAll cI a μ) M w 6 0 rfl rfl (by omega) rfl dL_plays_218 (fun H locs w => ?_)
                  refine q_aln M dL_plays_219 (lv_at hl 1 rfl) ?_
                  refine q_bp M dL_plays_220 (by decide +kernel) ?_
                  refine q_ic M dL_plays_222 ?_
                  refine q_ic M dL_plays_223 ?_
                  refine q_ic M dL_plays_224 ?_
                  refine q_ic M dL_plays_225 ?_
                  refine qc_L (As := [.ref (a 0), .int (iI 10), .int (iI 0), .int (iI 0), .int (iI 0), .int (iI 0)]) (rest := []) (wc := WAll cI a μ) (wc2 := WAll cI a (skE μ)) (ws2 := WLtic cI o (mset κ 8 (iU (iU f 3 0) 1 (ν 18 (ν 14 0)))) ++ WAll cI a (skE μ)) M w hA hT hl (c_skip l hfl D cI cZ cJ a μ h23 hR.2.1.1 (Rel_IH hR) (Rel_IB hR) (fun hp => (hR.2.2.2.2.2 hp).1.1) (fun hp hq => sk_bd hR hp hq) 0 0 0 0 (if μ 24 0 + 1 < μ 22 0 then μ 24 0 + 1 else -1) (skE μ) (Or.inl ⟨by rw [chk_t (show μ 23 0 = 1 from by omega)], rfl, rfl⟩)) gL_plays_L_calls rfl ⟨by decide, by decide⟩ ⟨by show 0 + 5 ≤ 5; omega, by show 0 + 30 ≤ 30; omega⟩ 6 (by decide +kernel) rfl [false, false, false, false, false, false, false, false, false, true, true, true, true, true, true, true, true, true, true, true, true, true, true, true, true, true, true, true, true, true, true, true, true, true, true, true, true, true, true, true, true, true, true, true, true, true, true, true, true, true, true, true, true, true, true, true, true, true, true] rfl rfl rfl (Nat.le_of_ble_eq_true rfl) rfl dL_plays_226 (fun H locs w => ?_)
                  refine q_il M dL_plays_229 (lv_at hl 0 rfl) ?_
                  refine q_icmp_neE (tgt := 238) (x := if μ 24 0 + 1 < μ 22 0 then μ 24 0 + 1 else -1) (y := (ν 22 0) + 1) M (by rw [if_pos (by omega)]; omega) dL_plays_231 (by decide) ?_
                  refine q_ic M dL_plays_234 ?_
                  refine q_go (tgt := 239) M dL_plays_235 (by decide) ?_
                  have hP9 : (1 : Int) = 1 ∧ ∃ ν2, Rel (skE μ) ν2 ∧ LR ν2 (mset (mset κ 8 (iU (iU f 3 0) 1 (ν 18 (ν 14 0)))) 9 (κ 9)) := ⟨rfl, _, Rel_skip hR hp, LR_sk hL (by omega) (Or.inl ⟨by omega, (iU_s _ _ _).trans hq1.symm⟩) ((iU_n _ _ (by omega)).trans ((iU_n _ _ (by omega)).trans (hf2.trans ei))) ((iU_n _ _ (by omega)).trans (iU_s _ _ _)) (fun j b1 b2 b3 => (iU_n _ _ b1).trans ((iU_n _ _ b3).trans (hfo j b2))) (fun _ => rfl)⟩
                  exact kret _ _ _ _ _ (iU (iU f 3 0) 1 (ν 18 (ν 14 0)), κ 9, (skE μ)) _ _ (by decide) (by decide) dL_plays_239 w (hP9)
                · exfalso; omega
              · refine q_ic M dL_plays_192 ?_
                refine q_go (tgt := 200) M dL_plays_193 (by decide) ?_
                refine q_is (lv' := [(12, .int (iI (-1))), (0, .ref (a 0)), (1, .int (iI ac)), (2, .int (iI zz)), (3, .ref (o 0)), (4, .ref (o 1)), (5, .ref (o 2)), (6, .ref (o 3)), (7, .ref (o 4)), (8, .ref (o 5)), (9, .ref (o 8)), (10, .ref (o 9)), (11, .ref (o 10)), (13, .int (iI (ν 22 0)))]) M dL_plays_200 hl (by decide) rfl (fun ls hl => ?_)
                refine q_al M dL_plays_202 (lv_at hl 10 rfl) ?_
                refine q_ic M dL_plays_204 ?_
                refine q_il M dL_plays_205 (lv_at hl 0 rfl) ?_
                refine q_if_ge (tgt := 214) M dL_plays_207 (by decide) (by omega) (fun c207 => ?_) (fun c207 => ?_)
                · exfalso; omega
                · refine q_ic M dL_plays_210 ?_
                  refine q_go (tgt := 218) M dL_plays_211 (by decide) ?_
                  refine q_iast (f := iU f 3 0) (ws2 := WLtic cI o (mset κ 8 (iU (iU f 3 0) 1 0)) ++ WAll cI a μ) M w 6 0 rfl rfl (by omega) rfl dL_plays_218 (fun H locs w => ?_)
                  refine q_aln M dL_plays_219 (lv_at hl 1 rfl) ?_
                  refine q_bp M dL_plays_220 (by decide +kernel) ?_
                  refine q_ic M dL_plays_222 ?_
                  refine q_ic M dL_plays_223 ?_
                  refine q_ic M dL_plays_224 ?_
                  refine q_ic M dL_plays_225 ?_
                  refine qc_L (As := [.ref (a 0), .int (iI 10), .int (iI 0), .int (iI 0), .int (iI 0), .int (iI 0)]) (rest := []) (wc := WAll cI a μ) (wc2 := WAll cI a (skE μ)) (ws2 := WLtic cI o (mset κ 8 (iU (iU f 3 0) 1 0)) ++ WAll cI a (skE μ)) M w hA hT hl (c_skip l hfl D cI cZ cJ a μ h23 hR.2.1.1 (Rel_IH hR) (Rel_IB hR) (fun hp => (hR.2.2.2.2.2 hp).1.1) (fun hp hq => sk_bd hR hp hq) 0 0 0 0 (if μ 24 0 + 1 < μ 22 0 then μ 24 0 + 1 else -1) (skE μ) (Or.inl ⟨by rw [chk_t (show μ 23 0 = 1 from by omega)], rfl, rfl⟩)) gL_plays_L_calls rfl ⟨by decide, by decide⟩ ⟨by show 0 + 5 ≤ 5; omega, by show 0 + 30 ≤ 30; omega⟩ 6 (by decide +kernel) rfl [false, false, false, false, false, false, false, false, false, true, true, true, true, true, true, true, true, true, true, true, true, true, true, true, true, true, true, true, true, true, true, true, true, true, true, true, true, true, true, true, true, true, true, true, true, true, true, true, true, true, true, true, true, true, true, true, true, true, true] rfl rfl rfl (Nat.le_of_ble_eq_true rfl) rfl dL_plays_226 (fun H locs w => ?_)
                  refine q_il M dL_plays_229 (lv_at hl 0 rfl) ?_
                  refine q_icmp_neE (tgt := 238) (x := if μ 24 0 + 1 < μ 22 0 then μ 24 0 + 1 else -1) (y := (-1)) M (by rw [if_neg (by omega)]) dL_plays_231 (by decide) ?_
                  refine q_ic M dL_plays_234 ?_
                  refine q_go (tgt := 239) M dL_plays_235 (by decide) ?_
                  have hP9 : (1 : Int) = 1 ∧ ∃ ν2, Rel (skE μ) ν2 ∧ LR ν2 (mset (mset κ 8 (iU (iU f 3 0) 1 0)) 9 (κ 9)) := ⟨rfl, _, Rel_skip hR hp, LR_sk hL (by omega) (Or.inr ⟨by omega, iU_s _ _ _⟩) ((iU_n _ _ (by omega)).trans ((iU_n _ _ (by omega)).trans (hf2.trans ei))) ((iU_n _ _ (by omega)).trans (iU_s _ _ _)) (fun j b1 b2 b3 => (iU_n _ _ b1).trans ((iU_n _ _ b3).trans (hfo j b2))) (fun _ => rfl)⟩
                  exact kret _ _ _ _ _ (iU (iU f 3 0) 1 0, κ 9, (skE μ)) _ _ (by decide) (by decide) dL_plays_239 w (hP9)
            · have hpi := hpl.2.mp c162
              refine q_al M dL_plays_165 (lv_at hl 9 rfl) ?_
              refine q_ic M dL_plays_167 ?_
              refine q_dup2 M dL_plays_168 rfl rfl ?_
              refine q_iald (f := f) M w 6 0 rfl rfl (by omega) dL_plays_169 ?_
              refine q_top (y := i) (by exact hf2) ?_
              refine q_ic M dL_plays_170 ?_
              refine q_add M dL_plays_171 ?_
              refine q_iast (f := f) (ws2 := WLtic cI o (mset κ 8 (iU f 2 (i + 1))) ++ WAll cI a μ) M w 6 0 rfl rfl (by omega) rfl dL_plays_172 (fun H locs w => ?_)
              refine q_go (tgt := 139) M dL_plays_173 (by decide) ?_
              exact ih139 (i + 1) (iU f 2 (i + 1)) (by omega) (iU_s _ _ _) (fun j z => (iU_n _ _ z).trans (hfo j z)) (by omega) _ _ _ w (lv_sub hl [0, 1, 2, 3, 4, 5, 6, 7, 8, 9, 10, 11, 12, 13] rfl)
      exact lp139 66 (ν 23 0) (κ 8) (by omega) (by omega) (fun _ _ => rfl) (by omega) _ _ _ w (lv_sub hl [2, 3, 4, 5, 6, 7, 8, 9, 10, 11, 12, 13, 1, 0] rfl)
  · refine q_ic M dL_plays_4 ?_
    refine q_iln M dL_plays_5 (lv_at hl 2 rfl) ?_
    refine q_iln M dL_plays_6 (lv_at hl 2 rfl) ?_
    refine q_bp M dL_plays_7 (by decide +kernel) ?_
    refine q_shr M dL_plays_9 ?_
    refine q_ic M dL_plays_10 ?_
    refine qe_iS (As := [.int (iI (shR zz 9)), .int (iI 3)]) (rest := [.int (iI zz), .int (iI 1)]) (wc := []) (G := fun x11 => WLtic cI o κ ++ WAll cI a μ) M w hA hl (k_low l D cI cZ cJ (shR zz 9) 3 (by omega)) gL_plays_L_low rfl ⟨rfl, rfl, by decide, by decide⟩ ⟨by show 0 ≤ 5; omega, by show 0 ≤ 30; omega⟩ 2 (by decide +kernel) rfl [] rfl (fun _ => rfl) rfl (Nat.le_of_ble_eq_true rfl) (fun _ => rfl) dL_plays_11 (fun z11 x11 h11 H locs w => ?_)
    have jn14 : ∀ (n9 : Int) (H : Heap) (locs : List Loc) (ls : Array Slot), (0 < n9 ∧ n9 ≤ 400) → wW D A zs.heap (WLtic cI o κ ++ WAll cI a μ) H locs → lv_has ls 15 [(0, .ref (a 0)), (1, .int (iI ac)), (2, .int (iI zz)), (3, .ref (o 0)), (4, .ref (o 1)), (5, .ref (o 2)), (6, .ref (o 3)), (7, .ref (o 4)), (8, .ref (o 5)), (9, .ref (o 8)), (10, .ref (o 9)), (11, .ref (o 10))] → W zp l ze rmL_plays zs zm zargs zbelow zmeth zc H locs 0 0 Q (F0 zm 25 ls [.int (iI n9), .int (iI zz), .int (iI 1)]) := by
      intro n9 H locs ls hn9 w hl
      refine qe_iS (As := [.int (iI zz), .int (iI n9)]) (rest := [.int (iI 1)]) (wc := []) (G := fun x25 => WLtic cI o κ ++ WAll cI a μ) M w hA hl (k_low l D cI cZ cJ zz n9 (by omega)) gL_plays_L_low rfl ⟨rfl, rfl, by decide, by decide⟩ ⟨by show 0 ≤ 5; omega, by show 0 ≤ 30; omega⟩ 2 (by decide +kernel) rfl [] rfl (fun _ => rfl) rfl (Nat.le_of_ble_eq_true rfl) (fun _ => rfl) dL_plays_25 (fun z25 x25 h25 H locs w => ?_)
      refine q_add M dL_plays_28 ?_
      refine q_is (lv' := [(12, .int (iI (1 + z25))), (0, .ref (a 0)), (1, .int (iI ac)), (2, .int (iI zz)), (3, .ref (o 0)), (4, .ref (o 1)), (5, .ref (o 2)), (6, .ref (o 3)), (7, .ref (o 4)), (8, .ref (o 5)), (9, .ref (o 8)), (10, .ref (o 9)), (11, .ref (o 10))]) M dL_plays_29 hl (by decide) rfl (fun ls hl => ?_)
      refine q_al M dL_plays_31 (lv_at hl 10 rfl) ?_
      refine q_ic M dL_plays_33 ?_
      refine q_iald (f := κ 8) M w 6 0 rfl rfl (by omega) dL_plays_34 ?_
      have jn35 : ∀ (d0 : Int) (H : Heap) (locs : List Loc) (ls : Array Slot), ((μ 23 0 = 1 ∧ d0 = 0) ∨ (μ 23 0 = 0 ∧ d0 = -7)) → wW D A zs.heap (WLtic cI o κ ++ WAll cI a μ) H locs → lv_has ls 15 [(12, .int (iI (1 + z25))), (0, .ref (a 0)), (1, .int (iI ac)), (2, .int (iI zz)), (3, .ref (o 0)), (4, .ref (o 1)), (5, .ref (o 2)), (6, .ref (o 3)), (7, .ref (o 4)), (8, .ref (o 5)), (9, .ref (o 8)), (10, .ref (o 9)), (11, .ref (o 10))] → W zp l ze rmL_plays zs zm zargs zbelow zmeth zc H locs 0 0 Q (F0 zm 44 ls [.int (iI d0)]) := by
        intro d0 H locs ls hd0 w hl
        refine q_is (lv' := [(13, .int (iI d0)), (12, .int (iI (1 + z25))), (0, .ref (a 0)), (1, .int (iI ac)), (2, .int (iI zz)), (3, .ref (o 0)), (4, .ref (o 1)), (5, .ref (o 2)), (6, .ref (o 3)), (7, .ref (o 4)), (8, .ref (o 5)), (9, .ref (o 8)), (10, .ref (o 9)), (11, .ref (o 10))]) M dL_plays_44 hl (by decide) rfl (fun ls hl => ?_)
        refine q_ic M dL_plays_46 ?_
        refine q_is (lv' := [(14, .int (iI 0)), (13, .int (iI d0)), (12, .int (iI (1 + z25))), (0, .ref (a 0)), (1, .int (iI ac)), (2, .int (iI zz)), (3, .ref (o 0)), (4, .ref (o 1)), (5, .ref (o 2)), (6, .ref (o 3)), (7, .ref (o 4)), (8, .ref (o 5)), (9, .ref (o 8)), (10, .ref (o 9)), (11, .ref (o 10))]) M dL_plays_47 hl (by decide) rfl (fun ls hl => ?_)
        have lp49 : ∀ (n49 : Nat) (k : Int) (due : Int) (f : Int → Int) (g : Int → Int) (nu : Nat → Int → Int), (0 ≤ k ∧ k ≤ 1 + z25) → (Rel (tkN μ k) nu) → (LR nu (mset (mset κ 8 f) 9 g)) → ((μ 23 0 = 1 ∧ due = nu 28 0 - ν 28 0) ∨ (μ 23 0 = 0 ∧ due = -7)) → (1 + z25 - k : Int) < (n49 : Int) → ∀ (H : Heap) (locs : List Loc) (ls : Array Slot), wW D A zs.heap (WLtic cI o (mset (mset κ 8 f) 9 g) ++ WAll cI a μ) H locs → lv_has ls 15 [(0, .ref (a 0)), (1, .int (iI ac)), (2, .int (iI zz)), (3, .ref (o 0)), (4, .ref (o 1)), (5, .ref (o 2)), (6, .ref (o 3)), (7, .ref (o 4)), (8, .ref (o 5)), (9, .ref (o 8)), (10, .ref (o 9)), (11, .ref (o 10)), (12, .int (iI (1 + z25))), (13, .int (iI due)), (14, .int (iI k))] → W zp l ze rmL_plays zs zm zargs zbelow zmeth zc H locs 0 0 Q (F0 zm 49 ls []) := by
          intro n49
          induction n49 with
          | zero => intro k due f g nu hk hRk hLk hd hm H locs ls w hl; exfalso; omega
          | succ n49 ih49 =>
            intro k due f g nu hk hRk hLk hd hm49 H locs ls w hl
            have hck := can_cs hRk hLk
            refine q_il M dL_plays_49 (lv_at hl 14 rfl) ?_
            refine q_il M dL_plays_51 (lv_at hl 12 rfl) ?_
            refine q_icmp_ge (tgt := 94) M dL_plays_53 (by decide) (by omega) (fun c53 => ?_) (fun c53 => ?_)
            · have ek : k = 1 + z25 := by omega
              have hRf : Rel (tkN μ (1 + z25)) nu := by rw [← ek]; exact hRk
              have hCK : CK (sq (chk (1 ≤ 1 + z25 ∧ 1 + z25 ≤ 2000) eIAE) (chk (μ 23 0 = 1) eISE)) (tkN μ (1 + z25) 31 0 - μ 31 0) due μ (tkN μ (1 + z25)) (tkN μ (1 + z25)) := by
                have e1 := hR.2.2.2.2.1.2.1.1
                have e2 := hRf.2.2.2.2.1.2.1.1
                rcases hd with ⟨q1, q2⟩ | ⟨q1, q2⟩
                · exact Or.inl ⟨by rw [chk_t (show 1 ≤ 1 + z25 ∧ 1 + z25 ≤ 2000 by omega), chk_t q1]; rfl, by omega, rfl⟩
                · exact Or.inr ⟨by rw [chk_t (show 1 ≤ 1 + z25 ∧ 1 + z25 ≤ 2000 by omega), chk_f (show ¬ μ 23 0 = 1 by omega)]; rfl, q2, by rw [tkN_fix (μ := μ) (k := 0) (n := 1 + z25) (by omega) (by rw [tkN_0']; omega), tkN_0']⟩
              refine q_aln M dL_plays_94 (lv_at hl 0 rfl) ?_
              refine q_bp M dL_plays_95 (by decide +kernel) ?_
              refine q_il M dL_plays_97 (lv_at hl 12 rfl) ?_
              refine q_ic M dL_plays_99 ?_
              refine q_ic M dL_plays_100 ?_
              refine q_ic M dL_plays_101 ?_
              refine qc_L (As := [.ref (a 0), .int (iI 9), .int (iI (1 + z25)), .int (iI 0), .int (iI 0), .int (iI 0)]) (rest := []) (wc := WAll cI a μ) (wc2 := WAll cI a (tkN μ (1 + z25))) (ws2 := WLtic cI o (mset (mset κ 8 f) 9 g) ++ WAll cI a (tkN μ (1 + z25))) M w hA hT hl (c_tick l hfl D cI cZ cJ a μ (1 + z25) (by omega) IC ⟨ν, hR⟩ IC_s 0 0 0 due (tkN μ (1 + z25)) hCK) gL_plays_L_calls rfl ⟨by decide, by decide⟩ ⟨by show 0 + 5 ≤ 5; omega, by show 0 + 30 ≤ 30; omega⟩ 6 (by decide +kernel) rfl [false, false, false, false, false, false, false, false, false, true, true, true, true, true, true, true, true, true, true, true, true, true, true, true, true, true, true, true, true, true, true, true, true, true, true, true, true, true, true, true, true, true, true, true, true, true, true, true, true, true, true, true, true, true, true, true, true, true, true] rfl rfl rfl (Nat.le_of_ble_eq_true rfl) rfl dL_plays_102 (fun H locs w => ?_)
              refine q_il M dL_plays_105 (lv_at hl 13 rfl) ?_
              refine q_icmp_neE (tgt := 114) (x := due) (y := due) M (by rfl) dL_plays_107 (by decide) ?_
              refine q_ic M dL_plays_110 ?_
              refine q_go (tgt := 115) M dL_plays_111 (by decide) ?_
              have hP9 : (1 : Int) = 1 ∧ ∃ ν2, Rel (tkN μ (1 + z25)) ν2 ∧ LR ν2 (mset (mset κ 8 f) 9 g) := ⟨rfl, nu, hRf, hLk⟩
              exact kret _ _ _ _ _ (f, g, (tkN μ (1 + z25))) _ _ (by decide) (by decide) dL_plays_115 w (hP9)
            · have hf1 : -2147483648 ≤ f 1 ∧ f 1 < 2147483648 := by
                rcases hck with ⟨_, _, q2⟩ | ⟨_, _, q2, q3, _⟩
                · have q4 : f 1 = 0 := q2
                  omega
                · have q4 : f 1 = nu 18 (nu 14 0) := q2
                  omega
              refine q_al M dL_plays_56 (lv_at hl 9 rfl) ?_
              refine q_ic M dL_plays_58 ?_
              refine q_iald (f := f) M w 6 0 rfl rfl (by omega) dL_plays_59 ?_
              refine q_if_le (tgt := 94) M dL_plays_60 (by decide) (by omega) (fun c60 => ?_) (fun c60 => ?_)
              · have hRf : Rel (tkN μ (1 + z25)) nu := by
                  rw [tkN_fix (μ := μ) (k := k) (n := 1 + z25) hk (fun q => by
                    rcases hck with ⟨q1, _⟩ | ⟨_, _, q2, q3, _⟩
                    · omega
                    · have q4 : f 1 = nu 18 (nu 14 0) := q2
                      omega)]
                  exact hRk
                have hCK : CK (sq (chk (1 ≤ 1 + z25 ∧ 1 + z25 ≤ 2000) eIAE) (chk (μ 23 0 = 1) eISE)) (tkN μ (1 + z25) 31 0 - μ 31 0) due μ (tkN μ (1 + z25)) (tkN μ (1 + z25)) := by
                  have e1 := hR.2.2.2.2.1.2.1.1
                  have e2 := hRf.2.2.2.2.1.2.1.1
                  rcases hd with ⟨q1, q2⟩ | ⟨q1, q2⟩
                  · exact Or.inl ⟨by rw [chk_t (show 1 ≤ 1 + z25 ∧ 1 + z25 ≤ 2000 by omega), chk_t q1]; rfl, by omega, rfl⟩
                  · exact Or.inr ⟨by rw [chk_t (show 1 ≤ 1 + z25 ∧ 1 + z25 ≤ 2000 by omega), chk_f (show ¬ μ 23 0 = 1 by omega)]; rfl, q2, by rw [tkN_fix (μ := μ) (k := 0) (n := 1 + z25) (by omega) (by rw [tkN_0']; omega), tkN_0']⟩
                refine q_aln M dL_plays_94 (lv_at hl 0 rfl) ?_
                refine q_bp M dL_plays_95 (by decide +kernel) ?_
                refine q_il M dL_plays_97 (lv_at hl 12 rfl) ?_
                refine q_ic M dL_plays_99 ?_
                refine q_ic M dL_plays_100 ?_
                refine q_ic M dL_plays_101 ?_
                refine qc_L (As := [.ref (a 0), .int (iI 9), .int (iI (1 + z25)), .int (iI 0), .int (iI 0), .int (iI 0)]) (rest := []) (wc := WAll cI a μ) (wc2 := WAll cI a (tkN μ (1 + z25))) (ws2 := WLtic cI o (mset (mset κ 8 f) 9 g) ++ WAll cI a (tkN μ (1 + z25))) M w hA hT hl (c_tick l hfl D cI cZ cJ a μ (1 + z25) (by omega) IC ⟨ν, hR⟩ IC_s 0 0 0 due (tkN μ (1 + z25)) hCK) gL_plays_L_calls rfl ⟨by decide, by decide⟩ ⟨by show 0 + 5 ≤ 5; omega, by show 0 + 30 ≤ 30; omega⟩ 6 (by decide +kernel) rfl [false, false, false, false, false, false, false, false, false, true, true, true, true, true, true, true, true, true, true, true, true, true, true, true, true, true, true, true, true, true, true, true, true, true, true, true, true, true, true, true, true, true, true, true, true, true, true, true, true, true, true, true, true, true, true, true, true, true, true] rfl rfl rfl (Nat.le_of_ble_eq_true rfl) rfl dL_plays_102 (fun H locs w => ?_)
                refine q_il M dL_plays_105 (lv_at hl 13 rfl) ?_
                refine q_icmp_neE (tgt := 114) (x := due) (y := due) M (by rfl) dL_plays_107 (by decide) ?_
                refine q_ic M dL_plays_110 ?_
                refine q_go (tgt := 115) M dL_plays_111 (by decide) ?_
                have hP9 : (1 : Int) = 1 ∧ ∃ ν2, Rel (tkN μ (1 + z25)) ν2 ∧ LR ν2 (mset (mset κ 8 f) 9 g) := ⟨rfl, nu, hRf, hLk⟩
                exact kret _ _ _ _ _ (f, g, (tkN μ (1 + z25))) _ _ (by decide) (by decide) dL_plays_115 w (hP9)
              · have hpk : tkN μ k 23 0 = 1 := by
                  rcases hck with ⟨q, _, q2⟩ | ⟨q, _⟩
                  · have q3 : f 1 = 0 := q2
                    omega
                  · exact q
                have hpm := tkN_p hk.1 hpk
                have e21 := hRk.2.2.2.1.2.2.2.1
                refine q_il M dL_plays_63 (lv_at hl 13 rfl) ?_
                refine q_aln M dL_plays_65 (lv_at hl 3 rfl) ?_
                refine q_al M dL_plays_66 (lv_at hl 4 rfl) ?_
                refine q_al M dL_plays_68 (lv_at hl 5 rfl) ?_
                refine q_al M dL_plays_70 (lv_at hl 6 rfl) ?_
                refine q_al M dL_plays_72 (lv_at hl 7 rfl) ?_
                refine q_al M dL_plays_74 (lv_at hl 8 rfl) ?_
                refine q_al M dL_plays_76 (lv_at hl 9 rfl) ?_
                refine q_al M dL_plays_78 (lv_at hl 10 rfl) ?_
                refine q_al M dL_plays_80 (lv_at hl 11 rfl) ?_
                refine qe_iS (As := [.ref (o 0), .ref (o 1), .ref (o 2), .ref (o 3), .ref (o 4), .ref (o 5), .ref (o 8), .ref (o 9), .ref (o 10)]) (rest := [.int (iI due)]) (wc := WLtic cI o (mset (mset κ 8 f) 9 g)) (G := fun x82 => WLtic cI o (mset (mset κ 8 x82.1) 9 x82.2) ++ WAll cI a μ) M w hA hl (k_ltick l D cI cZ cJ o (mset (mset κ 8 f) 9 g) nu (Rel_PM hRk hpk) hLk (by omega) (Rel_now hRk hpk).1.2 (Rel_end hRk hpk)) gL_plays_L_tick rfl ⟨rfl, rfl, by decide, by decide⟩ ⟨by show 0 ≤ 5; omega, by show 0 ≤ 30; omega⟩ 9 (by decide +kernel) rfl [true, true, true, true, true, true, true, true, true] rfl (fun _ => rfl) rfl (Nat.le_of_ble_eq_true rfl) (fun _ => rfl) dL_plays_82 (fun z82 x82 h82 H locs w => ?_)
                refine q_add M dL_plays_85 ?_
                refine q_is (lv' := [(13, .int (iI (due + z82))), (0, .ref (a 0)), (1, .int (iI ac)), (2, .int (iI zz)), (3, .ref (o 0)), (4, .ref (o 1)), (5, .ref (o 2)), (6, .ref (o 3)), (7, .ref (o 4)), (8, .ref (o 5)), (9, .ref (o 8)), (10, .ref (o 9)), (11, .ref (o 10)), (12, .int (iI (1 + z25))), (14, .int (iI k))]) M dL_plays_86 hl (by decide) rfl (fun ls hl => ?_)
                refine q_inc (z := k) (lv' := [(14, .int (iI (k + 1))), (13, .int (iI (due + z82))), (0, .ref (a 0)), (1, .int (iI ac)), (2, .int (iI zz)), (3, .ref (o 0)), (4, .ref (o 1)), (5, .ref (o 2)), (6, .ref (o 3)), (7, .ref (o 4)), (8, .ref (o 5)), (9, .ref (o 8)), (10, .ref (o 9)), (11, .ref (o 10)), (12, .int (iI (1 + z25)))]) M dL_plays_88 hl (k := 14) rfl (by decide) rfl (fun ls hl => ?_)
                refine q_go (tgt := 49) M dL_plays_91 (by decide) ?_
                exact ih49 (k + 1) (due + z82) x82.1 x82.2 (psR nu) (by omega) (by rw [tkN_s' μ hk.1, if_pos hpk]; exact Rel_pass hRk hpk) h82.1 (Or.inl ⟨hpm, by have e28 : (psR nu) 28 0 = (plR nu).1 := rfl; have := h82.2; omega⟩) (by omega) _ _ _ w (lv_sub hl [2, 3, 4, 5, 6, 7, 8, 9, 10, 11, 12, 13, 14, 1, 0] rfl)
        exact lp49 402 0 d0 (κ 8) (κ 9) ν (by omega) (by rw [tkN_0']; exact hR) (LR_q2 hL (fun _ => rfl) (fun _ => rfl)) (by omega) (by omega) _ _ _ w (lv_sub hl [3, 4, 5, 6, 7, 8, 9, 10, 11, 12, 13, 14, 2, 1, 0] rfl)
      refine q_if_ne (tgt := 43) M dL_plays_35 (by decide) (by omega) (fun c35 => ?_) (fun c35 => ?_)
      · refine q_ic M dL_plays_43 ?_
        exact jn35 0 _ _ _ (by omega) w (lv_sub hl [0, 1, 2, 3, 4, 5, 6, 7, 8, 9, 10, 11, 12] rfl)
      · refine q_bp M dL_plays_38 (by decide +kernel) ?_
        refine q_go (tgt := 44) M dL_plays_40 (by decide) ?_
        exact jn35 (-7) _ _ _ (by omega) w (lv_sub hl [0, 1, 2, 3, 4, 5, 6, 7, 8, 9, 10, 11, 12] rfl)
    refine q_if_ne (tgt := 23) M dL_plays_14 (by decide) (by omega) (fun c14 => ?_) (fun c14 => ?_)
    · refine q_bp M dL_plays_23 (by decide +kernel) ?_
      exact jn14 40 _ _ _ (by omega) w (lv_sub hl [0, 1, 2, 3, 4, 5, 6, 7, 8, 9, 10, 11] rfl)
    · refine q_sp M dL_plays_17 (by decide +kernel) ?_
      refine q_go (tgt := 25) M dL_plays_20 (by decide) ?_
      exact jn14 400 _ _ _ (by omega) w (lv_sub hl [0, 1, 2, 3, 4, 5, 6, 7, 8, 9, 10, 11] rfl)
