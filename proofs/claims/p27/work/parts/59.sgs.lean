/-! THE LAW'S ACTS: songs -/
theorem LR_n {ν κ : Nat → Int → Int} {E N : Int → Int} (V : Int → Int) (h : LR ν κ) (hE : ∀ j, E j = κ 6 j) (hN : ∀ j, N j = κ 7 j) : LR ν (mset (mset (mset κ 6 E) 7 N) 11 V) := by
  obtain ⟨hA, hT, hn, ⟨hi, hi2⟩, hr⟩ := h
  refine ⟨hA, hT, fun s a b => ?_, ⟨hi, fun j a b => ⟨(hN _).trans (hi2 j a b).1, (hi2 j a b).2⟩⟩, hr⟩
  obtain ⟨⟨h1, h2⟩, h3⟩ := hn s a b
  refine ⟨⟨(hN s).trans h1, h2⟩, fun e c d => ?_⟩
  obtain ⟨⟨g1, g2⟩, g3, g4, g5⟩ := h3 e c d
  exact ⟨⟨(hE _).trans g1, g2⟩, (hE _).trans g3, (hE _).trans g4, fun z => (hE _).trans (g5 z)⟩
theorem LR_ju {ν κ : Nat → Int → Int} {E N : Int → Int} (V : Int → Int) {s e g t : Int} (h : LR ν κ) (hs : 0 ≤ s ∧ s < 3) (he : 0 ≤ e ∧ e < ν 9 s) (hE : ∀ j, E j = iU (iU (κ 6) (16 * s + 4 * e + 2) g) (16 * s + 4 * e + 3) t j) (hN : ∀ j, N j = κ 7 j) : LR (jmR ν s e g t) (mset (mset (mset κ 6 E) 7 N) 11 V) := by
  obtain ⟨hA, hT, hn, ⟨hi, hi2⟩, hr⟩ := h
  refine ⟨hA, hT, fun s2 a b => ?_, ⟨hi, fun j a b => ⟨(hN _).trans (hi2 j a b).1, (hi2 j a b).2⟩⟩, hr⟩
  have n9 := (hn s hs.1 hs.2).1
  obtain ⟨⟨h1, h2⟩, h3⟩ := hn s2 a b
  refine ⟨⟨(hN s2).trans h1, h2⟩, fun e2 c d => ?_⟩
  have d : e2 < ν 9 s2 := d
  obtain ⟨⟨g1, g2⟩, g3, g4, g5⟩ := h3 e2 c d
  refine ⟨⟨?_, g2⟩, ?_, ?_, ?_⟩
  · exact (hE _).trans ((iU_n _ _ (by omega)).trans ((iU_n _ _ (by omega)).trans g1))
  · exact (hE _).trans ((iU_n _ _ (by omega)).trans ((iU_n _ _ (by omega)).trans g3))
  · show E (16 * s2 + 4 * e2 + 3) = iU (ν 13) (s * 8 + e) t (s2 * 8 + e2)
    rw [hE]
    by_cases q : s2 * 8 + e2 = s * 8 + e
    · have q1 : s2 = s := by omega
      have q2 : e2 = e := by omega
      rw [q1, q2, iU_s, iU_s]
    · rw [iU_n (ν 13) t q]
      exact (iU_n _ _ (by omega)).trans ((iU_n _ _ (by omega)).trans g4)
  · intro z
    have z : 0 < iU (ν 13) (s * 8 + e) t (s2 * 8 + e2) := z
    show E (16 * s2 + 4 * e2 + 2) = iU (ν 12) (s * 8 + e) g (s2 * 8 + e2)
    rw [hE]
    by_cases q : s2 * 8 + e2 = s * 8 + e
    · have q1 : s2 = s := by omega
      have q2 : e2 = e := by omega
      rw [q1, q2, iU_s]
      exact (iU_n _ _ (by omega)).trans (iU_s _ _ _)
    · rw [iU_n (ν 12) g q]
      rw [iU_n (ν 13) t q] at z
      exact (iU_n _ _ (by omega)).trans ((iU_n _ _ (by omega)).trans (g5 z))
theorem LR_ae {ν κ : Nat → Int → Int} {E N : Int → Int} (V : Int → Int) {s p r : Int} (h : LR ν κ) (hs : 0 ≤ s ∧ s < 3) (hp : 0 ≤ p ∧ p < 3) (h4 : ν 9 s < 4) (hE : ∀ j, E j = iU (iU (iU (iU (κ 6) (16 * s + 4 * ν 9 s) p) (16 * s + 4 * ν 9 s + 1) r) (16 * s + 4 * ν 9 s + 2) 0) (16 * s + 4 * ν 9 s + 3) 0 j) (hN : ∀ j, N j = iU (κ 7) s (ν 9 s + 1) j) : LR (apR ν s p r) (mset (mset (mset κ 6 E) 7 N) 11 V) := by
  obtain ⟨hA, hT, hn, ⟨hi, hi2⟩, hr⟩ := h
  refine ⟨hA, hT, fun s2 a b => ?_, ⟨hi, fun j a b => ⟨(hN _).trans ((iU_n _ _ (by omega)).trans (hi2 j a b).1), (hi2 j a b).2⟩⟩, hr⟩
  have n9 := (hn s hs.1 hs.2).1
  obtain ⟨⟨h1, h2⟩, h3⟩ := hn s2 a b
  have i9 := iU_0 (ν 9) s (ν 9 s + 1) s2
  refine ⟨⟨?_, ?_⟩, fun e2 c d => ?_⟩
  · show N s2 = iU (ν 9) s (ν 9 s + 1) s2
    have j9 := iU_0 (κ 7) s (ν 9 s + 1) s2
    rw [hN]; omega
  · show 0 ≤ iU (ν 9) s (ν 9 s + 1) s2 ∧ iU (ν 9) s (ν 9 s + 1) s2 ≤ 4
    rcases i9 with ⟨w1, w2⟩ | ⟨w1, w2⟩
    · rw [w2]; omega
    · rw [w2]; exact h2
  have d : e2 < iU (ν 9) s (ν 9 s + 1) s2 := d
  by_cases q : s2 = s ∧ e2 = ν 9 s
  · obtain ⟨q1, q2⟩ := q
    refine ⟨⟨?_, ?_⟩, ?_, ?_, ?_⟩
    · show E (16 * s2 + 4 * e2) = iU (ν 10) (s * 8 + ν 9 s) p (s2 * 8 + e2)
      rw [hE, q1, q2, iU_s]
      exact (iU_n _ _ (by omega)).trans ((iU_n _ _ (by omega)).trans ((iU_n _ _ (by omega)).trans (iU_s _ _ _)))
    · show 0 ≤ iU (ν 10) (s * 8 + ν 9 s) p (s2 * 8 + e2) ∧ iU (ν 10) (s * 8 + ν 9 s) p (s2 * 8 + e2) < 3
      rw [q1, q2, iU_s]
      exact hp
    · show E (16 * s2 + 4 * e2 + 1) = iU (ν 11) (s * 8 + ν 9 s) r (s2 * 8 + e2)
      rw [hE, q1, q2, iU_s]
      exact (iU_n _ _ (by omega)).trans ((iU_n _ _ (by omega)).trans (iU_s _ _ _))
    · show E (16 * s2 + 4 * e2 + 3) = iU (ν 13) (s * 8 + ν 9 s) 0 (s2 * 8 + e2)
      rw [hE, q1, q2, iU_s, iU_s]
    · intro z
      have z : 0 < iU (ν 13) (s * 8 + ν 9 s) 0 (s2 * 8 + e2) := z
      rw [q1, q2, iU_s] at z
      omega
  · have d2 : e2 < ν 9 s2 := by
      rcases i9 with ⟨w1, w2⟩ | ⟨w1, w2⟩
      · rw [w2] at d; rw [w1]; omega
      · rw [w2] at d; exact d
    have hne : s2 * 8 + e2 ≠ s * 8 + ν 9 s := fun z => q ⟨by omega, by omega⟩
    have hne4 : 16 * s2 + 4 * e2 ≠ 16 * s + 4 * ν 9 s := fun z => q ⟨by omega, by omega⟩
    obtain ⟨⟨g1, g2⟩, g3, g4, g5⟩ := h3 e2 c d2
    have o : ∀ i, 0 ≤ i → i < 4 → E (16 * s2 + 4 * e2 + i) = κ 6 (16 * s2 + 4 * e2 + i) := fun i u v => (hE _).trans ((iU_n _ _ (by omega)).trans ((iU_n _ _ (by omega)).trans ((iU_n _ _ (by omega)).trans (iU_n _ _ (by omega)))))
    have o0 := o 0 (by omega) (by omega)
    rw [Int.add_zero] at o0
    refine ⟨⟨?_, ?_⟩, ?_, ?_, ?_⟩
    · show E (16 * s2 + 4 * e2) = iU (ν 10) (s * 8 + ν 9 s) p (s2 * 8 + e2)
      rw [iU_n (ν 10) p hne]
      exact o0.trans g1
    · show 0 ≤ iU (ν 10) (s * 8 + ν 9 s) p (s2 * 8 + e2) ∧ iU (ν 10) (s * 8 + ν 9 s) p (s2 * 8 + e2) < 3
      rw [iU_n (ν 10) p hne]
      exact g2
    · show E (16 * s2 + 4 * e2 + 1) = iU (ν 11) (s * 8 + ν 9 s) r (s2 * 8 + e2)
      rw [iU_n (ν 11) r hne]
      exact (o 1 (by omega) (by omega)).trans g3
    · show E (16 * s2 + 4 * e2 + 3) = iU (ν 13) (s * 8 + ν 9 s) 0 (s2 * 8 + e2)
      rw [iU_n (ν 13) 0 hne]
      exact (o 3 (by omega) (by omega)).trans g4
    · intro z
      have z : 0 < iU (ν 13) (s * 8 + ν 9 s) 0 (s2 * 8 + e2) := z
      rw [iU_n (ν 13) 0 hne] at z
      exact (o 2 (by omega) (by omega)).trans (g5 z)

set_option maxHeartbeats 4000000 in
set_option maxRecDepth 100000 in
theorem k_songs (l : Launch) (hfl : l.stackTraces = false) (D : va_G) (cI cZ cJ : ClassId) (a o : Nat → Nat) (μ ν κ : Nat → Int → Int) (hR : Rel μ ν) (hL : LR ν κ) (ac zz : Int) (hac : -2147483648 ≤ ac ∧ ac < 2147483648) : Le l D (tY cI cZ cJ) yL_songs wsL_songs rmL_songs [.ref (a 0), .int (iI ac), .int (iI zz), .ref (o 6), .ref (o 7), .ref (o 4), .ref (o 8), .ref (o 11)] (WLsgs cI o κ ++ WAll cI a μ) (fun (z : Int) (x : (Int → Int) × (Int → Int) × (Int → Int) × (Nat → Int → Int)) => z = 1 ∧ ∃ ν2, Rel x.2.2.2 ν2 ∧ LR ν2 (mset (mset (mset κ 6 x.1) 7 x.2.1) 11 x.2.2.1)) (fun x => WLsgs cI o (mset (mset (mset κ 6 x.1) 7 x.2.1) 11 x.2.2.1) ++ WAll cI a x.2.2.2) := by
  have h23 := hR.2.2.2.1.2.2.2.2
  have b22 := hR.2.2.2.1.2.1
  have e22 := hR.2.2.2.1.1
  have hcan := can_cs hR hL
  refine le_of (by decide +kernel) rfl (Nat.le_of_ble_eq_true rfl) (fun _ _ q => Or.inr q.1) ?_
  intro zp ze zs zm zargs zbelow zmeth zc A Q ls M hA w hl hT kret
  have hl : lv_has ls 13 [(0, .ref (a 0)), (1, .int (iI ac)), (2, .int (iI zz)), (3, .ref (o 6)), (4, .ref (o 7)), (5, .ref (o 4)), (6, .ref (o 8)), (7, .ref (o 11))] := hl
  refine q_al M dL_songs_0 (lv_at hl 6 rfl) ?_
  refine q_ic M dL_songs_2 ?_
  refine q_iald (f := κ 8) M w 3 0 rfl rfl (by omega) dL_songs_3 ?_
  have jn4 : ∀ (cv : Int) (H : Heap) (locs : List Loc) (ls : Array Slot), (cv = 1 ∧ κ 8 1 = 0 ∨ cv = 0 ∧ κ 8 1 ≠ 0) → wW D A zs.heap (WLsgs cI o κ ++ WAll cI a μ) H locs → lv_has ls 13 [(0, .ref (a 0)), (1, .int (iI ac)), (2, .int (iI zz)), (3, .ref (o 6)), (4, .ref (o 7)), (5, .ref (o 4)), (6, .ref (o 8)), (7, .ref (o 11))] → W zp l ze rmL_songs zs zm zargs zbelow zmeth zc H locs 0 0 Q (F0 zm 12 ls [.int (iI cv)]) := by
    intro cv H locs ls hcv w hl
    refine q_is (lv' := [(8, .int (iI cv)), (0, .ref (a 0)), (1, .int (iI ac)), (2, .int (iI zz)), (3, .ref (o 6)), (4, .ref (o 7)), (5, .ref (o 4)), (6, .ref (o 8)), (7, .ref (o 11))]) M dL_songs_12 hl (by decide) rfl (fun ls hl => ?_)
    refine q_iln M dL_songs_14 (lv_at hl 3 rfl) ?_
    refine q_ic M dL_songs_15 ?_
    refine qe_iS (As := [.int (iI zz), .int (iI 3)]) (rest := []) (wc := []) (G := fun x16 => WLsgs cI o κ ++ WAll cI a μ) M w hA hl (k_low l D cI cZ cJ zz 3 (by omega)) gL_songs_L_low rfl ⟨rfl, rfl, by decide, by decide⟩ ⟨by show 0 ≤ 5; omega, by show 0 ≤ 30; omega⟩ 2 (by decide +kernel) rfl [] rfl (fun _ => rfl) rfl (Nat.le_of_ble_eq_true rfl) (fun _ => rfl) dL_songs_16 (fun z16 x16 h16 H locs w => ?_)
    have n9 := hL.2.2.1 z16 (by omega) (by omega)
    have e8 := congrFun hR.1.2.2.2.1 z16
    refine q_is (lv' := [(9, .int (iI z16)), (8, .int (iI cv)), (0, .ref (a 0)), (1, .int (iI ac)), (2, .int (iI zz)), (3, .ref (o 6)), (4, .ref (o 7)), (5, .ref (o 4)), (6, .ref (o 8)), (7, .ref (o 11))]) M dL_songs_19 hl (by decide) rfl (fun ls hl => ?_)
    refine q_iln M dL_songs_21 (lv_at hl 3 rfl) ?_
    have jn22 : ∀  (H : Heap) (locs : List Loc) (ls : Array Slot), wW D A zs.heap (WLsgs cI o κ ++ WAll cI a μ) H locs → lv_has ls 13 [(9, .int (iI z16)), (8, .int (iI cv)), (0, .ref (a 0)), (1, .int (iI ac)), (2, .int (iI zz)), (3, .ref (o 6)), (4, .ref (o 7)), (5, .ref (o 4)), (6, .ref (o 8)), (7, .ref (o 11))] → W zp l ze rmL_songs zs zm zargs zbelow zmeth zc H locs 0 0 Q (F0 zm 33 ls []) := by
      intro  H locs ls  w hl
      refine q_iln M dL_songs_33 (lv_at hl 4 rfl) ?_
      refine q_ic M dL_songs_34 ?_
      refine q_shr M dL_songs_35 ?_
      refine q_ic M dL_songs_36 ?_
      refine qe_iS (As := [.int (iI (shR zz 2)), .int (iI 3)]) (rest := []) (wc := []) (G := fun x37 => WLsgs cI o κ ++ WAll cI a μ) M w hA hl (k_low l D cI cZ cJ (shR zz 2) 3 (by omega)) gL_songs_L_low rfl ⟨rfl, rfl, by decide, by decide⟩ ⟨by show 0 ≤ 5; omega, by show 0 ≤ 30; omega⟩ 2 (by decide +kernel) rfl [] rfl (fun _ => rfl) rfl (Nat.le_of_ble_eq_true rfl) (fun _ => rfl) dL_songs_37 (fun z37 x37 h37 H locs w => ?_)
      refine q_is (lv' := [(10, .int (iI z37)), (9, .int (iI z16)), (8, .int (iI cv)), (0, .ref (a 0)), (1, .int (iI ac)), (2, .int (iI zz)), (3, .ref (o 6)), (4, .ref (o 7)), (5, .ref (o 4)), (6, .ref (o 8)), (7, .ref (o 11))]) M dL_songs_40 hl (by decide) rfl (fun ls hl => ?_)
      refine q_ic M dL_songs_42 ?_
      refine q_iln M dL_songs_43 (lv_at hl 5 rfl) ?_
      refine q_ic M dL_songs_44 ?_
      refine q_shr M dL_songs_45 ?_
      refine q_ic M dL_songs_46 ?_
      refine qe_iS (As := [.int (iI (shR zz 4)), .int (iI 4)]) (rest := [.int (iI 1)]) (wc := []) (G := fun x47 => WLsgs cI o κ ++ WAll cI a μ) M w hA hl (k_low l D cI cZ cJ (shR zz 4) 4 (by omega)) gL_songs_L_low rfl ⟨rfl, rfl, by decide, by decide⟩ ⟨by show 0 ≤ 5; omega, by show 0 ≤ 30; omega⟩ 2 (by decide +kernel) rfl [] rfl (fun _ => rfl) rfl (Nat.le_of_ble_eq_true rfl) (fun _ => rfl) dL_songs_47 (fun z47 x47 h47 H locs w => ?_)
      refine q_add M dL_songs_50 ?_
      refine q_is (lv' := [(11, .int (iI (1 + z47))), (10, .int (iI z37)), (9, .int (iI z16)), (8, .int (iI cv)), (0, .ref (a 0)), (1, .int (iI ac)), (2, .int (iI zz)), (3, .ref (o 6)), (4, .ref (o 7)), (5, .ref (o 4)), (6, .ref (o 8)), (7, .ref (o 11))]) M dL_songs_51 hl (by decide) rfl (fun ls hl => ?_)
      refine q_al M dL_songs_53 (lv_at hl 8 rfl) ?_
      refine q_il M dL_songs_55 (lv_at hl 2 rfl) ?_
      refine q_iald (f := κ 7) M w 2 0 rfl rfl (by omega) dL_songs_57 ?_
      refine q_top (y := ν 9 z16) (by exact n9.1.1) ?_
      refine q_ic M dL_songs_58 ?_
      refine q_icmp_ne (tgt := 64) M dL_songs_59 (by decide) (by omega) (fun c59 => ?_) (fun c59 => ?_)
      · refine q_il M dL_songs_64 (lv_at hl 3 rfl) ?_
        refine q_if_eq (tgt := 121) M dL_songs_66 (by decide) (by omega) (fun c66 => ?_) (fun c66 => ?_)
        · refine q_aln M dL_songs_121 (lv_at hl 4 rfl) ?_
          refine q_ic M dL_songs_122 ?_
          refine q_il M dL_songs_123 (lv_at hl 2 rfl) ?_
          refine q_il M dL_songs_125 (lv_at hl 1 rfl) ?_
          refine q_il M dL_songs_127 (lv_at hl 0 rfl) ?_
          refine q_ic M dL_songs_129 ?_
          refine qc_L (As := [.ref (a 0), .int (iI 4), .int (iI z16), .int (iI z37), .int (iI (1 + z47)), .int (iI 0)]) (rest := []) (wc := WAll cI a μ) (wc2 := WAll cI a μ) (ws2 := WLsgs cI o κ ++ WAll cI a μ) M w hA hT hl (c_addEntry l hfl D cI cZ cJ a μ z16 z37 (1 + z47) (by omega) (by omega) (by omega) h23 (Rel_h9 hR).1 (fun hc => SDs_ap (hR.2.2.1 _ hc.1.1 hc.1.2).1 hc.2.2.2 hc.2.1 hc.2.2.1 ((hR.2.2.1 _ hc.1.1 hc.1.2).2.2.1 _ (Int.le_refl _) hc.2.2.2)) 0 (-7) μ (Or.inr ⟨by rw [chk_t (show 0 ≤ z16 ∧ z16 ≤ 5 from by omega), chk_t (show 0 ≤ z37 ∧ z37 ≤ 11 from by omega), chk_t (show 1 ≤ (1 + z47) ∧ (1 + z47) ≤ 4 from by omega), chk_f (show ¬ (μ 23 0 = 0) from by omega)]; rfl, rfl, rfl⟩)) gL_songs_L_calls rfl ⟨by decide, by decide⟩ ⟨by show 0 + 5 ≤ 5; omega, by show 0 + 30 ≤ 30; omega⟩ 6 (by decide +kernel) rfl [false, false, false, false, false, true, true, true, true, true, true, true, true, true, true, true, true, true, true, true, true, true, true, true, true, true, true, true, true, true, true, true, true, true, true, true, true, true, true, true, true, true, true, true, true, true, true, true, true, true, true, true, true, true, true] rfl rfl rfl (Nat.le_of_ble_eq_true rfl) rfl dL_songs_130 (fun H locs w => ?_)
          refine q_il M dL_songs_133 (lv_at hl 3 rfl) ?_
          refine q_if_eq (tgt := 148) M dL_songs_135 (by decide) (by omega) (fun c135 => ?_) (fun c135 => ?_)
          · refine q_bp M dL_songs_148 (by decide +kernel) ?_
            refine q_icmp_neE (tgt := 157) (x := (-7)) (y := (-7)) M (by rfl) dL_songs_150 (by decide) ?_
            refine q_ic M dL_songs_153 ?_
            refine q_go (tgt := 158) M dL_songs_154 (by decide) ?_
            have hP9 : (1 : Int) = 1 ∧ ∃ ν2, Rel μ ν2 ∧ LR ν2 (mset (mset (mset κ 6 (κ 6)) 7 (κ 7)) 11 (κ 11)) := ⟨rfl, ν, hR, LR_n _ hL (fun _ => rfl) (fun _ => rfl)⟩
            exact kret _ _ _ _ _ (κ 6, κ 7, κ 11, μ) _ _ (by decide) (by decide) dL_songs_158 w (hP9)
          · exfalso; omega
        · refine q_bp M dL_songs_69 (by decide +kernel) ?_
          refine q_il M dL_songs_71 (lv_at hl 2 rfl) ?_
          refine q_mul M dL_songs_73 ?_
          refine q_ic M dL_songs_74 ?_
          refine q_al M dL_songs_75 (lv_at hl 8 rfl) ?_
          refine q_il M dL_songs_77 (lv_at hl 2 rfl) ?_
          refine q_iald (f := κ 7) M w 2 0 rfl rfl (by omega) dL_songs_79 ?_
          refine q_top (y := ν 9 z16) (by exact n9.1.1) ?_
          refine q_mul M dL_songs_80 ?_
          refine q_add M dL_songs_81 ?_
          refine q_is (lv' := [(12, .int (iI ((16 * z16) + (4 * (ν 9 z16))))), (11, .int (iI (1 + z47))), (10, .int (iI z37)), (9, .int (iI z16)), (8, .int (iI cv)), (0, .ref (a 0)), (1, .int (iI ac)), (2, .int (iI zz)), (3, .ref (o 6)), (4, .ref (o 7)), (5, .ref (o 4)), (6, .ref (o 8)), (7, .ref (o 11))]) M dL_songs_82 hl (by decide) rfl (fun ls hl => ?_)
          refine q_aln M dL_songs_84 (lv_at hl 8 rfl) ?_
          refine q_il M dL_songs_85 (lv_at hl 0 rfl) ?_
          refine q_il M dL_songs_87 (lv_at hl 2 rfl) ?_
          refine q_iast (f := κ 6) (ws2 := WLsgs cI o (mset κ 6 (iU (κ 6) ((16 * z16) + (4 * (ν 9 z16))) z37)) ++ WAll cI a μ) M w 1 0 rfl rfl (by omega) rfl dL_songs_89 (fun H locs w => ?_)
          refine q_aln M dL_songs_90 (lv_at hl 8 rfl) ?_
          refine q_il M dL_songs_91 (lv_at hl 0 rfl) ?_
          refine q_ic M dL_songs_93 ?_
          refine q_add M dL_songs_94 ?_
          refine q_il M dL_songs_95 (lv_at hl 1 rfl) ?_
          refine q_iast (f := iU (κ 6) ((16 * z16) + (4 * (ν 9 z16))) z37) (ws2 := WLsgs cI o (mset κ 6 (iU (iU (κ 6) ((16 * z16) + (4 * (ν 9 z16))) z37) (((16 * z16) + (4 * (ν 9 z16))) + 1) (1 + z47))) ++ WAll cI a μ) M w 1 0 rfl rfl (by omega) rfl dL_songs_97 (fun H locs w => ?_)
          refine q_aln M dL_songs_98 (lv_at hl 8 rfl) ?_
          refine q_il M dL_songs_99 (lv_at hl 0 rfl) ?_
          refine q_ic M dL_songs_101 ?_
          refine q_add M dL_songs_102 ?_
          refine q_ic M dL_songs_103 ?_
          refine q_iast (f := iU (iU (κ 6) ((16 * z16) + (4 * (ν 9 z16))) z37) (((16 * z16) + (4 * (ν 9 z16))) + 1) (1 + z47)) (ws2 := WLsgs cI o (mset κ 6 (iU (iU (iU (κ 6) ((16 * z16) + (4 * (ν 9 z16))) z37) (((16 * z16) + (4 * (ν 9 z16))) + 1) (1 + z47)) (((16 * z16) + (4 * (ν 9 z16))) + 2) 0)) ++ WAll cI a μ) M w 1 0 rfl rfl (by omega) rfl dL_songs_104 (fun H locs w => ?_)
          refine q_aln M dL_songs_105 (lv_at hl 8 rfl) ?_
          refine q_il M dL_songs_106 (lv_at hl 0 rfl) ?_
          refine q_ic M dL_songs_108 ?_
          refine q_add M dL_songs_109 ?_
          refine q_ic M dL_songs_110 ?_
          refine q_iast (f := iU (iU (iU (κ 6) ((16 * z16) + (4 * (ν 9 z16))) z37) (((16 * z16) + (4 * (ν 9 z16))) + 1) (1 + z47)) (((16 * z16) + (4 * (ν 9 z16))) + 2) 0) (ws2 := WLsgs cI o (mset κ 6 (iU (iU (iU (iU (κ 6) ((16 * z16) + (4 * (ν 9 z16))) z37) (((16 * z16) + (4 * (ν 9 z16))) + 1) (1 + z47)) (((16 * z16) + (4 * (ν 9 z16))) + 2) 0) (((16 * z16) + (4 * (ν 9 z16))) + 3) 0)) ++ WAll cI a μ) M w 1 0 rfl rfl (by omega) rfl dL_songs_111 (fun H locs w => ?_)
          refine q_al M dL_songs_112 (lv_at hl 9 rfl) ?_
          refine q_il M dL_songs_114 (lv_at hl 3 rfl) ?_
          refine q_dup2 M dL_songs_116 rfl rfl ?_
          refine q_iald (f := κ 7) M w 2 0 rfl rfl (by omega) dL_songs_117 ?_
          refine q_top (y := ν 9 z16) (by exact n9.1.1) ?_
          refine q_ic M dL_songs_118 ?_
          refine q_add M dL_songs_119 ?_
          refine q_iast (f := κ 7) (ws2 := WLsgs cI o (mset (mset κ 6 (iU (iU (iU (iU (κ 6) ((16 * z16) + (4 * (ν 9 z16))) z37) (((16 * z16) + (4 * (ν 9 z16))) + 1) (1 + z47)) (((16 * z16) + (4 * (ν 9 z16))) + 2) 0) (((16 * z16) + (4 * (ν 9 z16))) + 3) 0)) 7 (iU (κ 7) z16 ((ν 9 z16) + 1))) ++ WAll cI a μ) M w 2 0 rfl rfl (by omega) rfl dL_songs_120 (fun H locs w => ?_)
          refine q_aln M dL_songs_121 (lv_at hl 5 rfl) ?_
          refine q_ic M dL_songs_122 ?_
          refine q_il M dL_songs_123 (lv_at hl 3 rfl) ?_
          refine q_il M dL_songs_125 (lv_at hl 2 rfl) ?_
          refine q_il M dL_songs_127 (lv_at hl 1 rfl) ?_
          refine q_ic M dL_songs_129 ?_
          refine qc_L (As := [.ref (a 0), .int (iI 4), .int (iI z16), .int (iI z37), .int (iI (1 + z47)), .int (iI 0)]) (rest := []) (wc := WAll cI a μ) (wc2 := WAll cI a (laM (apM μ z16 z37 (1 + z47)) z16)) (ws2 := WLsgs cI o (mset (mset κ 6 (iU (iU (iU (iU (κ 6) ((16 * z16) + (4 * (ν 9 z16))) z37) (((16 * z16) + (4 * (ν 9 z16))) + 1) (1 + z47)) (((16 * z16) + (4 * (ν 9 z16))) + 2) 0) (((16 * z16) + (4 * (ν 9 z16))) + 3) 0)) 7 (iU (κ 7) z16 ((ν 9 z16) + 1))) ++ WAll cI a (laM (apM μ z16 z37 (1 + z47)) z16)) M w hA hT hl (c_addEntry l hfl D cI cZ cJ a μ z16 z37 (1 + z47) (by omega) (by omega) (by omega) h23 (Rel_h9 hR).1 (fun hc => SDs_ap (hR.2.2.1 _ hc.1.1 hc.1.2).1 hc.2.2.2 hc.2.1 hc.2.2.1 ((hR.2.2.1 _ hc.1.1 hc.1.2).2.2.1 _ (Int.le_refl _) hc.2.2.2)) 0 (μ 8 z16) (laM (apM μ z16 z37 (1 + z47)) z16) (Or.inl ⟨by rw [chk_t (show 0 ≤ z16 ∧ z16 ≤ 5 from by omega), chk_t (show 0 ≤ z37 ∧ z37 ≤ 11 from by omega), chk_t (show 1 ≤ (1 + z47) ∧ (1 + z47) ≤ 4 from by omega), chk_t (show μ 23 0 = 0 from by omega), chk_t (show μ 8 z16 < 8 from by omega)]; rfl, rfl, rfl⟩)) gL_songs_L_calls rfl ⟨by decide, by decide⟩ ⟨by show 0 + 5 ≤ 5; omega, by show 0 + 30 ≤ 30; omega⟩ 6 (by decide +kernel) rfl [false, false, false, false, false, true, true, true, true, true, true, true, true, true, true, true, true, true, true, true, true, true, true, true, true, true, true, true, true, true, true, true, true, true, true, true, true, true, true, true, true, true, true, true, true, true, true, true, true, true, true, true, true, true, true] rfl rfl rfl (Nat.le_of_ble_eq_true rfl) rfl dL_songs_130 (fun H locs w => ?_)
          refine q_il M dL_songs_133 (lv_at hl 4 rfl) ?_
          refine q_if_eq (tgt := 148) M dL_songs_135 (by decide) (by omega) (fun c135 => ?_) (fun c135 => ?_)
          · exfalso; omega
          · refine q_al M dL_songs_138 (lv_at hl 9 rfl) ?_
            refine q_il M dL_songs_140 (lv_at hl 3 rfl) ?_
            refine q_iald (f := iU (κ 7) z16 ((ν 9 z16) + 1)) M w 2 0 rfl rfl (by omega) dL_songs_142 ?_
            refine q_top (y := ν 9 z16 + 1) (by exact iU_s _ _ _) ?_
            refine q_ic M dL_songs_143 ?_
            refine q_sub M dL_songs_144 ?_
            refine q_go (tgt := 150) M dL_songs_145 (by decide) ?_
            refine q_icmp_neE (tgt := 157) (x := μ 8 z16) (y := (ν 9 z16 + 1) - 1) M (by omega) dL_songs_150 (by decide) ?_
            refine q_ic M dL_songs_153 ?_
            refine q_go (tgt := 158) M dL_songs_154 (by decide) ?_
            have hP9 : (1 : Int) = 1 ∧ ∃ ν2, Rel (laM (apM μ z16 z37 (1 + z47)) z16) ν2 ∧ LR ν2 (mset (mset (mset κ 6 (iU (iU (iU (iU (κ 6) ((16 * z16) + (4 * (ν 9 z16))) z37) (((16 * z16) + (4 * (ν 9 z16))) + 1) (1 + z47)) (((16 * z16) + (4 * (ν 9 z16))) + 2) 0) (((16 * z16) + (4 * (ν 9 z16))) + 3) 0)) 7 (iU (κ 7) z16 ((ν 9 z16) + 1))) 11 (κ 11)) := ⟨rfl, _, Rel_addEntry hR (by omega) (by omega) (by omega) (by omega) (by omega), LR_ae _ hL (by omega) (by omega) (by omega) (fun _ => rfl) (fun _ => rfl)⟩
            exact kret _ _ _ _ _ (iU (iU (iU (iU (κ 6) ((16 * z16) + (4 * (ν 9 z16))) z37) (((16 * z16) + (4 * (ν 9 z16))) + 1) (1 + z47)) (((16 * z16) + (4 * (ν 9 z16))) + 2) 0) (((16 * z16) + (4 * (ν 9 z16))) + 3) 0, iU (κ 7) z16 ((ν 9 z16) + 1), κ 11, (laM (apM μ z16 z37 (1 + z47)) z16)) _ _ (by decide) (by decide) dL_songs_158 w (hP9)
      · refine q_ic M dL_songs_62 ?_
        have hP9 : (1 : Int) = 1 ∧ ∃ ν2, Rel μ ν2 ∧ LR ν2 (mset (mset (mset κ 6 (κ 6)) 7 (κ 7)) 11 (κ 11)) := ⟨rfl, ν, hR, LR_n _ hL (fun _ => rfl) (fun _ => rfl)⟩
        exact kret _ _ _ _ _ (κ 6, κ 7, κ 11, μ) _ _ (by decide) (by decide) dL_songs_63 w (hP9)
    refine q_if_eq (tgt := 33) M dL_songs_22 (by decide) (by omega) (fun c22 => ?_) (fun c22 => ?_)
    · exact jn22  _ _ _  w (lv_sub hl [0, 1, 2, 3, 4, 5, 6, 7, 8, 9] rfl)
    · refine q_al M dL_songs_25 (lv_at hl 6 rfl) ?_
      refine q_il M dL_songs_27 (lv_at hl 0 rfl) ?_
      refine q_iald (f := κ 7) M w 2 0 rfl rfl (by omega) dL_songs_29 ?_
      refine q_top (y := ν 9 z16) (by exact n9.1.1) ?_
      refine q_if_ne (tgt := 159) M dL_songs_30 (by decide) (by omega) (fun c30 => ?_) (fun c30 => ?_)
      · refine q_iln M dL_songs_159 (lv_at hl 4 rfl) ?_
        refine q_ic M dL_songs_160 ?_
        refine q_shr M dL_songs_161 ?_
        refine q_al M dL_songs_162 (lv_at hl 6 rfl) ?_
        refine q_il M dL_songs_164 (lv_at hl 0 rfl) ?_
        refine q_iald (f := κ 7) M w 2 0 rfl rfl (by omega) dL_songs_166 ?_
        refine q_top (y := ν 9 z16) (by exact n9.1.1) ?_
        refine qe_iS (As := [.int (iI (shR zz 3)), .int (iI (ν 9 z16))]) (rest := []) (wc := []) (G := fun x167 => WLsgs cI o κ ++ WAll cI a μ) M w hA hl (k_low l D cI cZ cJ (shR zz 3) (ν 9 z16) (by omega)) gL_songs_L_low rfl ⟨rfl, rfl, by decide, by decide⟩ ⟨by show 0 ≤ 5; omega, by show 0 ≤ 30; omega⟩ 2 (by decide +kernel) rfl [] rfl (fun _ => rfl) rfl (Nat.le_of_ble_eq_true rfl) (fun _ => rfl) dL_songs_167 (fun z167 x167 h167 H locs w => ?_)
        refine q_is (lv' := [(10, .int (iI z167)), (9, .int (iI z16)), (8, .int (iI cv)), (0, .ref (a 0)), (1, .int (iI ac)), (2, .int (iI zz)), (3, .ref (o 6)), (4, .ref (o 7)), (5, .ref (o 4)), (6, .ref (o 8)), (7, .ref (o 11))]) M dL_songs_170 hl (by decide) rfl (fun ls hl => ?_)
        refine q_iln M dL_songs_172 (lv_at hl 5 rfl) ?_
        refine q_ic M dL_songs_173 ?_
        refine q_shr M dL_songs_174 ?_
        refine q_al M dL_songs_175 (lv_at hl 7 rfl) ?_
        refine q_il M dL_songs_177 (lv_at hl 1 rfl) ?_
        refine q_iald (f := κ 7) M w 2 0 rfl rfl (by omega) dL_songs_179 ?_
        refine q_top (y := ν 9 z16) (by exact n9.1.1) ?_
        refine qe_iS (As := [.int (iI (shR zz 5)), .int (iI (ν 9 z16))]) (rest := []) (wc := []) (G := fun x180 => WLsgs cI o κ ++ WAll cI a μ) M w hA hl (k_low l D cI cZ cJ (shR zz 5) (ν 9 z16) (by omega)) gL_songs_L_low rfl ⟨rfl, rfl, by decide, by decide⟩ ⟨by show 0 ≤ 5; omega, by show 0 ≤ 30; omega⟩ 2 (by decide +kernel) rfl [] rfl (fun _ => rfl) rfl (Nat.le_of_ble_eq_true rfl) (fun _ => rfl) dL_songs_180 (fun z180 x180 h180 H locs w => ?_)
        refine q_is (lv' := [(11, .int (iI z180)), (10, .int (iI z167)), (9, .int (iI z16)), (8, .int (iI cv)), (0, .ref (a 0)), (1, .int (iI ac)), (2, .int (iI zz)), (3, .ref (o 6)), (4, .ref (o 7)), (5, .ref (o 4)), (6, .ref (o 8)), (7, .ref (o 11))]) M dL_songs_183 hl (by decide) rfl (fun ls hl => ?_)
        refine q_iln M dL_songs_185 (lv_at hl 6 rfl) ?_
        refine q_bp M dL_songs_186 (by decide +kernel) ?_
        refine q_shr M dL_songs_188 ?_
        refine q_ic M dL_songs_189 ?_
        refine qe_iS (As := [.int (iI (shR zz 8)), .int (iI 4)]) (rest := []) (wc := []) (G := fun x190 => WLsgs cI o κ ++ WAll cI a μ) M w hA hl (k_low l D cI cZ cJ (shR zz 8) 4 (by omega)) gL_songs_L_low rfl ⟨rfl, rfl, by decide, by decide⟩ ⟨by show 0 ≤ 5; omega, by show 0 ≤ 30; omega⟩ 2 (by decide +kernel) rfl [] rfl (fun _ => rfl) rfl (Nat.le_of_ble_eq_true rfl) (fun _ => rfl) dL_songs_190 (fun z190 x190 h190 H locs w => ?_)
        refine q_is (lv' := [(12, .int (iI z190)), (11, .int (iI z180)), (10, .int (iI z167)), (9, .int (iI z16)), (8, .int (iI cv)), (0, .ref (a 0)), (1, .int (iI ac)), (2, .int (iI zz)), (3, .ref (o 6)), (4, .ref (o 7)), (5, .ref (o 4)), (6, .ref (o 8)), (7, .ref (o 11))]) M dL_songs_193 hl (by decide) rfl (fun ls hl => ?_)
        refine q_aln M dL_songs_195 (lv_at hl 8 rfl) ?_
        refine q_bp M dL_songs_196 (by decide +kernel) ?_
        refine q_il M dL_songs_198 (lv_at hl 3 rfl) ?_
        refine q_mul M dL_songs_200 ?_
        refine q_ic M dL_songs_201 ?_
        refine q_il M dL_songs_202 (lv_at hl 2 rfl) ?_
        refine q_mul M dL_songs_204 ?_
        refine q_add M dL_songs_205 ?_
        refine q_ic M dL_songs_206 ?_
        refine q_add M dL_songs_207 ?_
        refine q_il M dL_songs_208 (lv_at hl 4 rfl) ?_
        refine q_if_eq (tgt := 218) M dL_songs_210 (by decide) (by omega) (fun c210 => ?_) (fun c210 => ?_)
        · refine q_aln M dL_songs_218 (lv_at hl 8 rfl) ?_
          refine q_bp M dL_songs_219 (by decide +kernel) ?_
          refine q_il M dL_songs_221 (lv_at hl 3 rfl) ?_
          refine q_mul M dL_songs_223 ?_
          refine q_ic M dL_songs_224 ?_
          refine q_il M dL_songs_225 (lv_at hl 2 rfl) ?_
          refine q_mul M dL_songs_227 ?_
          refine q_add M dL_songs_228 ?_
          refine q_ic M dL_songs_229 ?_
          refine q_add M dL_songs_230 ?_
          refine q_iald (f := κ 6) M w 1 0 rfl rfl (by omega) dL_songs_231 ?_
          refine q_iast (f := κ 6) (ws2 := WLsgs cI o (mset κ 6 (iU (κ 6) (((16 * z16) + (4 * z167)) + 2) ((κ 6) (((16 * z16) + (4 * z167)) + 2)))) ++ WAll cI a μ) M w 1 0 rfl rfl (by omega) rfl dL_songs_232 (fun H locs w => ?_)
          refine q_aln M dL_songs_233 (lv_at hl 8 rfl) ?_
          refine q_bp M dL_songs_234 (by decide +kernel) ?_
          refine q_il M dL_songs_236 (lv_at hl 3 rfl) ?_
          refine q_mul M dL_songs_238 ?_
          refine q_ic M dL_songs_239 ?_
          refine q_il M dL_songs_240 (lv_at hl 2 rfl) ?_
          refine q_mul M dL_songs_242 ?_
          refine q_add M dL_songs_243 ?_
          refine q_ic M dL_songs_244 ?_
          refine q_add M dL_songs_245 ?_
          refine q_il M dL_songs_246 (lv_at hl 4 rfl) ?_
          refine q_if_eq (tgt := 256) M dL_songs_248 (by decide) (by omega) (fun c248 => ?_) (fun c248 => ?_)
          · refine q_aln M dL_songs_256 (lv_at hl 8 rfl) ?_
            refine q_bp M dL_songs_257 (by decide +kernel) ?_
            refine q_il M dL_songs_259 (lv_at hl 3 rfl) ?_
            refine q_mul M dL_songs_261 ?_
            refine q_ic M dL_songs_262 ?_
            refine q_il M dL_songs_263 (lv_at hl 2 rfl) ?_
            refine q_mul M dL_songs_265 ?_
            refine q_add M dL_songs_266 ?_
            refine q_ic M dL_songs_267 ?_
            refine q_add M dL_songs_268 ?_
            refine q_iald (f := iU (κ 6) (((16 * z16) + (4 * z167)) + 2) ((κ 6) (((16 * z16) + (4 * z167)) + 2))) M w 1 0 rfl rfl (by omega) dL_songs_269 ?_
            refine q_iast (f := iU (κ 6) (((16 * z16) + (4 * z167)) + 2) ((κ 6) (((16 * z16) + (4 * z167)) + 2))) (ws2 := WLsgs cI o (mset κ 6 (iU (iU (κ 6) (((16 * z16) + (4 * z167)) + 2) ((κ 6) (((16 * z16) + (4 * z167)) + 2))) (((16 * z16) + (4 * z167)) + 3) ((iU (κ 6) (((16 * z16) + (4 * z167)) + 2) ((κ 6) (((16 * z16) + (4 * z167)) + 2))) (((16 * z16) + (4 * z167)) + 3)))) ++ WAll cI a μ) M w 1 0 rfl rfl (by omega) rfl dL_songs_270 (fun H locs w => ?_)
            refine q_aln M dL_songs_271 (lv_at hl 5 rfl) ?_
            refine q_ic M dL_songs_272 ?_
            refine q_il M dL_songs_273 (lv_at hl 3 rfl) ?_
            refine q_il M dL_songs_275 (lv_at hl 2 rfl) ?_
            refine q_il M dL_songs_277 (lv_at hl 1 rfl) ?_
            refine q_il M dL_songs_279 (lv_at hl 0 rfl) ?_
            refine qc_L (As := [.ref (a 0), .int (iI 5), .int (iI z16), .int (iI z167), .int (iI z180), .int (iI z190)]) (rest := []) (wc := WAll cI a μ) (wc2 := WAll cI a μ) (ws2 := WLsgs cI o (mset κ 6 (iU (iU (κ 6) (((16 * z16) + (4 * z167)) + 2) ((κ 6) (((16 * z16) + (4 * z167)) + 2))) (((16 * z16) + (4 * z167)) + 3) ((iU (κ 6) (((16 * z16) + (4 * z167)) + 2) ((κ 6) (((16 * z16) + (4 * z167)) + 2))) (((16 * z16) + (4 * z167)) + 3)))) ++ WAll cI a μ) M w hA hT hl (c_jump l hfl D cI cZ cJ a μ z16 z167 z180 z190 (by omega) (by omega) (by omega) (by omega) h23 (Rel_h9 hR).1 (fun hc => SDs_ju (hR.2.2.1 _ hc.1.1 hc.1.2).1 hc.2.2.1 hc.2.2.2) (-7) μ (Or.inr ⟨by rw [chk_t (show 0 ≤ z16 ∧ z16 ≤ 5 from by omega), chk_t (show 0 ≤ z167 ∧ z167 ≤ μ 8 z16 - 1 from by omega), chk_t (show 0 ≤ z180 ∧ z180 ≤ μ 8 z16 - 1 from by omega), chk_t (show 0 ≤ z190 ∧ z190 ≤ 3 from by omega), chk_f (show ¬ (μ 23 0 = 0) from by omega)]; rfl, rfl, rfl⟩)) gL_songs_L_calls rfl ⟨by decide, by decide⟩ ⟨by show 0 + 5 ≤ 5; omega, by show 0 + 30 ≤ 30; omega⟩ 6 (by decide +kernel) rfl [false, false, false, false, false, true, true, true, true, true, true, true, true, true, true, true, true, true, true, true, true, true, true, true, true, true, true, true, true, true, true, true, true, true, true, true, true, true, true, true, true, true, true, true, true, true, true, true, true, true, true, true, true, true, true] rfl rfl rfl (Nat.le_of_ble_eq_true rfl) rfl dL_songs_281 (fun H locs w => ?_)
            refine q_il M dL_songs_284 (lv_at hl 4 rfl) ?_
            refine q_if_eq (tgt := 305) M dL_songs_286 (by decide) (by omega) (fun c286 => ?_) (fun c286 => ?_)
            · refine q_bp M dL_songs_305 (by decide +kernel) ?_
              refine q_icmp_neE (tgt := 314) (x := (-7)) (y := (-7)) M (by rfl) dL_songs_307 (by decide) ?_
              refine q_ic M dL_songs_310 ?_
              refine q_go (tgt := 315) M dL_songs_311 (by decide) ?_
              have hP9 : (1 : Int) = 1 ∧ ∃ ν2, Rel μ ν2 ∧ LR ν2 (mset (mset (mset κ 6 (iU (iU (κ 6) (((16 * z16) + (4 * z167)) + 2) ((κ 6) (((16 * z16) + (4 * z167)) + 2))) (((16 * z16) + (4 * z167)) + 3) ((iU (κ 6) (((16 * z16) + (4 * z167)) + 2) ((κ 6) (((16 * z16) + (4 * z167)) + 2))) (((16 * z16) + (4 * z167)) + 3)))) 7 (κ 7)) 11 (κ 11)) := ⟨rfl, ν, hR, LR_n _ hL (fun j => by rw [iU_self, iU_self]) (fun _ => rfl)⟩
              exact kret _ _ _ _ _ (iU (iU (κ 6) (((16 * z16) + (4 * z167)) + 2) ((κ 6) (((16 * z16) + (4 * z167)) + 2))) (((16 * z16) + (4 * z167)) + 3) ((iU (κ 6) (((16 * z16) + (4 * z167)) + 2) ((κ 6) (((16 * z16) + (4 * z167)) + 2))) (((16 * z16) + (4 * z167)) + 3)), κ 7, κ 11, μ) _ _ (by decide) (by decide) dL_songs_315 w (hP9)
            · exfalso; omega
          · exfalso; omega
        · refine q_il M dL_songs_213 (lv_at hl 1 rfl) ?_
          refine q_go (tgt := 232) M dL_songs_215 (by decide) ?_
          refine q_iast (f := κ 6) (ws2 := WLsgs cI o (mset κ 6 (iU (κ 6) (((16 * z16) + (4 * z167)) + 2) z180)) ++ WAll cI a μ) M w 1 0 rfl rfl (by omega) rfl dL_songs_232 (fun H locs w => ?_)
          refine q_aln M dL_songs_233 (lv_at hl 8 rfl) ?_
          refine q_bp M dL_songs_234 (by decide +kernel) ?_
          refine q_il M dL_songs_236 (lv_at hl 3 rfl) ?_
          refine q_mul M dL_songs_238 ?_
          refine q_ic M dL_songs_239 ?_
          refine q_il M dL_songs_240 (lv_at hl 2 rfl) ?_
          refine q_mul M dL_songs_242 ?_
          refine q_add M dL_songs_243 ?_
          refine q_ic M dL_songs_244 ?_
          refine q_add M dL_songs_245 ?_
          refine q_il M dL_songs_246 (lv_at hl 4 rfl) ?_
          refine q_if_eq (tgt := 256) M dL_songs_248 (by decide) (by omega) (fun c248 => ?_) (fun c248 => ?_)
          · exfalso; omega
          · refine q_il M dL_songs_251 (lv_at hl 0 rfl) ?_
            refine q_go (tgt := 270) M dL_songs_253 (by decide) ?_
            refine q_iast (f := iU (κ 6) (((16 * z16) + (4 * z167)) + 2) z180) (ws2 := WLsgs cI o (mset κ 6 (iU (iU (κ 6) (((16 * z16) + (4 * z167)) + 2) z180) (((16 * z16) + (4 * z167)) + 3) z190)) ++ WAll cI a μ) M w 1 0 rfl rfl (by omega) rfl dL_songs_270 (fun H locs w => ?_)
            refine q_aln M dL_songs_271 (lv_at hl 5 rfl) ?_
            refine q_ic M dL_songs_272 ?_
            refine q_il M dL_songs_273 (lv_at hl 3 rfl) ?_
            refine q_il M dL_songs_275 (lv_at hl 2 rfl) ?_
            refine q_il M dL_songs_277 (lv_at hl 1 rfl) ?_
            refine q_il M dL_songs_279 (lv_at hl 0 rfl) ?_
            refine qc_L (As := [.ref (a 0), .int (iI 5), .int (iI z16), .int (iI z167), .int (iI z180), .int (iI z190)]) (rest := []) (wc := WAll cI a μ) (wc2 := WAll cI a (laM (juM μ z16 z167 z180 z190) z16)) (ws2 := WLsgs cI o (mset κ 6 (iU (iU (κ 6) (((16 * z16) + (4 * z167)) + 2) z180) (((16 * z16) + (4 * z167)) + 3) z190)) ++ WAll cI a (laM (juM μ z16 z167 z180 z190) z16)) M w hA hT hl (c_jump l hfl D cI cZ cJ a μ z16 z167 z180 z190 (by omega) (by omega) (by omega) (by omega) h23 (Rel_h9 hR).1 (fun hc => SDs_ju (hR.2.2.1 _ hc.1.1 hc.1.2).1 hc.2.2.1 hc.2.2.2) (lBs (juM μ z16 z167 z180 z190) z16) (laM (juM μ z16 z167 z180 z190) z16) (Or.inl ⟨by rw [chk_t (show 0 ≤ z16 ∧ z16 ≤ 5 from by omega), chk_t (show 0 ≤ z167 ∧ z167 ≤ μ 8 z16 - 1 from by omega), chk_t (show 0 ≤ z180 ∧ z180 ≤ μ 8 z16 - 1 from by omega), chk_t (show 0 ≤ z190 ∧ z190 ≤ 3 from by omega), chk_t (show μ 23 0 = 0 from by omega)]; rfl, rfl, rfl⟩)) gL_songs_L_calls rfl ⟨by decide, by decide⟩ ⟨by show 0 + 5 ≤ 5; omega, by show 0 + 30 ≤ 30; omega⟩ 6 (by decide +kernel) rfl [false, false, false, false, false, true, true, true, true, true, true, true, true, true, true, true, true, true, true, true, true, true, true, true, true, true, true, true, true, true, true, true, true, true, true, true, true, true, true, true, true, true, true, true, true, true, true, true, true, true, true, true, true, true, true] rfl rfl rfl (Nat.le_of_ble_eq_true rfl) rfl dL_songs_281 (fun H locs w => ?_)
            refine q_il M dL_songs_284 (lv_at hl 4 rfl) ?_
            refine q_if_eq (tgt := 305) M dL_songs_286 (by decide) (by omega) (fun c286 => ?_) (fun c286 => ?_)
            · exfalso; omega
            · refine q_il M dL_songs_289 (lv_at hl 3 rfl) ?_
              refine q_ic M dL_songs_291 ?_
              refine q_al M dL_songs_292 (lv_at hl 12 rfl) ?_
              refine q_aln M dL_songs_294 (lv_at hl 8 rfl) ?_
              refine q_al M dL_songs_295 (lv_at hl 9 rfl) ?_
              refine q_al M dL_songs_297 (lv_at hl 10 rfl) ?_
              have hJ := Rel_jump hR (s := z16) (e := z167) (g := z180) (t := z190) (by omega) (by omega) (by omega) (by omega) (by omega)
              have hLJ : ∀ V : Int → Int, LR (jmR ν z16 z167 z180 z190) (mset (mset (mset κ 6 (iU (iU (κ 6) (((16 * z16) + (4 * z167)) + 2) z180) (((16 * z16) + (4 * z167)) + 3) z190)) 7 (κ 7)) 11 V) := fun V => LR_ju V hL (by omega) (by omega) (fun _ => rfl) (fun _ => rfl)
              have hjl := Rel_jlB hR (s := z16) (e := z167) (g := z180) (t := z190) (by omega) (by omega) (by omega) (by omega) (by omega)
              refine qe_iS (As := [.int (iI z16), .int (iI 0), .ref (o 11), .ref (o 6), .ref (o 7), .ref (o 4)]) (rest := [.int (iI (lBs (juM μ z16 z167 z180 z190) z16))]) (wc := WLlay cI o (o 11) (mset κ 6 (iU (iU (κ 6) (((16 * z16) + (4 * z167)) + 2) z180) (((16 * z16) + (4 * z167)) + 3) z190)) (κ 11)) (G := fun x299 => WLsgs cI o (mset (mset κ 6 (iU (iU (κ 6) (((16 * z16) + (4 * z167)) + 2) z180) (((16 * z16) + (4 * z167)) + 3) z190)) 11 x299) ++ WAll cI a (laM (juM μ z16 z167 z180 z190) z16)) M w hA hl (k_lays l D cI cZ cJ o (mset κ 6 (iU (iU (κ 6) (((16 * z16) + (4 * z167)) + 2) z180) (((16 * z16) + (4 * z167)) + 3) z190)) (jmR ν z16 z167 z180 z190) z16 0 (o 11) (κ 11) (Rel_IP hJ) (Rel_SD hJ (by omega)) (by omega) (by omega) (hLJ (κ 11)).2.2.1 (fun k a b => ((hLJ (κ 11)).1.2.2 k a b).2)) gL_songs_L_lays rfl ⟨rfl, rfl, by decide, by decide⟩ ⟨by show (0 + 5) ≤ 5; omega, by show (0 + 30) ≤ 30; omega⟩ 6 (by decide +kernel) rfl [true, true, true, false, true] rfl (fun _ => rfl) rfl (Nat.le_of_ble_eq_true rfl) (fun _ => rfl) dL_songs_299 (fun z299 x299 h299 H locs w => ?_)
              refine q_go (tgt := 307) M dL_songs_302 (by decide) ?_
              refine q_icmp_neE (tgt := 314) (x := lBs (juM μ z16 z167 z180 z190) z16) (y := z299) M (by rw [h299.1]; exact hjl) dL_songs_307 (by decide) ?_
              refine q_ic M dL_songs_310 ?_
              refine q_go (tgt := 315) M dL_songs_311 (by decide) ?_
              have hP9 : (1 : Int) = 1 ∧ ∃ ν2, Rel (laM (juM μ z16 z167 z180 z190) z16) ν2 ∧ LR ν2 (mset (mset (mset κ 6 (iU (iU (κ 6) (((16 * z16) + (4 * z167)) + 2) z180) (((16 * z16) + (4 * z167)) + 3) z190)) 7 (κ 7)) 11 x299) := ⟨rfl, _, hJ, hLJ _⟩
              exact kret _ _ _ _ _ (iU (iU (κ 6) (((16 * z16) + (4 * z167)) + 2) z180) (((16 * z16) + (4 * z167)) + 3) z190, κ 7, x299, (laM (juM μ z16 z167 z180 z190) z16)) _ _ (by decide) (by decide) dL_songs_315 w (hP9)
      · exact jn22  _ _ _  w (lv_sub hl [0, 1, 2, 3, 4, 5, 6, 7, 8, 9] rfl)
  refine q_if_ne (tgt := 11) M dL_songs_4 (by decide) (by omega) (fun c4 => ?_) (fun c4 => ?_)
  · refine q_ic M dL_songs_11 ?_
    exact jn4 0 _ _ _ (by omega) w (lv_sub hl [0, 1, 2, 3, 4, 5, 6, 7] rfl)
  · refine q_ic M dL_songs_7 ?_
    refine q_go (tgt := 12) M dL_songs_8 (by decide) ?_
    exact jn4 1 _ _ _ (by omega) w (lv_sub hl [0, 1, 2, 3, 4, 5, 6, 7] rfl)
