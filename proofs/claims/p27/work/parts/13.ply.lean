/-! THE MACHINE: what a tick does -/
theorem cdF_bd (μ : Nat → Int → Int) {p t : Int} (hp : 0 ≤ p ∧ p < 12) : 0 ≤ cdF μ p t ∧ cdF μ p t < 120 := by
  unfold cdF
  split <;> omega
theorem cAt_bd {μ : Nat → Int → Int} (hI : IH μ) {h : Int} (hc : (0 ≤ h ∧ h ≤ 3) ∧ (0 ≤ μ 24 0 ∧ μ 24 0 ≤ μ 22 0) ∧ 0 ≤ μ 25 0 ∧ μ 25 0 < 64) {n : Int} (hn : 0 ≤ n) :
    0 ≤ (itI (fun _ st => caS μ st) (μ 24 0, μ 25 0 + h) n).1 ∧ (itI (fun _ st => caS μ st) (μ 24 0, μ 25 0 + h) n).1 ≤ μ 22 0 ∧ 0 ≤ (itI (fun _ st => caS μ st) (μ 24 0, μ 25 0 + h) n).2 ∧ (itI (fun _ st => caS μ st) (μ 24 0, μ 25 0 + h) n).2 < 70 := by
  refine itI_ind (fun _ (st : Int × Int) => 0 ≤ st.1 ∧ st.1 ≤ μ 22 0 ∧ 0 ≤ st.2 ∧ st.2 < 70) (by dsimp only; omega) (fun j st hj ih => ?_) hn
  unfold caS
  by_cases q : st.1 < μ 22 0 ∧ μ 13 (μ 18 st.1) ≤ st.2
  · rw [if_pos q]
    have i2 := hI.2.1 st.1 ih.1 q.1
    have i3 := hI.2.2 (μ 18 st.1) i2.1 i2.2
    dsimp only
    omega
  · rw [if_neg q]; exact ih
/-- how far the looking ahead goes: it stands still after at most 8 songs -/
theorem cAt_end {μ : Nat → Int → Int} (hI : IH μ) {h : Int} (hc : (0 ≤ h ∧ h ≤ 3) ∧ (0 ≤ μ 24 0 ∧ μ 24 0 ≤ μ 22 0) ∧ 0 ≤ μ 25 0 ∧ μ 25 0 < 64) : μ 22 0 ≤ (cAt μ h).1 ∨ (cAt μ h).2 < μ 13 (μ 18 (cAt μ h).1) := by
  have key : ∀ n : Int, 0 ≤ n → (μ 22 0 ≤ (itI (fun _ st => caS μ st) (μ 24 0, μ 25 0 + h) n).1 ∨ (itI (fun _ st => caS μ st) (μ 24 0, μ 25 0 + h) n).2 < μ 13 (μ 18 (itI (fun _ st => caS μ st) (μ 24 0, μ 25 0 + h) n).1)) ∨ n ≤ (itI (fun _ st => caS μ st) (μ 24 0, μ 25 0 + h) n).1 := by
    intro n hn
    refine itI_ind (fun n (st : Int × Int) => (μ 22 0 ≤ st.1 ∨ st.2 < μ 13 (μ 18 st.1)) ∨ n ≤ st.1) (Or.inr (by dsimp only; omega)) (fun j st hj ih => ?_) hn
    unfold caS
    by_cases q : st.1 < μ 22 0 ∧ μ 13 (μ 18 st.1) ≤ st.2
    · rw [if_pos q]
      dsimp only
      omega
    · rw [if_neg q]; omega
  have h1 := key 8 (by omega)
  have h2 := cAt_bd hI hc (n := 8) (by omega)
  have h3 := hI.1
  have h4 : (μ 22 0 ≤ (cAt μ h).1 ∨ (cAt μ h).2 < μ 13 (μ 18 (cAt μ h).1)) ∨ 8 ≤ (cAt μ h).1 := h1
  omega
theorem cAh_bd {μ : Nat → Int → Int} (hI : IH μ) (hB : IB μ) {h : Int} (hc : (0 ≤ h ∧ h ≤ 3) ∧ (0 ≤ μ 24 0 ∧ μ 24 0 ≤ μ 22 0) ∧ 0 ≤ μ 25 0 ∧ μ 25 0 < 64) : -1 ≤ cAh μ h ∧ cAh μ h < 120 := by
  unfold cAh cAz
  have h2 : 0 ≤ (cAt μ h).1 ∧ (cAt μ h).1 ≤ μ 22 0 ∧ 0 ≤ (cAt μ h).2 ∧ (cAt μ h).2 < 70 := cAt_bd hI hc (n := 8) (by omega)
  by_cases q : (cAt μ h).1 < μ 22 0
  · rw [if_pos q]
    have i2 := hI.2.1 _ h2.1 q
    have h3 := cAt_end hI hc
    have h4 := hB _ _ i2.1 i2.2 h2.2.2.1 (by omega)
    have := cdF_bd μ (t := μ 15 (μ 18 (cAt μ h).1 * 64 + (cAt μ h).2)) h4.1
    omega
  · rw [if_neg q]; omega
/-- one sample played: (sounds, misses, number) -/
def psF (μ : Nat → Int → Int) (c s : Int) (x : Int × Int × Int) : Int × Int × Int := if μ 0 s ≤ μ 21 s then (x.1 + 1, x.2.1, 31 * x.2.2 + 100 * s + tnI μ c s + 12) else (x.1, x.2.1 + 1, x.2.2)
noncomputable def plF (μ : Nat → Int → Int) (c st : Int) (x : Int × Int × Int) (k : Int) : Int × Int × Int := itI (fun t y => if sA μ c t st = -1 then y else psF μ c (sA μ c t st) y) x k
noncomputable def ebN (μ : Nat → Int → Int) (k : Int) : Int → Int := itI (fun i g => if cAh μ (3 - i) = -1 then g else nBr μ (cAh μ (3 - i)) ((3 - i) * 192) g 16) (fun _ => 768) k
theorem ebN_bd {μ : Nat → Int → Int} (hP : IP μ) {k : Int} (hk : 0 ≤ k ∧ k ≤ 3) : ∀ i, 0 ≤ ebN μ k i ∧ ebN μ k i ≤ 768 := by
  refine (itI_ind (fun n (h : Int → Int) => n ≤ 3 → ∀ i, 0 ≤ h i ∧ h i ≤ 768) (fun _ _ => by omega) (fun j h hj ih hn => ?_) hk.1) hk.2
  split
  · exact ih (by omega)
  · exact nBr_bd hP (ih (by omega)) (by omega) (by omega)

set_option maxHeartbeats 4000000 in
set_option maxRecDepth 100000 in
/-- playSample -/
theorem k_playSample (l : Launch) (D : va_G) (cI cZ cJ : ClassId) (a : Nat → Nat) (μ : Nat → Int → Int) (x1 x2 x3 s : Int) (hI : IP μ) (hg : ∀ i, -100 ≤ μ 21 i ∧ μ 21 i ≤ 1000) (hz : ∀ i, 1 ≤ μ 0 i ∧ μ 0 i ≤ 6) (hc : (0 ≤ s ∧ s < 8) ∧ 0 ≤ μ 30 0 ∧ μ 30 0 < 120) : Cv l D (tY cI cZ cJ) yX6_playSample wsX6_playSample rmX6_playSample [.ref (a 0), .int (iI s)] (WPly cI a μ (fun _ => x1) (fun _ => x2) (fun _ => x3)) (WPly cI a μ (fun _ => (psF μ (μ 30 0) s (x1, x2, x3)).1) (fun _ => (psF μ (μ 30 0) s (x1, x2, x3)).2.1) (fun _ => (psF μ (μ 30 0) s (x1, x2, x3)).2.2)) := by
  refine qv_of (by decide +kernel) rfl (Nat.le_of_ble_eq_true rfl) ?_
  intro zp ze zs zm zargs zbelow zmeth zc A Q ls M hA w hl kret
  have hl : lv_has ls 3 [(0, .ref (a 0)), (1, .int (iI s))] := hl
  have in6 : ∀ w ∈ u_ws RX6 TX6 11, w ∈ wsX6_playSample := by decide +kernel
  refine q_aln M dX6_playSample_0 (lv_at hl 0 rfl) ?_
  refine q_get (v := .ref (a 5)) M w in6 0 6 rfl rfl (by decide) (by decide +kernel) rfl rfl dX6_playSample_1 ?_
  refine q_iln M dX6_playSample_4 (lv_at hl 1 rfl) ?_
  refine qc_iV (As := [.int (iI s)]) (rest := []) (wc := WMy cI a μ (μ 21) (fun _ => (μ 27 0)) (fun _ => (μ 28 0)) (fun _ => (μ 29 0))) (wc2 := WMy cI a μ (μ 21) (fun _ => (μ 27 0)) (fun _ => (μ 28 0)) (fun _ => (μ 29 0))) (ws2 := WPly cI a μ (fun _ => x1) (fun _ => x2) (fun _ => x3)) M w hA hl (k_hasAllPages l D cI cZ cJ a μ (μ 21) (μ 27 0) (μ 28 0) (μ 29 0) s hg hz (by omega)) gX6_playSample_X1_hasAllPages rfl ⟨rfl, rfl, by decide, by decide⟩ ⟨Nat.zero_le _, Nat.zero_le _⟩ 1 ⟨rfl, by decide +kernel⟩ rfl [false, false, false, false, false, false, false, false, false, false, false, false, false, false, false, false, true, true, true, true, true] rfl rfl 16 rfl rfl rfl (Nat.le_of_ble_eq_true rfl) rfl dX6_playSample_5 (fun H locs w => ?_)
  have q5 : (if μ 0 s ≤ μ 21 s then (1 : Int) else 0) = 1 ∧ μ 0 s ≤ μ 21 s ∨ (if μ 0 s ≤ μ 21 s then (1 : Int) else 0) = 0 ∧ μ 21 s < μ 0 s := by split <;> omega
  refine q_if_ne (tgt := 22) M dX6_playSample_8 (by decide) (by omega) (fun c8 => ?_) (fun c8 => ?_)
  · refine q_aln M dX6_playSample_22 (lv_at hl 0 rfl) ?_
    refine q_dup M dX6_playSample_23 rfl ?_
    refine q_get (v := .int (iI x1)) M w in6 0 8 rfl rfl (by decide) (by decide +kernel) rfl rfl dX6_playSample_24 ?_
    refine q_ic M dX6_playSample_27 ?_
    refine q_add M dX6_playSample_28 ?_
    refine q_put (ws2 := WPly cI a μ (fun _ => x1 + 1) (fun _ => x2) (fun _ => x3)) M w in6 0 8 tyX6 tyX6_ok nmX6 rfl rfl (by decide) (by decide +kernel) rfl rfl rfl rfl (Nat.le_of_ble_eq_true rfl) rfl dX6_playSample_29 (fun H locs w => ?_)
    refine q_aln M dX6_playSample_32 (lv_at hl 0 rfl) ?_
    refine q_get (v := .ref (a 1)) M w in6 0 2 rfl rfl (by decide) (by decide +kernel) rfl rfl dX6_playSample_33 ?_
    refine q_aln M dX6_playSample_36 (lv_at hl 0 rfl) ?_
    refine q_get (v := .int (iI (μ 30 0))) M w in6 0 7 rfl rfl (by decide) (by decide +kernel) rfl rfl dX6_playSample_37 ?_
    refine q_iln M dX6_playSample_40 (lv_at hl 1 rfl) ?_
    refine q_aln M dX6_playSample_41 (lv_at hl 0 rfl) ?_
    refine q_get (v := .ref (a 12)) M w in6 0 1 rfl rfl (by decide) (by decide +kernel) rfl rfl dX6_playSample_42 ?_
    refine qc_iV (As := [.int (iI (μ 30 0)), .int (iI s), .ref (a 12)]) (rest := []) (wc := WPat cI a μ) (wc2 := WPat cI a μ) (ws2 := WPly cI a μ (fun _ => x1 + 1) (fun _ => x2) (fun _ => x3)) M w hA hl (k_tuneIn l D cI cZ cJ a μ (μ 30 0) s hI (by omega)) gX6_playSample_X2_tuneIn rfl ⟨rfl, rfl, by decide, by decide⟩ ⟨Nat.zero_le _, Nat.zero_le _⟩ 3 ⟨rfl, by decide +kernel⟩ rfl [false, true, true, true, true, true, true, true, true, true, true, true, true, true, true, true] rfl rfl 3 rfl rfl rfl (Nat.le_of_ble_eq_true rfl) rfl dX6_playSample_45 (fun H locs w => ?_)
    refine q_isn (lv' := [(2, .int (iI (tnI μ (μ 30 0) s))), (0, .ref (a 0)), (1, .int (iI s))]) M dX6_playSample_48 rfl hl (by decide) rfl (fun ls hl => ?_)
    refine q_aln M dX6_playSample_49 (lv_at hl 1 rfl) ?_
    refine q_bp M dX6_playSample_50 (by decide +kernel) ?_
    refine q_aln M dX6_playSample_52 (lv_at hl 1 rfl) ?_
    refine q_get (v := .int (iI x3)) M w in6 0 10 rfl rfl (by decide) (by decide +kernel) rfl rfl dX6_playSample_53 ?_
    refine q_mul M dX6_playSample_56 ?_
    refine q_bp M dX6_playSample_57 (by decide +kernel) ?_
    refine q_iln M dX6_playSample_59 (lv_at hl 2 rfl) ?_
    refine q_mul M dX6_playSample_60 ?_
    refine q_add M dX6_playSample_61 ?_
    refine q_iln M dX6_playSample_62 (lv_at hl 0 rfl) ?_
    refine q_add M dX6_playSample_63 ?_
    refine q_bp M dX6_playSample_64 (by decide +kernel) ?_
    refine q_add M dX6_playSample_66 ?_
    refine q_put (ws2 := WPly cI a μ (fun _ => x1 + 1) (fun _ => x2) (fun _ => (((31 * x3) + (100 * s)) + (tnI μ (μ 30 0) s)) + 12)) M w in6 0 10 tyX6 tyX6_ok nmX6 rfl rfl (by decide) (by decide +kernel) rfl rfl rfl rfl (Nat.le_of_ble_eq_true rfl) rfl dX6_playSample_67 (fun H locs w => ?_)
    have e : psF μ (μ 30 0) s (x1, x2, x3) = (x1 + 1, x2, (((31 * x3) + (100 * s)) + (tnI μ (μ 30 0) s)) + 12) := if_pos (show (μ 0 s ≤ μ 21 s) by omega)
    have w : wW D A zs.heap (WPly cI a μ (fun _ => (psF μ (μ 30 0) s (x1, x2, x3)).1) (fun _ => (psF μ (μ 30 0) s (x1, x2, x3)).2.1) (fun _ => (psF μ (μ 30 0) s (x1, x2, x3)).2.2)) H locs := by rw [e]; exact w
    exact kret _ _ _ _ dX6_playSample_70 w
  · refine q_aln M dX6_playSample_11 (lv_at hl 0 rfl) ?_
    refine q_dup M dX6_playSample_12 rfl ?_
    refine q_get (v := .int (iI x2)) M w in6 0 9 rfl rfl (by decide) (by decide +kernel) rfl rfl dX6_playSample_13 ?_
    refine q_ic M dX6_playSample_16 ?_
    refine q_add M dX6_playSample_17 ?_
    refine q_put (ws2 := WPly cI a μ (fun _ => x1) (fun _ => x2 + 1) (fun _ => x3)) M w in6 0 9 tyX6 tyX6_ok nmX6 rfl rfl (by decide) (by decide +kernel) rfl rfl rfl rfl (Nat.le_of_ble_eq_true rfl) rfl dX6_playSample_18 (fun H locs w => ?_)
    have e : psF μ (μ 30 0) s (x1, x2, x3) = (x1, x2 + 1, x3) := if_neg (show ¬ (μ 0 s ≤ μ 21 s) by omega)
    have w : wW D A zs.heap (WPly cI a μ (fun _ => (psF μ (μ 30 0) s (x1, x2, x3)).1) (fun _ => (psF μ (μ 30 0) s (x1, x2, x3)).2.1) (fun _ => (psF μ (μ 30 0) s (x1, x2, x3)).2.2)) H locs := by rw [e]; exact w
    exact kret _ _ _ _ dX6_playSample_21 w

set_option maxHeartbeats 4000000 in
set_option maxRecDepth 100000 in
/-- playStep -/
theorem k_playStep (l : Launch) (D : va_G) (cI cZ cJ : ClassId) (a : Nat → Nat) (μ : Nat → Int → Int) (x1 x2 x3 st : Int) (hI : IP μ) (hg : ∀ i, -100 ≤ μ 21 i ∧ μ 21 i ≤ 1000) (hz : ∀ i, 1 ≤ μ 0 i ∧ μ 0 i ≤ 6) (hc : (0 ≤ st ∧ st < 16) ∧ 0 ≤ μ 30 0 ∧ μ 30 0 < 120) : Cv l D (tY cI cZ cJ) yX6_playStep wsX6_playStep rmX6_playStep [.ref (a 0), .int (iI st)] (WPly cI a μ (fun _ => x1) (fun _ => x2) (fun _ => x3)) (WPly cI a μ (fun _ => (plF μ (μ 30 0) st (x1, x2, x3) 4).1) (fun _ => (plF μ (μ 30 0) st (x1, x2, x3) 4).2.1) (fun _ => (plF μ (μ 30 0) st (x1, x2, x3) 4).2.2)) := by
  refine qv_of (by decide +kernel) rfl (Nat.le_of_ble_eq_true rfl) ?_
  intro zp ze zs zm zargs zbelow zmeth zc A Q ls M hA w hl kret
  have hl : lv_has ls 4 [(0, .ref (a 0)), (1, .int (iI st))] := hl
  have in6 : ∀ w ∈ u_ws RX6 TX6 11, w ∈ wsX6_playStep := by decide +kernel
  refine q_ic M dX6_playStep_0 ?_
  refine q_isn (lv' := [(2, .int (iI 0)), (0, .ref (a 0)), (1, .int (iI st))]) M dX6_playStep_1 rfl hl (by decide) rfl (fun ls hl => ?_)
  have lp2 : ∀ (n2 : Nat) (t : Int), (0 ≤ t ∧ t ≤ 4) → (4 - t : Int) < (n2 : Int) → ∀ (H : Heap) (locs : List Loc) (ls : Array Slot), wW D A zs.heap (WPly cI a μ (fun _ => (plF μ (μ 30 0) st (x1, x2, x3) t).1) (fun _ => (plF μ (μ 30 0) st (x1, x2, x3) t).2.1) (fun _ => (plF μ (μ 30 0) st (x1, x2, x3) t).2.2)) H locs → lv_has ls 4 [(0, .ref (a 0)), (1, .int (iI st)), (2, .int (iI t))] → W zp l ze rmX6_playStep zs zm zargs zbelow zmeth zc H locs 0 0 Q (F0 zm 2 ls []) := by
    intro n2
    induction n2 with
    | zero => intro t hj hm H locs ls w hl; exfalso; omega
    | succ n2 ih2 =>
      intro t hj hm2 H locs ls w hl
      refine q_iln M dX6_playStep_2 (lv_at hl 2 rfl) ?_
      refine q_ic M dX6_playStep_3 ?_
      refine q_icmp_ge (tgt := 37) M dX6_playStep_4 (by decide) (by omega) (fun c4 => ?_) (fun c4 => ?_)
      · rw [show t = 4 by omega] at w
        exact kret _ _ _ _ dX6_playStep_37 w
      · refine q_aln M dX6_playStep_7 (lv_at hl 0 rfl) ?_
        refine q_get (v := .ref (a 1)) M w in6 0 2 rfl rfl (by decide) (by decide +kernel) rfl rfl dX6_playStep_8 ?_
        refine q_aln M dX6_playStep_11 (lv_at hl 0 rfl) ?_
        refine q_get (v := .int (iI (μ 30 0))) M w in6 0 7 rfl rfl (by decide) (by decide +kernel) rfl rfl dX6_playStep_12 ?_
        refine q_iln M dX6_playStep_15 (lv_at hl 2 rfl) ?_
        refine q_iln M dX6_playStep_16 (lv_at hl 1 rfl) ?_
        refine qc_iV (As := [.int (iI (μ 30 0)), .int (iI t), .int (iI st)]) (rest := []) (wc := WPat cI a μ) (wc2 := WPat cI a μ) (ws2 := WPly cI a μ (fun _ => (plF μ (μ 30 0) st (x1, x2, x3) t).1) (fun _ => (plF μ (μ 30 0) st (x1, x2, x3) t).2.1) (fun _ => (plF μ (μ 30 0) st (x1, x2, x3) t).2.2)) M w hA hl (k_sampleAt l D cI cZ cJ a μ (μ 30 0) t st hI (by omega)) gX6_playStep_X2_sampleAt rfl ⟨rfl, rfl, by decide, by decide⟩ ⟨Nat.zero_le _, Nat.zero_le _⟩ 3 ⟨rfl, by decide +kernel⟩ rfl [false, true, true, true, true, true, true, true, true, true, true, true, true, true, true, true] rfl rfl 3 rfl rfl rfl (Nat.le_of_ble_eq_true rfl) rfl dX6_playStep_17 (fun H locs w => ?_)
        have q4 := sA_bd hI (μ 30 0) t st
        refine q_isn (lv' := [(3, .int (iI (sA μ (μ 30 0) t st))), (0, .ref (a 0)), (1, .int (iI st)), (2, .int (iI t))]) M dX6_playStep_20 rfl hl (by decide) rfl (fun ls hl => ?_)
        refine q_iln M dX6_playStep_21 (lv_at hl 0 rfl) ?_
        refine q_ic M dX6_playStep_22 ?_
        refine q_icmp_eq (tgt := 31) M dX6_playStep_23 (by decide) (by omega) (fun c23 => ?_) (fun c23 => ?_)
        · have e : plF μ (μ 30 0) st (x1, x2, x3) (t + 1) = (plF μ (μ 30 0) st (x1, x2, x3) t) := (itI_s _ _ hj.1).trans (if_pos (show (sA μ (μ 30 0) t st = -1) by omega))
          have w : wW D A zs.heap (WPly cI a μ (fun _ => (plF μ (μ 30 0) st (x1, x2, x3) (t + 1)).1) (fun _ => (plF μ (μ 30 0) st (x1, x2, x3) (t + 1)).2.1) (fun _ => (plF μ (μ 30 0) st (x1, x2, x3) (t + 1)).2.2)) H locs := by rw [e]; exact w
          refine q_inc (z := t) (lv' := [(2, .int (iI (t + 1))), (3, .int (iI (sA μ (μ 30 0) t st))), (0, .ref (a 0)), (1, .int (iI st))]) M dX6_playStep_31 hl (k := 3) rfl (by decide) rfl (fun ls hl => ?_)
          refine q_go (tgt := 2) M dX6_playStep_34 (by decide) ?_
          exact ih2 (t + 1) (by omega) (by omega) _ _ _ w (lv_sub hl [2, 3, 0] rfl)
        · refine q_aln M dX6_playStep_26 (lv_at hl 1 rfl) ?_
          refine q_iln M dX6_playStep_27 (lv_at hl 0 rfl) ?_
          refine qc_vV (As := [.int (iI (sA μ (μ 30 0) t st))]) (rest := []) (wc := WPly cI a μ (fun _ => ((plF μ (μ 30 0) st (x1, x2, x3) t).1)) (fun _ => ((plF μ (μ 30 0) st (x1, x2, x3) t).2.1)) (fun _ => ((plF μ (μ 30 0) st (x1, x2, x3) t).2.2))) (wc2 := WPly cI a μ (fun _ => (psF μ (μ 30 0) (sA μ (μ 30 0) t st) (((plF μ (μ 30 0) st (x1, x2, x3) t).1), ((plF μ (μ 30 0) st (x1, x2, x3) t).2.1), ((plF μ (μ 30 0) st (x1, x2, x3) t).2.2))).1) (fun _ => (psF μ (μ 30 0) (sA μ (μ 30 0) t st) (((plF μ (μ 30 0) st (x1, x2, x3) t).1), ((plF μ (μ 30 0) st (x1, x2, x3) t).2.1), ((plF μ (μ 30 0) st (x1, x2, x3) t).2.2))).2.1) (fun _ => (psF μ (μ 30 0) (sA μ (μ 30 0) t st) (((plF μ (μ 30 0) st (x1, x2, x3) t).1), ((plF μ (μ 30 0) st (x1, x2, x3) t).2.1), ((plF μ (μ 30 0) st (x1, x2, x3) t).2.2))).2.2)) (ws2 := WPly cI a μ (fun _ => (psF μ (μ 30 0) (sA μ (μ 30 0) t st) (((plF μ (μ 30 0) st (x1, x2, x3) t).1), ((plF μ (μ 30 0) st (x1, x2, x3) t).2.1), ((plF μ (μ 30 0) st (x1, x2, x3) t).2.2))).1) (fun _ => (psF μ (μ 30 0) (sA μ (μ 30 0) t st) (((plF μ (μ 30 0) st (x1, x2, x3) t).1), ((plF μ (μ 30 0) st (x1, x2, x3) t).2.1), ((plF μ (μ 30 0) st (x1, x2, x3) t).2.2))).2.1) (fun _ => (psF μ (μ 30 0) (sA μ (μ 30 0) t st) (((plF μ (μ 30 0) st (x1, x2, x3) t).1), ((plF μ (μ 30 0) st (x1, x2, x3) t).2.1), ((plF μ (μ 30 0) st (x1, x2, x3) t).2.2))).2.2)) M w hA hl (k_playSample l D cI cZ cJ a μ ((plF μ (μ 30 0) st (x1, x2, x3) t).1) ((plF μ (μ 30 0) st (x1, x2, x3) t).2.1) ((plF μ (μ 30 0) st (x1, x2, x3) t).2.2) (sA μ (μ 30 0) t st) hI hg hz (by omega)) gX6_playStep_X6_playSample rfl ⟨rfl, rfl, by decide, by decide⟩ ⟨Nat.zero_le _, Nat.zero_le _⟩ 1 ⟨rfl, by decide +kernel⟩ rfl [true, true, true, true, true, true, true, true, true, true, true, true, true, true, true, true, true, true, true, true, true] rfl rfl 0 rfl rfl rfl (Nat.le_of_ble_eq_true rfl) rfl dX6_playStep_28 (fun H locs w => ?_)
          have e : plF μ (μ 30 0) st (x1, x2, x3) (t + 1) = (psF μ (μ 30 0) (sA μ (μ 30 0) t st) (plF μ (μ 30 0) st (x1, x2, x3) t)) := (itI_s _ _ hj.1).trans (if_neg (show ¬ (sA μ (μ 30 0) t st = -1) by omega))
          have w : wW D A zs.heap (WPly cI a μ (fun _ => (plF μ (μ 30 0) st (x1, x2, x3) (t + 1)).1) (fun _ => (plF μ (μ 30 0) st (x1, x2, x3) (t + 1)).2.1) (fun _ => (plF μ (μ 30 0) st (x1, x2, x3) (t + 1)).2.2)) H locs := by rw [e]; exact w
          refine q_inc (z := t) (lv' := [(2, .int (iI (t + 1))), (3, .int (iI (sA μ (μ 30 0) t st))), (0, .ref (a 0)), (1, .int (iI st))]) M dX6_playStep_31 hl (k := 3) rfl (by decide) rfl (fun ls hl => ?_)
          refine q_go (tgt := 2) M dX6_playStep_34 (by decide) ?_
          exact ih2 (t + 1) (by omega) (by omega) _ _ _ w (lv_sub hl [2, 3, 0] rfl)
  have e0 : plF μ (μ 30 0) st (x1, x2, x3) 0 = (x1, x2, x3) := itI_0 _ _
  have w : wW D A zs.heap (WPly cI a μ (fun _ => (plF μ (μ 30 0) st (x1, x2, x3) 0).1) (fun _ => (plF μ (μ 30 0) st (x1, x2, x3) 0).2.1) (fun _ => (plF μ (μ 30 0) st (x1, x2, x3) 0).2.2)) zs.heap [] := by rw [e0]; exact w
  exact lp2 5 0 (by omega) (by omega) _ _ _ w (lv_sub hl [1, 2, 0] rfl)

set_option maxHeartbeats 4000000 in
set_option maxRecDepth 100000 in
/-- enterBar -/
theorem k_enterBar (l : Launch) (D : va_G) (cI cZ cJ : ClassId) (a : Nat → Nat) (μ : Nat → Int → Int) (U g : Int → Int) (d : Int) (hP : IP μ) (hI : IH μ) (hB : IB μ) (hc : (0 ≤ μ 24 0 ∧ μ 24 0 ≤ μ 22 0) ∧ 0 ≤ μ 25 0 ∧ μ 25 0 < 64) (h0 : 0 ≤ cAh μ 0 ∧ cAh μ 0 < 120) : Cv l D (tY cI cZ cJ) yX6_enterBar wsX6_enterBar rmX6_enterBar [.ref (a 0)] (WEnt cI a μ U g (fun _ => d)) (WEnt cI a μ ((nDu μ (cAh μ 0) (U, ebN μ 3) 192).1) ((nDu μ (cAh μ 0) (U, ebN μ 3) 192).2) (fun _ => cAh μ 0)) := by
  refine qv_of (by decide +kernel) rfl (Nat.le_of_ble_eq_true rfl) ?_
  intro zp ze zs zm zargs zbelow zmeth zc A Q ls M hA w hl kret
  have hl : lv_has ls 3 [(0, .ref (a 0))] := hl
  have in6 : ∀ w ∈ u_ws RX6 TX6 11, w ∈ wsX6_enterBar := by decide +kernel
  refine q_aln M dX6_enterBar_0 (lv_at hl 0 rfl) ?_
  refine q_aln M dX6_enterBar_1 (lv_at hl 0 rfl) ?_
  refine q_get (v := .ref (a 3)) M w in6 0 4 rfl rfl (by decide) (by decide +kernel) rfl rfl dX6_enterBar_2 ?_
  refine q_ic M dX6_enterBar_5 ?_
  refine qc_iV (As := [.int (iI 0)]) (rest := [.ref (a 0)]) (wc := WShw cI a μ) (wc2 := WShw cI a μ) (ws2 := WEnt cI a μ U g (fun _ => d)) M w hA hl (k_codeAhead l D cI cZ cJ a μ 0 hP hI hB (by omega)) gX6_enterBar_X4_codeAhead rfl ⟨rfl, rfl, by decide, by decide⟩ ⟨Nat.zero_le _, Nat.zero_le _⟩ 1 ⟨rfl, by decide +kernel⟩ rfl [false, true, true, true, true, true, true, true, true, true, true, true, true, true, true, true, true, true, true, true, true, true, true, true, true, true, true, true, true, true, true, true, true, true, true, true, true, true, true, true] rfl rfl 37 rfl rfl rfl (Nat.le_of_ble_eq_true rfl) rfl dX6_enterBar_6 (fun H locs w => ?_)
  refine q_put (ws2 := WEnt cI a μ U g (fun _ => cAh μ 0)) M w in6 0 7 tyX6 tyX6_ok nmX6 rfl rfl (by decide) (by decide +kernel) rfl rfl rfl rfl (Nat.le_of_ble_eq_true rfl) rfl dX6_enterBar_9 (fun H locs w => ?_)
  refine q_aln M dX6_enterBar_12 (lv_at hl 0 rfl) ?_
  refine q_get (v := .ref (a 4)) M w in6 0 5 rfl rfl (by decide) (by decide +kernel) rfl rfl dX6_enterBar_13 ?_
  refine qc_vV (As := []) (rest := []) (wc := WLk0 cI a μ U g) (wc2 := WLk0 cI a μ U (fun _ => 768)) (ws2 := WEnt cI a μ U (fun _ => 768) (fun _ => cAh μ 0)) M w hA hl (k_forget l D cI cZ cJ a μ U g ) gX6_enterBar_X0_forget rfl ⟨rfl, rfl, by decide, by decide⟩ ⟨Nat.zero_le _, Nat.zero_le _⟩ 0 ⟨rfl, by decide +kernel⟩ rfl [false, false, false, false, false, false, false, false, false, false, false, false, false, false, false, false, false, false, false, false, false, false, false, false, false, false, false, false, false, false, false, false, false, false, false, false, false, false, false, false, true, true, true, true, true] rfl rfl 40 rfl rfl rfl (Nat.le_of_ble_eq_true rfl) rfl dX6_enterBar_16 (fun H locs w => ?_)
  refine q_ic M dX6_enterBar_19 ?_
  refine q_isn (lv' := [(1, .int (iI 3)), (0, .ref (a 0))]) M dX6_enterBar_20 rfl hl (by decide) rfl (fun ls hl => ?_)
  have lp21 : ∀ (n21 : Nat) (x : Int), (0 ≤ x ∧ x ≤ 3) → (x + 1 : Int) < (n21 : Int) → ∀ (H : Heap) (locs : List Loc) (ls : Array Slot), wW D A zs.heap (WEnt cI a μ U (ebN μ (3 - x)) (fun _ => cAh μ 0)) H locs → lv_has ls 3 [(0, .ref (a 0)), (1, .int (iI x))] → W zp l ze rmX6_enterBar zs zm zargs zbelow zmeth zc H locs 0 0 Q (F0 zm 21 ls []) := by
    intro n21
    induction n21 with
    | zero => intro x hj hm H locs ls w hl; exfalso; omega
    | succ n21 ih21 =>
      intro x hj hm21 H locs ls w hl
      refine q_iln M dX6_enterBar_21 (lv_at hl 1 rfl) ?_
      refine q_if_le (tgt := 58) M dX6_enterBar_22 (by decide) (by omega) (fun c22 => ?_) (fun c22 => ?_)
      · have ex : x = 0 := by omega
        subst ex
        have w : wW D A zs.heap (WEnt cI a μ U (ebN μ 3) (fun _ => cAh μ 0)) H locs := w
        have hl : lv_has ls 3 [(0, .ref (a 0)), (1, .int (iI 0))] := lv_sub hl [0, 1] rfl
        refine q_aln M dX6_enterBar_58 (lv_at hl 0 rfl) ?_
        refine q_get (v := .ref (a 4)) M w in6 0 5 rfl rfl (by decide) (by decide +kernel) rfl rfl dX6_enterBar_59 ?_
        refine q_aln M dX6_enterBar_62 (lv_at hl 0 rfl) ?_
        refine q_get (v := .int (iI (cAh μ 0))) M w in6 0 7 rfl rfl (by decide) (by decide +kernel) rfl rfl dX6_enterBar_63 ?_
        refine qc_vV (As := [.int (iI (cAh μ 0))]) (rest := []) (wc := WLok cI a μ U (ebN μ 3)) (wc2 := WLok cI a μ ((nDu μ (cAh μ 0) (U, (ebN μ 3)) 192).1) ((nDu μ (cAh μ 0) (U, (ebN μ 3)) 192).2)) (ws2 := WEnt cI a μ ((nDu μ (cAh μ 0) (U, (ebN μ 3)) 192).1) ((nDu μ (cAh μ 0) (U, (ebN μ 3)) 192).2) (fun _ => cAh μ 0)) M w hA hl (k_noteDueBar l D cI cZ cJ a μ U (ebN μ 3) (cAh μ 0) hP (by omega) (ebN_bd hP (by omega))) gX6_enterBar_X0_noteDueBar rfl ⟨rfl, rfl, by decide, by decide⟩ ⟨Nat.zero_le _, Nat.zero_le _⟩ 1 ⟨rfl, by decide +kernel⟩ rfl [false, true, true, true, true, true, true, true, true, true, true, true, true, true, true, true, false, false, false, false, false, false, false, false, false, false, false, false, false, false, false, false, false, false, false, false, false, false, false, false, true, true, true, true, true] rfl rfl 40 rfl rfl rfl (Nat.le_of_ble_eq_true rfl) rfl dX6_enterBar_66 (fun H locs w => ?_)
        exact kret _ _ _ _ dX6_enterBar_69 w
      · refine q_aln M dX6_enterBar_25 (lv_at hl 0 rfl) ?_
        refine q_get (v := .ref (a 3)) M w in6 0 4 rfl rfl (by decide) (by decide +kernel) rfl rfl dX6_enterBar_26 ?_
        refine q_iln M dX6_enterBar_29 (lv_at hl 1 rfl) ?_
        refine qc_iV (As := [.int (iI x)]) (rest := []) (wc := WShw cI a μ) (wc2 := WShw cI a μ) (ws2 := WEnt cI a μ U (ebN μ (3 - x)) (fun _ => cAh μ 0)) M w hA hl (k_codeAhead l D cI cZ cJ a μ x hP hI hB (by omega)) gX6_enterBar_X4_codeAhead rfl ⟨rfl, rfl, by decide, by decide⟩ ⟨Nat.zero_le _, Nat.zero_le _⟩ 1 ⟨rfl, by decide +kernel⟩ rfl [false, true, true, true, true, true, true, true, true, true, true, true, true, true, true, true, true, true, true, true, true, true, true, true, true, true, true, true, true, true, true, true, true, true, true, true, true, true, true, true] rfl rfl 37 rfl rfl rfl (Nat.le_of_ble_eq_true rfl) rfl dX6_enterBar_30 (fun H locs w => ?_)
        refine q_isn (lv' := [(2, .int (iI (cAh μ x))), (0, .ref (a 0)), (1, .int (iI x))]) M dX6_enterBar_33 rfl hl (by decide) rfl (fun ls hl => ?_)
        have q4 := cAh_bd hI hB (h := x) (by omega)
        refine q_iln M dX6_enterBar_34 (lv_at hl 0 rfl) ?_
        refine q_ic M dX6_enterBar_35 ?_
        refine q_icmp_eq (tgt := 52) M dX6_enterBar_36 (by decide) (by omega) (fun c36 => ?_) (fun c36 => ?_)
        · have e : ebN μ (3 - x + 1) = ebN μ (3 - x) := (itI_s _ _ (by omega)).trans (by rw [show 3 - (3 - x) = x by omega]; exact if_pos (by omega))
          have w : wW D A zs.heap (WEnt cI a μ U (ebN μ (3 - x + 1)) (fun _ => cAh μ 0)) H locs := by rw [e]; exact w
          refine q_inc (z := x) (lv' := [(1, .int (iI (x + (-1)))), (2, .int (iI (cAh μ x))), (0, .ref (a 0))]) M dX6_enterBar_52 hl (k := 2) rfl (by decide) rfl (fun ls hl => ?_)
          refine q_go (tgt := 21) M dX6_enterBar_55 (by decide) ?_
          rw [show 3 - x + 1 = 3 - (x + (-1)) by omega] at w
          exact ih21 (x + (-1)) (by omega) (by omega) _ _ _ w (lv_sub hl [2, 0] rfl)
        · refine q_aln M dX6_enterBar_39 (lv_at hl 1 rfl) ?_
          refine q_get (v := .ref (a 4)) M w in6 0 5 rfl rfl (by decide) (by decide +kernel) rfl rfl dX6_enterBar_40 ?_
          refine q_iln M dX6_enterBar_43 (lv_at hl 0 rfl) ?_
          refine q_iln M dX6_enterBar_44 (lv_at hl 2 rfl) ?_
          refine q_sp M dX6_enterBar_45 (by decide +kernel) ?_
          refine q_mul M dX6_enterBar_48 ?_
          refine qc_vV (As := [.int (iI (cAh μ x)), .int (iI (x * 192))]) (rest := []) (wc := WLok cI a μ U (ebN μ (3 - x))) (wc2 := WLok cI a μ U (nBr μ (cAh μ x) (x * 192) (ebN μ (3 - x)) 16)) (ws2 := WEnt cI a μ U (nBr μ (cAh μ x) (x * 192) (ebN μ (3 - x)) 16) (fun _ => cAh μ 0)) M w hA hl (k_noteBar l D cI cZ cJ a μ U (ebN μ (3 - x)) (cAh μ x) (x * 192) hP (by omega)) gX6_enterBar_X0_noteBar rfl ⟨rfl, rfl, by decide, by decide⟩ ⟨Nat.zero_le _, Nat.zero_le _⟩ 2 ⟨rfl, by decide +kernel⟩ rfl [false, true, true, true, true, true, true, true, true, true, true, true, true, true, true, true, false, false, false, false, false, false, false, false, false, false, false, false, false, false, false, false, false, false, false, false, false, false, false, false, true, true, true, true, true] rfl rfl 40 rfl rfl rfl (Nat.le_of_ble_eq_true rfl) rfl dX6_enterBar_49 (fun H locs w => ?_)
          have e : ebN μ (3 - x + 1) = nBr μ (cAh μ x) (x * 192) (ebN μ (3 - x)) 16 := (itI_s _ _ (by omega)).trans (by rw [show 3 - (3 - x) = x by omega]; exact if_neg (by omega))
          have w : wW D A zs.heap (WEnt cI a μ U (ebN μ (3 - x + 1)) (fun _ => cAh μ 0)) H locs := by rw [e]; exact w
          refine q_inc (z := x) (lv' := [(1, .int (iI (x + (-1)))), (2, .int (iI (cAh μ x))), (0, .ref (a 0))]) M dX6_enterBar_52 hl (k := 2) rfl (by decide) rfl (fun ls hl => ?_)
          refine q_go (tgt := 21) M dX6_enterBar_55 (by decide) ?_
          rw [show 3 - x + 1 = 3 - (x + (-1)) by omega] at w
          exact ih21 (x + (-1)) (by omega) (by omega) _ _ _ w (lv_sub hl [2, 0] rfl)
  have e0 : ebN μ (3 - 3) = fun _ => 768 := itI_0 _ _
  have w : wW D A zs.heap (WEnt cI a μ U (ebN μ (3 - 3)) (fun _ => cAh μ 0)) H locs := by rw [e0]; exact w
  exact lp21 5 3 (by omega) (by omega) _ _ _ w (lv_sub hl [1, 0] rfl)
