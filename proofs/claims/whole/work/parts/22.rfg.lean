/-! THE REFERENCE: a tick -/
def vx (ν : Nat → Int → Int) : Nat → Int → Int := mset (vw ν) 21 (ν 25)
noncomputable def plR (ν : Nat → Int → Int) : Int × Int × Int := if sTa (vw ν) (cB ν (ν 23 0)) (ν 24 0) = -1 then (ν 28 0, ν 29 0, ν 30 0) else plF (vx ν) (cB ν (ν 23 0)) (sTa (vw ν) (cB ν (ν 23 0)) (ν 24 0)) (ν 28 0, ν 29 0, ν 30 0) 4
noncomputable def uS (ν : Nat → Int → Int) (y : Int) : Int × Int × Int := if sTa (vw ν) (cB ν (ν 23 0)) (ν 24 0) ≠ -1 ∧ sTa (vw ν) (cB ν (ν 23 0)) (ν 24 0) < y then plF (vx ν) (cB ν (ν 23 0)) (sTa (vw ν) (cB ν (ν 23 0)) (ν 24 0)) (ν 28 0, ν 29 0, ν 30 0) 4 else (ν 28 0, ν 29 0, ν 30 0)
noncomputable def uV (ν : Nat → Int → Int) (y t : Int) : Int × Int × Int := if tOf (vw ν) (cB ν (ν 23 0)) y = ν 24 0 then plF (vx ν) (cB ν (ν 23 0)) y (ν 28 0, ν 29 0, ν 30 0) t else uS ν y
theorem sTa_t {μ : Nat → Int → Int} (hI : IP μ) {c t y : Int} : (tOf μ c y = t → sTa μ c t = y) ∧ (tOf μ c y ≠ t → 0 ≤ y → sTa μ c t ≠ y) := by
  have hb := tOf_bd hI c y
  refine ⟨fun h => ?_, fun h hy => ?_⟩
  · unfold sTa
    have e : t / 12 = y := by omega
    rw [e, if_pos h]
  · unfold sTa
    intro q
    by_cases e : tOf μ c (t / 12) = t
    · rw [if_pos e] at q
      rw [q] at e
      exact h e
    · rw [if_neg e] at q
      omega
theorem u_a {ν : Nat → Int → Int} (hI : IP (vw ν)) {y : Int} (hy : 0 ≤ y) : uV ν y 0 = uS ν y := by
  unfold uV
  by_cases h : tOf (vw ν) (cB ν (ν 23 0)) y = ν 24 0
  · rw [if_pos h]
    have e := (sTa_t hI).1 h
    have e2 : uS ν y = (ν 28 0, ν 29 0, ν 30 0) := if_neg (fun q => by have := q.2; omega)
    rw [e2]
    exact itI_0 _ _
  · rw [if_neg h]
theorem u_b {ν : Nat → Int → Int} (hI : IP (vw ν)) {y : Int} (hy : 0 ≤ y) (h : tOf (vw ν) (cB ν (ν 23 0)) y = ν 24 0) : uV ν y 4 = uS ν (y + 1) := by
  have e := (sTa_t hI).1 h
  unfold uV uS
  rw [if_pos h, if_pos (by omega), e]
theorem u_c {ν : Nat → Int → Int} (hI : IP (vw ν)) {y t : Int} (hy : 0 ≤ y) (h : tOf (vw ν) (cB ν (ν 23 0)) y ≠ ν 24 0) : uV ν y t = uS ν (y + 1) := by
  have e := (sTa_t hI).2 h hy
  unfold uV uS
  rw [if_neg h]
  by_cases q : sTa (vw ν) (cB ν (ν 23 0)) (ν 24 0) ≠ -1 ∧ sTa (vw ν) (cB ν (ν 23 0)) (ν 24 0) < y
  · rw [if_pos q, if_pos (by omega)]
  · rw [if_neg q, if_neg (by omega)]
theorem u_d (ν : Nat → Int → Int) (hd : 0 ≤ ν 24 0) : uS ν 0 = (ν 28 0, ν 29 0, ν 30 0) := by
  have := sTa_cs (vw ν) (cB ν (ν 23 0)) (ν 24 0)
  unfold uS
  rw [if_neg (by omega)]
theorem u_e (ν : Nat → Int → Int) (hd : 0 ≤ ν 24 0 ∧ ν 24 0 < 192) : uS ν 16 = plR ν := by
  have := sTa_cs (vw ν) (cB ν (ν 23 0)) (ν 24 0)
  unfold uS plR
  by_cases q : sTa (vw ν) (cB ν (ν 23 0)) (ν 24 0) = -1
  · rw [if_neg (by omega), if_pos q]
  · rw [if_pos (by omega), if_neg q]

set_option maxHeartbeats 4000000 in
set_option maxRecDepth 100000 in
/-- uses -/
theorem m_uses (l : Launch) (D : va_G) (cI cZ cJ : ClassId) (b : Nat → Nat) (ν : Nat → Int → Int) (hI : IP (vw ν)) (hc : ((0 ≤ ν 16 (ν 23 0) ∧ ν 16 (ν 23 0) < 12) ∧ 0 ≤ ν 17 (ν 23 0) ∧ ν 17 (ν 23 0) ≤ 1) ∧ (0 ≤ ν 23 0 ∧ ν 23 0 < 512) ∧ 0 ≤ ν 24 0 ∧ ν 24 0 < 192) (hg : ∀ i, 0 ≤ ν 25 i ∧ ν 25 i ≤ ν 1 i) (hz : ∀ i, 1 ≤ ν 1 i ∧ ν 1 i ≤ 6) : Cv l D (tY cI cZ cJ) yX7_uses wsX7_uses rmX7_uses [.ref (b 0)] (WMod cI cZ b ν) (WMod cI cZ b (mset (mset (mset ν 28 (fun _ => (plR ν).1)) 29 (fun _ => (plR ν).2.1)) 30 (fun _ => (plR ν).2.2))) := by
  refine qv_of (by decide +kernel) rfl (Nat.le_of_ble_eq_true rfl) ?_
  intro zp ze zs zm zargs zbelow zmeth zc A Q ls M hA w hl kret
  have hl : lv_has ls 5 [(0, .ref (b 0))] := hl
  have in7 : ∀ w ∈ u_ws RX7 TX7 31, w ∈ wsX7_uses := by decide +kernel
  refine q_ic M dX7_uses_0 ?_
  refine q_isn (lv' := [(1, .int (iI 0)), (0, .ref (b 0))]) M dX7_uses_1 rfl hl (by decide) rfl (fun ls hl => ?_)
  have lp2 : ∀ (n2 : Nat) (y : Int), (0 ≤ y ∧ y ≤ 16) → (16 - y : Int) < (n2 : Int) → ∀ (H : Heap) (locs : List Loc) (ls : Array Slot), wW D A zs.heap (WMod cI cZ b (mset (mset (mset ν 28 (fun _ => (uS ν y).1)) 29 (fun _ => (uS ν y).2.1)) 30 (fun _ => (uS ν y).2.2))) H locs → lv_has ls 5 [(0, .ref (b 0)), (1, .int (iI y))] → W zp l ze rmX7_uses zs zm zargs zbelow zmeth zc H locs 0 0 Q (F0 zm 2 ls []) := by
    intro n2
    induction n2 with
    | zero => intro y hy hm H locs ls w hl; exfalso; omega
    | succ n2 ih2 =>
      intro y hy hm2 H locs ls w hl
      refine q_iln M dX7_uses_2 (lv_at hl 1 rfl) ?_
      refine q_bp M dX7_uses_3 (by decide +kernel) ?_
      refine q_icmp_ge (tgt := 171) M dX7_uses_5 (by decide) (by omega) (fun c5 => ?_) (fun c5 => ?_)
      · rw [show y = 16 by omega, u_e ν hc.2.2] at w
        exact kret _ _ _ _ dX7_uses_171 w
      · refine q_ic M dX7_uses_8 ?_
        refine q_isn (lv' := [(2, .int (iI 0)), (0, .ref (b 0)), (1, .int (iI y))]) M dX7_uses_9 rfl hl (by decide) rfl (fun ls hl => ?_)
        have lp10 : ∀ (n10 : Nat) (t : Int), (0 ≤ t ∧ t ≤ 4) → (t = 0 ∨ tOf (vw ν) (cB ν (ν 23 0)) y = ν 24 0) → (4 - t : Int) < (n10 : Int) → ∀ (H : Heap) (locs : List Loc) (ls : Array Slot), wW D A zs.heap (WMod cI cZ b (mset (mset (mset ν 28 (fun _ => (uV ν y t).1)) 29 (fun _ => (uV ν y t).2.1)) 30 (fun _ => (uV ν y t).2.2))) H locs → lv_has ls 5 [(0, .ref (b 0)), (1, .int (iI y)), (2, .int (iI t))] → W zp l ze rmX7_uses zs zm zargs zbelow zmeth zc H locs 0 0 Q (F0 zm 10 ls []) := by
          intro n10
          induction n10 with
          | zero => intro t ht htt hm H locs ls w hl; exfalso; omega
          | succ n10 ih10 =>
            intro t ht htt hm10 H locs ls w hl
            refine q_iln M dX7_uses_10 (lv_at hl 2 rfl) ?_
            refine q_ic M dX7_uses_11 ?_
            refine q_icmp_ge (tgt := 165) M dX7_uses_12 (by decide) (by omega) (fun c12 => ?_) (fun c12 => ?_)
            · have e : uV ν y t = uS ν (y + 1) := by
                by_cases q : tOf (vw ν) (cB ν (ν 23 0)) y = ν 24 0
                · rw [show t = 4 by omega]; exact u_b hI hy.1 q
                · exact u_c hI hy.1 q
              have w : wW D A zs.heap (WMod cI cZ b (mset (mset (mset ν 28 (fun _ => (uS ν (y + 1)).1)) 29 (fun _ => (uS ν (y + 1)).2.1)) 30 (fun _ => (uS ν (y + 1)).2.2))) H locs := by rw [← e]; exact w
              refine q_inc (z := y) (lv' := [(1, .int (iI (y + 1))), (0, .ref (b 0)), (2, .int (iI t))]) M dX7_uses_165 hl (k := 1) rfl (by decide) rfl (fun ls hl => ?_)
              refine q_go (tgt := 2) M dX7_uses_168 (by decide) ?_
              exact ih2 (y + 1) (by omega) (by omega) _ _ _ w (lv_sub hl [1, 0] rfl)
            · have qt := tOf_bd hI (cB ν (ν 23 0)) y
              refine q_aln M dX7_uses_15 (lv_at hl 0 rfl) ?_
              refine q_aln M dX7_uses_16 (lv_at hl 0 rfl) ?_
              refine q_get (v := .int (iI (ν 23 0))) M w in7 0 23 rfl rfl (by decide) (by decide +kernel) rfl rfl dX7_uses_17 ?_
              refine q_iln M dX7_uses_20 (lv_at hl 1 rfl) ?_
              refine qc_iV (As := [.int (iI (ν 23 0)), .int (iI y)]) (rest := []) (wc := WMod cI cZ b (mset (mset (mset ν 28 (fun _ => (uV ν y t).1)) 29 (fun _ => (uV ν y t).2.1)) 30 (fun _ => (uV ν y t).2.2))) (wc2 := WMod cI cZ b (mset (mset (mset ν 28 (fun _ => (uV ν y t).1)) 29 (fun _ => (uV ν y t).2.1)) 30 (fun _ => (uV ν y t).2.2))) (ws2 := WMod cI cZ b (mset (mset (mset ν 28 (fun _ => (uV ν y t).1)) 29 (fun _ => (uV ν y t).2.1)) 30 (fun _ => (uV ν y t).2.2))) M w hA hl (m_begins l D cI cZ cJ b (mset (mset (mset ν 28 (fun _ => (uV ν y t).1)) 29 (fun _ => (uV ν y t).2.1)) 30 (fun _ => (uV ν y t).2.2)) (ν 23 0) y hI hc.1.1 hc.1.2 (by omega)) gX7_uses_X7_begins rfl ⟨rfl, rfl, by decide, by decide⟩ ⟨Nat.zero_le _, Nat.zero_le _⟩ 2 ⟨rfl, by decide +kernel⟩ rfl [true, true, true, true, true, true, true, true, true, true, true, true, true, true, true, true, true, true, true, true, true] rfl rfl 0 rfl rfl rfl (Nat.le_of_ble_eq_true rfl) rfl dX7_uses_21 (fun H locs w => ?_)
              refine q_top (y := tOf (vw ν) (cB ν (ν 23 0)) y) (by rfl) ?_
              refine q_aln M dX7_uses_24 (lv_at hl 0 rfl) ?_
              refine q_get (v := .int (iI (ν 24 0))) M w in7 0 24 rfl rfl (by decide) (by decide +kernel) rfl rfl dX7_uses_25 ?_
              refine q_icmp_ne (tgt := 165) M dX7_uses_28 (by decide) (by omega) (fun c28 => ?_) (fun c28 => ?_)
              · have e : uV ν y t = uS ν (y + 1) := by
                  by_cases q : tOf (vw ν) (cB ν (ν 23 0)) y = ν 24 0
                  · rw [show t = 4 by omega]; exact u_b hI hy.1 q
                  · exact u_c hI hy.1 q
                have w : wW D A zs.heap (WMod cI cZ b (mset (mset (mset ν 28 (fun _ => (uS ν (y + 1)).1)) 29 (fun _ => (uS ν (y + 1)).2.1)) 30 (fun _ => (uS ν (y + 1)).2.2))) H locs := by rw [← e]; exact w
                refine q_inc (z := y) (lv' := [(1, .int (iI (y + 1))), (0, .ref (b 0)), (2, .int (iI t))]) M dX7_uses_165 hl (k := 1) rfl (by decide) rfl (fun ls hl => ?_)
                refine q_go (tgt := 2) M dX7_uses_168 (by decide) ?_
                exact ih2 (y + 1) (by omega) (by omega) _ _ _ w (lv_sub hl [1, 0] rfl)
              · have ev : ∀ t, uV ν y t = plF (vx ν) (cB ν (ν 23 0)) y (ν 28 0, ν 29 0, ν 30 0) t := fun t => if_pos (by omega)
                have w : wW D A zs.heap (WMod cI cZ b (mset (mset (mset ν 28 (fun _ => (plF (vx ν) (cB ν (ν 23 0)) y (ν 28 0, ν 29 0, ν 30 0) t).1)) 29 (fun _ => (plF (vx ν) (cB ν (ν 23 0)) y (ν 28 0, ν 29 0, ν 30 0) t).2.1)) 30 (fun _ => (plF (vx ν) (cB ν (ν 23 0)) y (ν 28 0, ν 29 0, ν 30 0) t).2.2))) H locs := by rw [← ev]; exact w
                refine q_aln M dX7_uses_31 (lv_at hl 0 rfl) ?_
                refine q_aln M dX7_uses_32 (lv_at hl 0 rfl) ?_
                refine q_get (v := .int (iI (ν 23 0))) M w in7 0 23 rfl rfl (by decide) (by decide +kernel) rfl rfl dX7_uses_33 ?_
                refine q_iln M dX7_uses_36 (lv_at hl 2 rfl) ?_
                refine q_iln M dX7_uses_37 (lv_at hl 1 rfl) ?_
                refine qc_iV (As := [.int (iI (ν 23 0)), .int (iI t), .int (iI y)]) (rest := []) (wc := WMod cI cZ b (mset (mset (mset ν 28 (fun _ => (plF (vx ν) (cB ν (ν 23 0)) y (ν 28 0, ν 29 0, ν 30 0) t).1)) 29 (fun _ => (plF (vx ν) (cB ν (ν 23 0)) y (ν 28 0, ν 29 0, ν 30 0) t).2.1)) 30 (fun _ => (plF (vx ν) (cB ν (ν 23 0)) y (ν 28 0, ν 29 0, ν 30 0) t).2.2))) (wc2 := WMod cI cZ b (mset (mset (mset ν 28 (fun _ => (plF (vx ν) (cB ν (ν 23 0)) y (ν 28 0, ν 29 0, ν 30 0) t).1)) 29 (fun _ => (plF (vx ν) (cB ν (ν 23 0)) y (ν 28 0, ν 29 0, ν 30 0) t).2.1)) 30 (fun _ => (plF (vx ν) (cB ν (ν 23 0)) y (ν 28 0, ν 29 0, ν 30 0) t).2.2))) (ws2 := WMod cI cZ b (mset (mset (mset ν 28 (fun _ => (plF (vx ν) (cB ν (ν 23 0)) y (ν 28 0, ν 29 0, ν 30 0) t).1)) 29 (fun _ => (plF (vx ν) (cB ν (ν 23 0)) y (ν 28 0, ν 29 0, ν 30 0) t).2.1)) 30 (fun _ => (plF (vx ν) (cB ν (ν 23 0)) y (ν 28 0, ν 29 0, ν 30 0) t).2.2))) M w hA hl (m_sampleAt l D cI cZ cJ b (mset (mset (mset ν 28 (fun _ => (plF (vx ν) (cB ν (ν 23 0)) y (ν 28 0, ν 29 0, ν 30 0) t).1)) 29 (fun _ => (plF (vx ν) (cB ν (ν 23 0)) y (ν 28 0, ν 29 0, ν 30 0) t).2.1)) 30 (fun _ => (plF (vx ν) (cB ν (ν 23 0)) y (ν 28 0, ν 29 0, ν 30 0) t).2.2)) (ν 23 0) t y hc.1.1 hc.1.2 (by omega)) gX7_uses_X7_sampleAt rfl ⟨rfl, rfl, by decide, by decide⟩ ⟨Nat.zero_le _, Nat.zero_le _⟩ 3 ⟨rfl, by decide +kernel⟩ rfl [true, true, true, true, true, true, true, true, true, true, true, true, true, true, true, true, true, true, true, true, true] rfl rfl 0 rfl rfl rfl (Nat.le_of_ble_eq_true rfl) rfl dX7_uses_38 (fun H locs w => ?_)
                refine q_top (y := sA (vw ν) (cB ν (ν 23 0)) t y) (by rfl) ?_
                have qs := sA_bd hI (cB ν (ν 23 0)) t y
                refine q_isn (lv' := [(3, .int (iI (sA (vw ν) (cB ν (ν 23 0)) t y))), (0, .ref (b 0)), (1, .int (iI y)), (2, .int (iI t))]) M dX7_uses_41 rfl hl (by decide) rfl (fun ls hl => ?_)
                refine q_iln M dX7_uses_42 (lv_at hl 0 rfl) ?_
                refine q_ic M dX7_uses_43 ?_
                refine q_icmp_eq (tgt := 144) M dX7_uses_44 (by decide) (by omega) (fun c44 => ?_) (fun c44 => ?_)
                · refine q_iln M dX7_uses_144 (lv_at hl 0 rfl) ?_
                  refine q_ic M dX7_uses_145 ?_
                  refine q_icmp_eq (tgt := 159) M dX7_uses_146 (by decide) (by omega) (fun c146 => ?_) (fun c146 => ?_)
                  · have e : uV ν y (t + 1) = ((plF (vx ν) (cB ν (ν 23 0)) y (ν 28 0, ν 29 0, ν 30 0) t).1, (plF (vx ν) (cB ν (ν 23 0)) y (ν 28 0, ν 29 0, ν 30 0) t).2.1, (plF (vx ν) (cB ν (ν 23 0)) y (ν 28 0, ν 29 0, ν 30 0) t).2.2) := (ev (t + 1)).trans ((itI_s _ _ ht.1).trans (if_pos (show (sA (vw ν) (cB ν (ν 23 0)) t y) = -1 by omega)))
                    have w : wW D A zs.heap (WMod cI cZ b (mset (mset (mset ν 28 (fun _ => (uV ν y (t + 1)).1)) 29 (fun _ => (uV ν y (t + 1)).2.1)) 30 (fun _ => (uV ν y (t + 1)).2.2))) H locs := by rw [e]; exact w
                    refine q_inc (z := t) (lv' := [(2, .int (iI (t + 1))), (3, .int (iI (sA (vw ν) (cB ν (ν 23 0)) t y))), (0, .ref (b 0)), (1, .int (iI y))]) M dX7_uses_159 hl (k := 3) rfl (by decide) rfl (fun ls hl => ?_)
                    refine q_go (tgt := 10) M dX7_uses_162 (by decide) ?_
                    exact ih10 (t + 1) (by omega) (Or.inr (by omega)) (by omega) _ _ _ w (lv_sub hl [2, 3, 0] rfl)
                  · refine q_aln M dX7_uses_149 (lv_at hl 1 rfl) ?_
                    refine q_dup M dX7_uses_150 rfl ?_
                    refine q_get (v := .int (iI ((plF (vx ν) (cB ν (ν 23 0)) y (ν 28 0, ν 29 0, ν 30 0) t).2.1))) M w in7 0 29 rfl rfl (by decide) (by decide +kernel) rfl rfl dX7_uses_151 ?_
                    refine q_ic M dX7_uses_154 ?_
                    refine q_add M dX7_uses_155 ?_
                    refine q_put (ws2 := WMod cI cZ b (mset (mset (mset ν 28 (fun _ => (plF (vx ν) (cB ν (ν 23 0)) y (ν 28 0, ν 29 0, ν 30 0) t).1)) 29 (fun _ => ((plF (vx ν) (cB ν (ν 23 0)) y (ν 28 0, ν 29 0, ν 30 0) t).2.1) + 1)) 30 (fun _ => (plF (vx ν) (cB ν (ν 23 0)) y (ν 28 0, ν 29 0, ν 30 0) t).2.2))) M w in7 0 29 tyX7 tyX7_ok nmX7 rfl rfl (by decide) (by decide +kernel) rfl rfl rfl rfl (Nat.le_of_ble_eq_true rfl) rfl dX7_uses_156 (fun H locs w => ?_)
                    have e : uV ν y (t + 1) = ((plF (vx ν) (cB ν (ν 23 0)) y (ν 28 0, ν 29 0, ν 30 0) t).1, ((plF (vx ν) (cB ν (ν 23 0)) y (ν 28 0, ν 29 0, ν 30 0) t).2.1) + 1, (plF (vx ν) (cB ν (ν 23 0)) y (ν 28 0, ν 29 0, ν 30 0) t).2.2) := (ev (t + 1)).trans ((itI_s _ _ ht.1).trans ((if_neg (show ¬ (sA (vw ν) (cB ν (ν 23 0)) t y) = -1 by omega)).trans (if_neg (show ¬ ν 1 (sA (vw ν) (cB ν (ν 23 0)) t y) ≤ ν 25 (sA (vw ν) (cB ν (ν 23 0)) t y) by omega))))
                    have w : wW D A zs.heap (WMod cI cZ b (mset (mset (mset ν 28 (fun _ => (uV ν y (t + 1)).1)) 29 (fun _ => (uV ν y (t + 1)).2.1)) 30 (fun _ => (uV ν y (t + 1)).2.2))) H locs := by rw [e]; exact w
                    refine q_inc (z := t) (lv' := [(2, .int (iI (t + 1))), (3, .int (iI (sA (vw ν) (cB ν (ν 23 0)) t y))), (0, .ref (b 0)), (1, .int (iI y))]) M dX7_uses_159 hl (k := 3) rfl (by decide) rfl (fun ls hl => ?_)
                    refine q_go (tgt := 10) M dX7_uses_162 (by decide) ?_
                    exact ih10 (t + 1) (by omega) (Or.inr (by omega)) (by omega) _ _ _ w (lv_sub hl [2, 3, 0] rfl)
                · have q25 := hg (sA (vw ν) (cB ν (ν 23 0)) t y)
                  have q1 := hz (sA (vw ν) (cB ν (ν 23 0)) t y)
                  have q7 : 0 ≤ ν 7 (ν 16 (ν 23 0)) ∧ ν 7 (ν 16 (ν 23 0)) ≤ 1 := hI.2.2.2.2.1 _
                  refine q_aln M dX7_uses_47 (lv_at hl 1 rfl) ?_
                  refine q_get (v := .ref (b 25)) M w in7 0 25 rfl rfl (by decide) (by decide +kernel) rfl rfl dX7_uses_48 ?_
                  refine q_iln M dX7_uses_51 (lv_at hl 0 rfl) ?_
                  refine q_iald (f := ν 25) M w 20 0 rfl rfl (by omega) dX7_uses_52 ?_
                  refine q_aln M dX7_uses_53 (lv_at hl 1 rfl) ?_
                  refine q_get (v := .ref (b 1)) M w in7 0 1 rfl rfl (by decide) (by decide +kernel) rfl rfl dX7_uses_54 ?_
                  refine q_iln M dX7_uses_57 (lv_at hl 0 rfl) ?_
                  refine q_iald (f := ν 1) M w 1 0 rfl rfl (by omega) dX7_uses_58 ?_
                  refine q_icmp_ne (tgt := 144) M dX7_uses_59 (by decide) (by omega) (fun c59 => ?_) (fun c59 => ?_)
                  · refine q_iln M dX7_uses_144 (lv_at hl 0 rfl) ?_
                    refine q_ic M dX7_uses_145 ?_
                    refine q_icmp_eq (tgt := 159) M dX7_uses_146 (by decide) (by omega) (fun c146 => ?_) (fun c146 => ?_)
                    · have e : uV ν y (t + 1) = ((plF (vx ν) (cB ν (ν 23 0)) y (ν 28 0, ν 29 0, ν 30 0) t).1, (plF (vx ν) (cB ν (ν 23 0)) y (ν 28 0, ν 29 0, ν 30 0) t).2.1, (plF (vx ν) (cB ν (ν 23 0)) y (ν 28 0, ν 29 0, ν 30 0) t).2.2) := (ev (t + 1)).trans ((itI_s _ _ ht.1).trans (if_pos (show (sA (vw ν) (cB ν (ν 23 0)) t y) = -1 by omega)))
                      have w : wW D A zs.heap (WMod cI cZ b (mset (mset (mset ν 28 (fun _ => (uV ν y (t + 1)).1)) 29 (fun _ => (uV ν y (t + 1)).2.1)) 30 (fun _ => (uV ν y (t + 1)).2.2))) H locs := by rw [e]; exact w
                      refine q_inc (z := t) (lv' := [(2, .int (iI (t + 1))), (3, .int (iI (sA (vw ν) (cB ν (ν 23 0)) t y))), (0, .ref (b 0)), (1, .int (iI y))]) M dX7_uses_159 hl (k := 3) rfl (by decide) rfl (fun ls hl => ?_)
                      refine q_go (tgt := 10) M dX7_uses_162 (by decide) ?_
                      exact ih10 (t + 1) (by omega) (Or.inr (by omega)) (by omega) _ _ _ w (lv_sub hl [2, 3, 0] rfl)
                    · refine q_aln M dX7_uses_149 (lv_at hl 1 rfl) ?_
                      refine q_dup M dX7_uses_150 rfl ?_
                      refine q_get (v := .int (iI ((plF (vx ν) (cB ν (ν 23 0)) y (ν 28 0, ν 29 0, ν 30 0) t).2.1))) M w in7 0 29 rfl rfl (by decide) (by decide +kernel) rfl rfl dX7_uses_151 ?_
                      refine q_ic M dX7_uses_154 ?_
                      refine q_add M dX7_uses_155 ?_
                      refine q_put (ws2 := WMod cI cZ b (mset (mset (mset ν 28 (fun _ => (plF (vx ν) (cB ν (ν 23 0)) y (ν 28 0, ν 29 0, ν 30 0) t).1)) 29 (fun _ => ((plF (vx ν) (cB ν (ν 23 0)) y (ν 28 0, ν 29 0, ν 30 0) t).2.1) + 1)) 30 (fun _ => (plF (vx ν) (cB ν (ν 23 0)) y (ν 28 0, ν 29 0, ν 30 0) t).2.2))) M w in7 0 29 tyX7 tyX7_ok nmX7 rfl rfl (by decide) (by decide +kernel) rfl rfl rfl rfl (Nat.le_of_ble_eq_true rfl) rfl dX7_uses_156 (fun H locs w => ?_)
                      have e : uV ν y (t + 1) = ((plF (vx ν) (cB ν (ν 23 0)) y (ν 28 0, ν 29 0, ν 30 0) t).1, ((plF (vx ν) (cB ν (ν 23 0)) y (ν 28 0, ν 29 0, ν 30 0) t).2.1) + 1, (plF (vx ν) (cB ν (ν 23 0)) y (ν 28 0, ν 29 0, ν 30 0) t).2.2) := (ev (t + 1)).trans ((itI_s _ _ ht.1).trans ((if_neg (show ¬ (sA (vw ν) (cB ν (ν 23 0)) t y) = -1 by omega)).trans (if_neg (show ¬ ν 1 (sA (vw ν) (cB ν (ν 23 0)) t y) ≤ ν 25 (sA (vw ν) (cB ν (ν 23 0)) t y) by omega))))
                      have w : wW D A zs.heap (WMod cI cZ b (mset (mset (mset ν 28 (fun _ => (uV ν y (t + 1)).1)) 29 (fun _ => (uV ν y (t + 1)).2.1)) 30 (fun _ => (uV ν y (t + 1)).2.2))) H locs := by rw [e]; exact w
                      refine q_inc (z := t) (lv' := [(2, .int (iI (t + 1))), (3, .int (iI (sA (vw ν) (cB ν (ν 23 0)) t y))), (0, .ref (b 0)), (1, .int (iI y))]) M dX7_uses_159 hl (k := 3) rfl (by decide) rfl (fun ls hl => ?_)
                      refine q_go (tgt := 10) M dX7_uses_162 (by decide) ?_
                      exact ih10 (t + 1) (by omega) (Or.inr (by omega)) (by omega) _ _ _ w (lv_sub hl [2, 3, 0] rfl)
                  · refine q_aln M dX7_uses_62 (lv_at hl 1 rfl) ?_
                    refine q_get (v := .ref (b 7)) M w in7 0 7 rfl rfl (by decide) (by decide +kernel) rfl rfl dX7_uses_63 ?_
                    refine q_aln M dX7_uses_66 (lv_at hl 1 rfl) ?_
                    refine q_get (v := .ref (b 16)) M w in7 0 16 rfl rfl (by decide) (by decide +kernel) rfl rfl dX7_uses_67 ?_
                    refine q_aln M dX7_uses_70 (lv_at hl 1 rfl) ?_
                    refine q_get (v := .int (iI (ν 23 0))) M w in7 0 23 rfl rfl (by decide) (by decide +kernel) rfl rfl dX7_uses_71 ?_
                    refine q_iald (f := ν 16) M w 15 0 rfl rfl (by omega) dX7_uses_74 ?_
                    refine q_zald (f := ν 7) M w 7 1 rfl rfl (by omega) dX7_uses_75 ?_
                    refine q_if_eq (tgt := 101) M dX7_uses_76 (by decide) (by omega) (fun c76 => ?_) (fun c76 => ?_)
                    · refine q_aln M dX7_uses_101 (lv_at hl 1 rfl) ?_
                      refine q_get (v := .ref (b 2)) M w in7 0 2 rfl rfl (by decide) (by decide +kernel) rfl rfl dX7_uses_102 ?_
                      refine q_iln M dX7_uses_105 (lv_at hl 0 rfl) ?_
                      refine q_iald (f := ν 2) M w 2 0 rfl rfl (by omega) dX7_uses_106 ?_
                      refine q_top (y := tnI (vx ν) (cB ν (ν 23 0)) (sA (vw ν) (cB ν (ν 23 0)) t y)) (by unfold tnI; rw [cB_d hc.1.2]; exact (if_neg (show ¬ ν 7 (ν 16 (ν 23 0)) = 1 by omega)).symm) ?_
                      refine q_is (lv' := [(4, .int (iI (tnI (vx ν) (cB ν (ν 23 0)) (sA (vw ν) (cB ν (ν 23 0)) t y)))), (3, .int (iI (sA (vw ν) (cB ν (ν 23 0)) t y))), (0, .ref (b 0)), (1, .int (iI y)), (2, .int (iI t))]) M dX7_uses_107 hl (by decide) rfl (fun ls hl => ?_)
                      refine q_aln M dX7_uses_109 (lv_at hl 2 rfl) ?_
                      refine q_dup M dX7_uses_110 rfl ?_
                      refine q_get (v := .int (iI ((plF (vx ν) (cB ν (ν 23 0)) y (ν 28 0, ν 29 0, ν 30 0) t).1))) M w in7 0 28 rfl rfl (by decide) (by decide +kernel) rfl rfl dX7_uses_111 ?_
                      refine q_ic M dX7_uses_114 ?_
                      refine q_add M dX7_uses_115 ?_
                      refine q_put (ws2 := WMod cI cZ b (mset (mset (mset ν 28 (fun _ => ((plF (vx ν) (cB ν (ν 23 0)) y (ν 28 0, ν 29 0, ν 30 0) t).1) + 1)) 29 (fun _ => (plF (vx ν) (cB ν (ν 23 0)) y (ν 28 0, ν 29 0, ν 30 0) t).2.1)) 30 (fun _ => (plF (vx ν) (cB ν (ν 23 0)) y (ν 28 0, ν 29 0, ν 30 0) t).2.2))) M w in7 0 28 tyX7 tyX7_ok nmX7 rfl rfl (by decide) (by decide +kernel) rfl rfl rfl rfl (Nat.le_of_ble_eq_true rfl) rfl dX7_uses_116 (fun H locs w => ?_)
                      refine q_aln M dX7_uses_119 (lv_at hl 2 rfl) ?_
                      refine q_bp M dX7_uses_120 (by decide +kernel) ?_
                      refine q_aln M dX7_uses_122 (lv_at hl 2 rfl) ?_
                      refine q_get (v := .int (iI ((plF (vx ν) (cB ν (ν 23 0)) y (ν 28 0, ν 29 0, ν 30 0) t).2.2))) M w in7 0 30 rfl rfl (by decide) (by decide +kernel) rfl rfl dX7_uses_123 ?_
                      refine q_mul M dX7_uses_126 ?_
                      refine q_bp M dX7_uses_127 (by decide +kernel) ?_
                      refine q_iln M dX7_uses_129 (lv_at hl 1 rfl) ?_
                      refine q_mul M dX7_uses_130 ?_
                      refine q_add M dX7_uses_131 ?_
                      refine q_il M dX7_uses_132 (lv_at hl 0 rfl) ?_
                      refine q_add M dX7_uses_134 ?_
                      refine q_bp M dX7_uses_135 (by decide +kernel) ?_
                      refine q_add M dX7_uses_137 ?_
                      refine q_put (ws2 := WMod cI cZ b (mset (mset (mset ν 28 (fun _ => ((plF (vx ν) (cB ν (ν 23 0)) y (ν 28 0, ν 29 0, ν 30 0) t).1) + 1)) 29 (fun _ => (plF (vx ν) (cB ν (ν 23 0)) y (ν 28 0, ν 29 0, ν 30 0) t).2.1)) 30 (fun _ => (((31 * ((plF (vx ν) (cB ν (ν 23 0)) y (ν 28 0, ν 29 0, ν 30 0) t).2.2)) + (100 * (sA (vw ν) (cB ν (ν 23 0)) t y))) + (tnI (vx ν) (cB ν (ν 23 0)) (sA (vw ν) (cB ν (ν 23 0)) t y))) + 12))) M w in7 0 30 tyX7 tyX7_ok nmX7 rfl rfl (by decide) (by decide +kernel) rfl rfl rfl rfl (Nat.le_of_ble_eq_true rfl) rfl dX7_uses_138 (fun H locs w => ?_)
                      refine q_go (tgt := 159) M dX7_uses_141 (by decide) ?_
                      have e : uV ν y (t + 1) = (((plF (vx ν) (cB ν (ν 23 0)) y (ν 28 0, ν 29 0, ν 30 0) t).1) + 1, (plF (vx ν) (cB ν (ν 23 0)) y (ν 28 0, ν 29 0, ν 30 0) t).2.1, (((31 * ((plF (vx ν) (cB ν (ν 23 0)) y (ν 28 0, ν 29 0, ν 30 0) t).2.2)) + (100 * (sA (vw ν) (cB ν (ν 23 0)) t y))) + (tnI (vx ν) (cB ν (ν 23 0)) (sA (vw ν) (cB ν (ν 23 0)) t y))) + 12) := (ev (t + 1)).trans ((itI_s _ _ ht.1).trans ((if_neg (show ¬ (sA (vw ν) (cB ν (ν 23 0)) t y) = -1 by omega)).trans (if_pos (show ν 1 (sA (vw ν) (cB ν (ν 23 0)) t y) ≤ ν 25 (sA (vw ν) (cB ν (ν 23 0)) t y) by omega))))
                      have w : wW D A zs.heap (WMod cI cZ b (mset (mset (mset ν 28 (fun _ => (uV ν y (t + 1)).1)) 29 (fun _ => (uV ν y (t + 1)).2.1)) 30 (fun _ => (uV ν y (t + 1)).2.2))) H locs := by rw [e]; exact w
                      refine q_inc (z := t) (lv' := [(2, .int (iI (t + 1))), (4, .int (iI (tnI (vx ν) (cB ν (ν 23 0)) (sA (vw ν) (cB ν (ν 23 0)) t y)))), (3, .int (iI (sA (vw ν) (cB ν (ν 23 0)) t y))), (0, .ref (b 0)), (1, .int (iI y))]) M dX7_uses_159 hl (k := 4) rfl (by decide) rfl (fun ls hl => ?_)
                      refine q_go (tgt := 10) M dX7_uses_162 (by decide) ?_
                      exact ih10 (t + 1) (by omega) (Or.inr (by omega)) (by omega) _ _ _ w (lv_sub hl [3, 4, 0] rfl)
                    · refine q_aln M dX7_uses_79 (lv_at hl 1 rfl) ?_
                      refine q_get (v := .ref (b 8)) M w in7 0 8 rfl rfl (by decide) (by decide +kernel) rfl rfl dX7_uses_80 ?_
                      refine q_bp M dX7_uses_83 (by decide +kernel) ?_
                      refine q_aln M dX7_uses_85 (lv_at hl 1 rfl) ?_
                      refine q_get (v := .ref (b 16)) M w in7 0 16 rfl rfl (by decide) (by decide +kernel) rfl rfl dX7_uses_86 ?_
                      refine q_aln M dX7_uses_89 (lv_at hl 1 rfl) ?_
                      refine q_get (v := .int (iI (ν 23 0))) M w in7 0 23 rfl rfl (by decide) (by decide +kernel) rfl rfl dX7_uses_90 ?_
                      refine q_iald (f := ν 16) M w 15 0 rfl rfl (by omega) dX7_uses_93 ?_
                      refine q_mul M dX7_uses_94 ?_
                      refine q_iln M dX7_uses_95 (lv_at hl 0 rfl) ?_
                      refine q_add M dX7_uses_96 ?_
                      refine q_top (y := ν 16 (ν 23 0) * 8 + (sA (vw ν) (cB ν (ν 23 0)) t y)) (by omega) ?_
                      refine q_iald (f := ν 8) M w 8 0 rfl rfl (by omega) dX7_uses_97 ?_
                      refine q_top (y := tnI (vx ν) (cB ν (ν 23 0)) (sA (vw ν) (cB ν (ν 23 0)) t y)) (by unfold tnI; rw [cB_d hc.1.2]; exact (if_pos (show ν 7 (ν 16 (ν 23 0)) = 1 by omega)).symm) ?_
                      refine q_go (tgt := 107) M dX7_uses_98 (by decide) ?_
                      refine q_is (lv' := [(4, .int (iI (tnI (vx ν) (cB ν (ν 23 0)) (sA (vw ν) (cB ν (ν 23 0)) t y)))), (3, .int (iI (sA (vw ν) (cB ν (ν 23 0)) t y))), (0, .ref (b 0)), (1, .int (iI y)), (2, .int (iI t))]) M dX7_uses_107 hl (by decide) rfl (fun ls hl => ?_)
                      refine q_aln M dX7_uses_109 (lv_at hl 2 rfl) ?_
                      refine q_dup M dX7_uses_110 rfl ?_
                      refine q_get (v := .int (iI ((plF (vx ν) (cB ν (ν 23 0)) y (ν 28 0, ν 29 0, ν 30 0) t).1))) M w in7 0 28 rfl rfl (by decide) (by decide +kernel) rfl rfl dX7_uses_111 ?_
                      refine q_ic M dX7_uses_114 ?_
                      refine q_add M dX7_uses_115 ?_
                      refine q_put (ws2 := WMod cI cZ b (mset (mset (mset ν 28 (fun _ => ((plF (vx ν) (cB ν (ν 23 0)) y (ν 28 0, ν 29 0, ν 30 0) t).1) + 1)) 29 (fun _ => (plF (vx ν) (cB ν (ν 23 0)) y (ν 28 0, ν 29 0, ν 30 0) t).2.1)) 30 (fun _ => (plF (vx ν) (cB ν (ν 23 0)) y (ν 28 0, ν 29 0, ν 30 0) t).2.2))) M w in7 0 28 tyX7 tyX7_ok nmX7 rfl rfl (by decide) (by decide +kernel) rfl rfl rfl rfl (Nat.le_of_ble_eq_true rfl) rfl dX7_uses_116 (fun H locs w => ?_)
                      refine q_aln M dX7_uses_119 (lv_at hl 2 rfl) ?_
                      refine q_bp M dX7_uses_120 (by decide +kernel) ?_
                      refine q_aln M dX7_uses_122 (lv_at hl 2 rfl) ?_
                      refine q_get (v := .int (iI ((plF (vx ν) (cB ν (ν 23 0)) y (ν 28 0, ν 29 0, ν 30 0) t).2.2))) M w in7 0 30 rfl rfl (by decide) (by decide +kernel) rfl rfl dX7_uses_123 ?_
                      refine q_mul M dX7_uses_126 ?_
                      refine q_bp M dX7_uses_127 (by decide +kernel) ?_
                      refine q_iln M dX7_uses_129 (lv_at hl 1 rfl) ?_
                      refine q_mul M dX7_uses_130 ?_
                      refine q_add M dX7_uses_131 ?_
                      refine q_il M dX7_uses_132 (lv_at hl 0 rfl) ?_
                      refine q_add M dX7_uses_134 ?_
                      refine q_bp M dX7_uses_135 (by decide +kernel) ?_
                      refine q_add M dX7_uses_137 ?_
                      refine q_put (ws2 := WMod cI cZ b (mset (mset (mset ν 28 (fun _ => ((plF (vx ν) (cB ν (ν 23 0)) y (ν 28 0, ν 29 0, ν 30 0) t).1) + 1)) 29 (fun _ => (plF (vx ν) (cB ν (ν 23 0)) y (ν 28 0, ν 29 0, ν 30 0) t).2.1)) 30 (fun _ => (((31 * ((plF (vx ν) (cB ν (ν 23 0)) y (ν 28 0, ν 29 0, ν 30 0) t).2.2)) + (100 * (sA (vw ν) (cB ν (ν 23 0)) t y))) + (tnI (vx ν) (cB ν (ν 23 0)) (sA (vw ν) (cB ν (ν 23 0)) t y))) + 12))) M w in7 0 30 tyX7 tyX7_ok nmX7 rfl rfl (by decide) (by decide +kernel) rfl rfl rfl rfl (Nat.le_of_ble_eq_true rfl) rfl dX7_uses_138 (fun H locs w => ?_)
                      refine q_go (tgt := 159) M dX7_uses_141 (by decide) ?_
                      have e : uV ν y (t + 1) = (((plF (vx ν) (cB ν (ν 23 0)) y (ν 28 0, ν 29 0, ν 30 0) t).1) + 1, (plF (vx ν) (cB ν (ν 23 0)) y (ν 28 0, ν 29 0, ν 30 0) t).2.1, (((31 * ((plF (vx ν) (cB ν (ν 23 0)) y (ν 28 0, ν 29 0, ν 30 0) t).2.2)) + (100 * (sA (vw ν) (cB ν (ν 23 0)) t y))) + (tnI (vx ν) (cB ν (ν 23 0)) (sA (vw ν) (cB ν (ν 23 0)) t y))) + 12) := (ev (t + 1)).trans ((itI_s _ _ ht.1).trans ((if_neg (show ¬ (sA (vw ν) (cB ν (ν 23 0)) t y) = -1 by omega)).trans (if_pos (show ν 1 (sA (vw ν) (cB ν (ν 23 0)) t y) ≤ ν 25 (sA (vw ν) (cB ν (ν 23 0)) t y) by omega))))
                      have w : wW D A zs.heap (WMod cI cZ b (mset (mset (mset ν 28 (fun _ => (uV ν y (t + 1)).1)) 29 (fun _ => (uV ν y (t + 1)).2.1)) 30 (fun _ => (uV ν y (t + 1)).2.2))) H locs := by rw [e]; exact w
                      refine q_inc (z := t) (lv' := [(2, .int (iI (t + 1))), (4, .int (iI (tnI (vx ν) (cB ν (ν 23 0)) (sA (vw ν) (cB ν (ν 23 0)) t y)))), (3, .int (iI (sA (vw ν) (cB ν (ν 23 0)) t y))), (0, .ref (b 0)), (1, .int (iI y))]) M dX7_uses_159 hl (k := 4) rfl (by decide) rfl (fun ls hl => ?_)
                      refine q_go (tgt := 10) M dX7_uses_162 (by decide) ?_
                      exact ih10 (t + 1) (by omega) (Or.inr (by omega)) (by omega) _ _ _ w (lv_sub hl [3, 4, 0] rfl)
        have e0 := u_a hI hy.1
        have w : wW D A zs.heap (WMod cI cZ b (mset (mset (mset ν 28 (fun _ => (uV ν y 0).1)) 29 (fun _ => (uV ν y 0).2.1)) 30 (fun _ => (uV ν y 0).2.2))) H locs := by rw [e0]; exact w
        exact lp10 5 0 (by omega) (Or.inl rfl) (by omega) _ _ _ w (lv_sub hl [1, 2, 0] rfl)
  have e0 := u_d ν hc.2.2.1
  have w : wW D A zs.heap (WMod cI cZ b (mset (mset (mset ν 28 (fun _ => (uS ν 0).1)) 29 (fun _ => (uS ν 0).2.1)) 30 (fun _ => (uS ν 0).2.2))) zs.heap [] := by rw [e0]; exact w
  exact lp2 17 0 (by omega) (by omega) _ _ _ w (lv_sub hl [1, 0] rfl)

noncomputable def ldR (ν : Nat → Int → Int) : (Int → Int) × Int × Int × Int := ldF (nU ν) (ν 1) (ν 25, sI (ν 25) 8, ν 26 0, ν 27 0)
noncomputable def wkR (ν : Nat → Int → Int) : Int := if (ldR ν).2.2.1 = -1 then 0 else (ldR ν).2.2.2
def rd24 (ν : Nat → Int → Int) : Int := if ν 24 0 + 1 = 192 then 0 else ν 24 0 + 1
def rd23 (ν : Nat → Int → Int) : Int := if ν 24 0 + 1 = 192 then ν 23 0 + 1 else ν 23 0
def rd22 (ν : Nat → Int → Int) : Int := if ν 24 0 + 1 = 192 ∧ ν 23 0 + 1 = ν 18 (ν 22 0 + 1) then ν 22 0 + 1 else ν 22 0
def rd21 (ν : Nat → Int → Int) : Int := if ν 24 0 + 1 = 192 then (if rd22 ν < ν 14 0 then 1 else 0) else ν 21 0
noncomputable def psR (ν : Nat → Int → Int) : Nat → Int → Int := mset (mset (mset (mset (mset (mset (mset (mset (mset (mset ν 21 (fun _ => rd21 ν)) 22 (fun _ => rd22 ν)) 23 (fun _ => rd23 ν)) 24 (fun _ => rd24 ν)) 25 ((ldR ν).1)) 26 (fun _ => (ldR ν).2.2.1)) 27 (fun _ => wkR ν)) 28 (fun _ => (plR ν).1)) 29 (fun _ => (plR ν).2.1)) 30 (fun _ => (plR ν).2.2)
theorem nF_congr {ν ν2 : Nat → Int → Int} (h2 : vw ν2 2 = vw ν 2) (h3 : vw ν2 3 = vw ν 3) (h4 : vw ν2 4 = vw ν 4) (h14 : ν2 14 = ν 14) (h16 : ν2 16 = ν 16) (h17 : ν2 17 = ν 17) (h18 : ν2 18 = ν 18) (h23 : ν2 23 = ν 23) (h24 : ν2 24 = ν 24) : nF ν2 = nF ν := by
  have hl : nL ν2 = nL ν := by
    funext p
    unfold nL cB tOf
    rw [h4, h16, h17, h23, h24]
  have hc : nC ν2 = nC ν := by
    funext s p
    unfold nC
    rw [hl]
    unfold cB sA
    rw [h2, h3, h14, h16, h17, h18, h23]
  funext s
  unfold nF nW
  rw [hc, hl]
theorem nU_congr {ν ν2 : Nat → Int → Int} (h2 : vw ν2 2 = vw ν 2) (h3 : vw ν2 3 = vw ν 3) (h4 : vw ν2 4 = vw ν 4) (h14 : ν2 14 = ν 14) (h16 : ν2 16 = ν 16) (h17 : ν2 17 = ν 17) (h18 : ν2 18 = ν 18) (h23 : ν2 23 = ν 23) (h24 : ν2 24 = ν 24) : nU ν2 = nU ν := by
  unfold nU
  rw [nF_congr h2 h3 h4 h14 h16 h17 h18 h23 h24]
theorem tkR_u (ν : Nat → Int → Int) (f g h : Int → Int) : tkR (mset (mset (mset ν 28 f) 29 g) 30 h) = tkR ν := by
  unfold tkR
  rw [nU_congr (ν := ν) (ν2 := mset (mset (mset ν 28 f) 29 g) 30 h) rfl rfl rfl rfl rfl rfl rfl rfl rfl]
  rfl
theorem tk_cs (ν : Nat → Int → Int) : (tkR ν = (ν 25, sI (ν 25) 8, ν 26 0, ν 27 0)) ∨ (0 ≤ (tkR ν).2.2.1 ∧ (tkR ν).2.2.1 < 8 ∧ (tkR ν).2.2.2 = 0) := by
  unfold tkR tkF
  have h1 := fNr_bd (nU ν) (ν 1) (ν 25) (show (0 : Int) ≤ 8 by omega)
  by_cases q : (fNr (nU ν) (ν 1) (ν 25) 8).1 = -1
  · rw [if_pos q]; exact Or.inl rfl
  · rw [if_neg q]
    split
    · right; exact ⟨by dsimp only; omega, by dsimp only; omega, rfl⟩
    · split
      · exact Or.inl rfl
      · right; exact ⟨by dsimp only; omega, by dsimp only; omega, rfl⟩
/-- what a tick of the reference needs -/
def PM (ν : Nat → Int → Int) : Prop := MX ν ∧ (((0 ≤ ν 16 (ν 23 0) ∧ ν 16 (ν 23 0) < 12) ∧ 0 ≤ ν 17 (ν 23 0) ∧ ν 17 (ν 23 0) ≤ 1) ∧ (0 ≤ ν 23 0 ∧ ν 23 0 < 512) ∧ 0 ≤ ν 24 0 ∧ ν 24 0 < 192) ∧ (∀ i, 0 ≤ ν 25 i ∧ ν 25 i ≤ ν 1 i) ∧ (-1 ≤ ν 26 0 ∧ ν 26 0 < 8) ∧ (ν 26 0 = -1 → ν 27 0 = 0) ∧ (0 ≤ ν 27 0 ∧ ν 27 0 ≤ 7) ∧ (0 ≤ ν 22 0 ∧ ν 22 0 < 8) ∧ (∀ j, 0 ≤ j → j ≤ 8 → 0 ≤ ν 18 j ∧ ν 18 j ≤ 512)

set_option maxHeartbeats 4000000 in
set_option maxRecDepth 100000 in
/-- passes -/
theorem m_passes (l : Launch) (D : va_G) (cI cZ cJ : ClassId) (b : Nat → Nat) (ν : Nat → Int → Int) (hPM : PM ν) : Cv l D (tY cI cZ cJ) yX7_passes wsX7_passes rmX7_passes [.ref (b 0)] (WMod cI cZ b ν) (WMod cI cZ b (psR ν)) := by
  obtain ⟨hM, hbar, hg, hh0, hw0, hwk, hat, hfi⟩ := hPM
  obtain ⟨hN, hg6, hz, hsum⟩ := id hM
  have htk := tk_cs ν
  have hfa := hfi (ν 22 0 + 1) (by omega) (by omega)
  have h14 := hN.2.2.2.1
  have hb26 : -1 ≤ (tkR ν).2.2.1 ∧ (tkR ν).2.2.1 < 8 := by rcases htk with q | q; (rw [q]; exact hh0); omega
  have hb27 : 0 ≤ (tkR ν).2.2.2 ∧ (tkR ν).2.2.2 ≤ 7 := by rcases htk with q | q; (rw [q]; exact hwk); omega
  refine qv_of (by decide +kernel) rfl (Nat.le_of_ble_eq_true rfl) ?_
  intro zp ze zs zm zargs zbelow zmeth zc A Q ls M hA w hl kret
  have hl : lv_has ls 1 [(0, .ref (b 0))] := hl
  have in7 : ∀ w ∈ u_ws RX7 TX7 31, w ∈ wsX7_passes := by decide +kernel
  refine q_aln M dX7_passes_0 (lv_at hl 0 rfl) ?_
  refine qc_vV (As := []) (rest := []) (wc := WMod cI cZ b ν) (wc2 := WMod cI cZ b (mset (mset (mset ν 28 (fun _ => (plR ν).1)) 29 (fun _ => (plR ν).2.1)) 30 (fun _ => (plR ν).2.2))) (ws2 := WMod cI cZ b (mset (mset (mset ν 28 (fun _ => (plR ν).1)) 29 (fun _ => (plR ν).2.1)) 30 (fun _ => (plR ν).2.2))) M w hA hl (m_uses l D cI cZ cJ b ν hN.1 hbar hg hz) gX7_passes_X7_uses rfl ⟨rfl, rfl, by decide, by decide⟩ ⟨Nat.zero_le _, Nat.zero_le _⟩ 0 ⟨rfl, by decide +kernel⟩ rfl [true, true, true, true, true, true, true, true, true, true, true, true, true, true, true, true, true, true, true, true, true] rfl rfl 0 rfl rfl rfl (Nat.le_of_ble_eq_true rfl) rfl dX7_passes_1 (fun H locs w => ?_)
  refine q_aln M dX7_passes_4 (lv_at hl 0 rfl) ?_
  refine q_get (v := .int (iI (ν 26 0))) M w in7 0 26 rfl rfl (by decide) (by decide +kernel) rfl rfl dX7_passes_5 ?_
  refine q_ic M dX7_passes_8 ?_
  refine q_icmp_ne (tgt := 16) M dX7_passes_9 (by decide) (by omega) (fun c9 => ?_) (fun c9 => ?_)
  · refine q_aln M dX7_passes_16 (lv_at hl 0 rfl) ?_
    refine q_get (v := .int (iI (ν 26 0))) M w in7 0 26 rfl rfl (by decide) (by decide +kernel) rfl rfl dX7_passes_17 ?_
    refine q_ic M dX7_passes_20 ?_
    refine q_icmp_eq (tgt := 66) M dX7_passes_21 (by decide) (by omega) (fun c21 => ?_) (fun c21 => ?_)
    · exfalso; omega
    · refine q_aln M dX7_passes_24 (lv_at hl 0 rfl) ?_
      refine q_dup M dX7_passes_25 rfl ?_
      refine q_get (v := .int (iI (ν 27 0))) M w in7 0 27 rfl rfl (by decide) (by decide +kernel) rfl rfl dX7_passes_26 ?_
      refine q_ic M dX7_passes_29 ?_
      refine q_add M dX7_passes_30 ?_
      refine q_put (ws2 := WMod cI cZ b (mset (mset (mset (mset ν 27 (fun _ => (ν 27 0) + 1)) 28 (fun _ => (plR ν).1)) 29 (fun _ => (plR ν).2.1)) 30 (fun _ => (plR ν).2.2))) M w in7 0 27 tyX7 tyX7_ok nmX7 rfl rfl (by decide) (by decide +kernel) rfl rfl rfl rfl (Nat.le_of_ble_eq_true rfl) rfl dX7_passes_31 (fun H locs w => ?_)
      refine q_aln M dX7_passes_34 (lv_at hl 0 rfl) ?_
      refine q_get (v := .int (iI ((ν 27 0) + 1))) M w in7 0 27 rfl rfl (by decide) (by decide +kernel) rfl rfl dX7_passes_35 ?_
      refine q_bp M dX7_passes_38 (by decide +kernel) ?_
      refine q_icmp_ne (tgt := 66) M dX7_passes_40 (by decide) (by omega) (fun c40 => ?_) (fun c40 => ?_)
      · have e : ldR ν = ((ν 25), (sI (ν 25) 8), (ν 26 0), (ν 27 0) + 1) := (if_neg (show ¬ ν 26 0 = -1 by omega)).trans ((if_pos (show (ν 27 0) + 1 < 8 by omega)))
        have ew : wkR ν = (ν 27 0) + 1 := by unfold wkR; rw [e]; exact if_neg (show ¬ (ν 26 0) = -1 by omega)
        have w : wW D A zs.heap (WMod cI cZ b (mset (mset (mset (mset (mset (mset ν 25 ((ldR ν).1)) 26 (fun _ => (ldR ν).2.2.1)) 27 (fun _ => wkR ν)) 28 (fun _ => (plR ν).1)) 29 (fun _ => (plR ν).2.1)) 30 (fun _ => (plR ν).2.2))) H locs := by rw [e, ew]; exact w
        refine q_aln M dX7_passes_66 (lv_at hl 0 rfl) ?_
        refine q_dup M dX7_passes_67 rfl ?_
        refine q_get (v := .int (iI (ν 24 0))) M w in7 0 24 rfl rfl (by decide) (by decide +kernel) rfl rfl dX7_passes_68 ?_
        refine q_ic M dX7_passes_71 ?_
        refine q_add M dX7_passes_72 ?_
        refine q_put (ws2 := WMod cI cZ b (mset (mset (mset (mset (mset (mset (mset ν 24 (fun _ => (ν 24 0) + 1)) 25 ((ldR ν).1)) 26 (fun _ => (ldR ν).2.2.1)) 27 (fun _ => wkR ν)) 28 (fun _ => (plR ν).1)) 29 (fun _ => (plR ν).2.1)) 30 (fun _ => (plR ν).2.2))) M w in7 0 24 tyX7 tyX7_ok nmX7 rfl rfl (by decide) (by decide +kernel) rfl rfl rfl rfl (Nat.le_of_ble_eq_true rfl) rfl dX7_passes_73 (fun H locs w => ?_)
        refine q_aln M dX7_passes_76 (lv_at hl 0 rfl) ?_
        refine q_get (v := .int (iI ((ν 24 0) + 1))) M w in7 0 24 rfl rfl (by decide) (by decide +kernel) rfl rfl dX7_passes_77 ?_
        refine q_sp M dX7_passes_80 (by decide +kernel) ?_
        refine q_icmp_ne (tgt := 153) M dX7_passes_83 (by decide) (by omega) (fun c83 => ?_) (fun c83 => ?_)
        · have r24 : rd24 ν = (ν 24 0) + 1 := if_neg (by omega)
          have r23 : rd23 ν = ν 23 0 := if_neg (by omega)
          have r22 : rd22 ν = ν 22 0 := if_neg (fun q => by have := q.1; omega)
          have r21 : rd21 ν = ν 21 0 := if_neg (by omega)
          have w : wW D A zs.heap (WMod cI cZ b (mset (mset (mset (mset (mset (mset (mset (mset (mset (mset ν 21 (fun _ => rd21 ν)) 22 (fun _ => rd22 ν)) 23 (fun _ => rd23 ν)) 24 (fun _ => rd24 ν)) 25 ((ldR ν).1)) 26 (fun _ => (ldR ν).2.2.1)) 27 (fun _ => wkR ν)) 28 (fun _ => (plR ν).1)) 29 (fun _ => (plR ν).2.1)) 30 (fun _ => (plR ν).2.2))) H locs := by rw [r24, r23, r22, r21]; exact w
          exact kret _ _ _ _ dX7_passes_153 w
        · refine q_aln M dX7_passes_86 (lv_at hl 0 rfl) ?_
          refine q_ic M dX7_passes_87 ?_
          refine q_put (ws2 := WMod cI cZ b (mset (mset (mset (mset (mset (mset (mset ν 24 (fun _ => 0)) 25 ((ldR ν).1)) 26 (fun _ => (ldR ν).2.2.1)) 27 (fun _ => wkR ν)) 28 (fun _ => (plR ν).1)) 29 (fun _ => (plR ν).2.1)) 30 (fun _ => (plR ν).2.2))) M w in7 0 24 tyX7 tyX7_ok nmX7 rfl rfl (by decide) (by decide +kernel) rfl rfl rfl rfl (Nat.le_of_ble_eq_true rfl) rfl dX7_passes_88 (fun H locs w => ?_)
          refine q_aln M dX7_passes_91 (lv_at hl 0 rfl) ?_
          refine q_dup M dX7_passes_92 rfl ?_
          refine q_get (v := .int (iI (ν 23 0))) M w in7 0 23 rfl rfl (by decide) (by decide +kernel) rfl rfl dX7_passes_93 ?_
          refine q_ic M dX7_passes_96 ?_
          refine q_add M dX7_passes_97 ?_
          refine q_put (ws2 := WMod cI cZ b (mset (mset (mset (mset (mset (mset (mset (mset ν 23 (fun _ => (ν 23 0) + 1)) 24 (fun _ => 0)) 25 ((ldR ν).1)) 26 (fun _ => (ldR ν).2.2.1)) 27 (fun _ => wkR ν)) 28 (fun _ => (plR ν).1)) 29 (fun _ => (plR ν).2.1)) 30 (fun _ => (plR ν).2.2))) M w in7 0 23 tyX7 tyX7_ok nmX7 rfl rfl (by decide) (by decide +kernel) rfl rfl rfl rfl (Nat.le_of_ble_eq_true rfl) rfl dX7_passes_98 (fun H locs w => ?_)
          refine q_aln M dX7_passes_101 (lv_at hl 0 rfl) ?_
          refine q_dup M dX7_passes_102 rfl ?_
          refine q_get (v := .int (iI (ν 22 0))) M w in7 0 22 rfl rfl (by decide) (by decide +kernel) rfl rfl dX7_passes_103 ?_
          refine q_aln M dX7_passes_106 (lv_at hl 0 rfl) ?_
          refine q_get (v := .int (iI ((ν 23 0) + 1))) M w in7 0 23 rfl rfl (by decide) (by decide +kernel) rfl rfl dX7_passes_107 ?_
          refine q_aln M dX7_passes_110 (lv_at hl 0 rfl) ?_
          refine q_get (v := .ref (b 18)) M w in7 0 18 rfl rfl (by decide) (by decide +kernel) rfl rfl dX7_passes_111 ?_
          refine q_aln M dX7_passes_114 (lv_at hl 0 rfl) ?_
          refine q_get (v := .int (iI (ν 22 0))) M w in7 0 22 rfl rfl (by decide) (by decide +kernel) rfl rfl dX7_passes_115 ?_
          refine q_ic M dX7_passes_118 ?_
          refine q_add M dX7_passes_119 ?_
          refine q_iald (f := ν 18) M w 17 0 rfl rfl (by omega) dX7_passes_120 ?_
          refine q_icmp_ne (tgt := 128) M dX7_passes_121 (by decide) (by omega) (fun c121 => ?_) (fun c121 => ?_)
          · refine q_ic M dX7_passes_128 ?_
            refine q_add M dX7_passes_129 ?_
            refine q_put (ws2 := WMod cI cZ b (mset (mset (mset (mset (mset (mset (mset (mset (mset ν 22 (fun _ => (ν 22 0) + 0)) 23 (fun _ => (ν 23 0) + 1)) 24 (fun _ => 0)) 25 ((ldR ν).1)) 26 (fun _ => (ldR ν).2.2.1)) 27 (fun _ => wkR ν)) 28 (fun _ => (plR ν).1)) 29 (fun _ => (plR ν).2.1)) 30 (fun _ => (plR ν).2.2))) M w in7 0 22 tyX7 tyX7_ok nmX7 rfl rfl (by decide) (by decide +kernel) rfl rfl rfl rfl (Nat.le_of_ble_eq_true rfl) rfl dX7_passes_130 (fun H locs w => ?_)
            refine q_aln M dX7_passes_133 (lv_at hl 0 rfl) ?_
            refine q_aln M dX7_passes_134 (lv_at hl 0 rfl) ?_
            refine q_get (v := .int (iI ((ν 22 0) + 0))) M w in7 0 22 rfl rfl (by decide) (by decide +kernel) rfl rfl dX7_passes_135 ?_
            refine q_aln M dX7_passes_138 (lv_at hl 0 rfl) ?_
            refine q_get (v := .int (iI (ν 14 0))) M w in7 0 14 rfl rfl (by decide) (by decide +kernel) rfl rfl dX7_passes_139 ?_
            refine q_icmp_ge (tgt := 149) M dX7_passes_142 (by decide) (by omega) (fun c142 => ?_) (fun c142 => ?_)
            · refine q_ic M dX7_passes_149 ?_
              refine q_put (ws2 := WMod cI cZ b (mset (mset (mset (mset (mset (mset (mset (mset (mset (mset ν 21 (fun _ => 0)) 22 (fun _ => (ν 22 0) + 0)) 23 (fun _ => (ν 23 0) + 1)) 24 (fun _ => 0)) 25 ((ldR ν).1)) 26 (fun _ => (ldR ν).2.2.1)) 27 (fun _ => wkR ν)) 28 (fun _ => (plR ν).1)) 29 (fun _ => (plR ν).2.1)) 30 (fun _ => (plR ν).2.2))) M w in7 0 21 tyX7 tyX7_ok nmX7 rfl rfl (by decide) (by decide +kernel) rfl rfl (q_nz2 (by omega)) (q_fz (by omega)) (Nat.le_of_ble_eq_true rfl) rfl dX7_passes_150 (fun H locs w => ?_)
              have r24 : rd24 ν = 0 := if_pos (by omega)
              have r23 : rd23 ν = (ν 23 0) + 1 := if_pos (by omega)
              have r22 : rd22 ν = (ν 22 0) + 0 := (if_neg (fun q => by have := q.2; omega)).trans (by omega)
              have r21 : rd21 ν = 0 := by
                unfold rd21
                rw [if_pos (show ν 24 0 + 1 = 192 by omega), r22]
                exact if_neg (by omega)
              have w : wW D A zs.heap (WMod cI cZ b (mset (mset (mset (mset (mset (mset (mset (mset (mset (mset ν 21 (fun _ => rd21 ν)) 22 (fun _ => rd22 ν)) 23 (fun _ => rd23 ν)) 24 (fun _ => rd24 ν)) 25 ((ldR ν).1)) 26 (fun _ => (ldR ν).2.2.1)) 27 (fun _ => wkR ν)) 28 (fun _ => (plR ν).1)) 29 (fun _ => (plR ν).2.1)) 30 (fun _ => (plR ν).2.2))) H locs := by rw [r24, r23, r22, r21]; exact w
              exact kret _ _ _ _ dX7_passes_153 w
            · refine q_ic M dX7_passes_145 ?_
              refine q_go (tgt := 150) M dX7_passes_146 (by decide) ?_
              refine q_put (ws2 := WMod cI cZ b (mset (mset (mset (mset (mset (mset (mset (mset (mset (mset ν 21 (fun _ => 1)) 22 (fun _ => (ν 22 0) + 0)) 23 (fun _ => (ν 23 0) + 1)) 24 (fun _ => 0)) 25 ((ldR ν).1)) 26 (fun _ => (ldR ν).2.2.1)) 27 (fun _ => wkR ν)) 28 (fun _ => (plR ν).1)) 29 (fun _ => (plR ν).2.1)) 30 (fun _ => (plR ν).2.2))) M w in7 0 21 tyX7 tyX7_ok nmX7 rfl rfl (by decide) (by decide +kernel) rfl rfl (q_nz2 (by omega)) (q_fz (by omega)) (Nat.le_of_ble_eq_true rfl) rfl dX7_passes_150 (fun H locs w => ?_)
              have r24 : rd24 ν = 0 := if_pos (by omega)
              have r23 : rd23 ν = (ν 23 0) + 1 := if_pos (by omega)
              have r22 : rd22 ν = (ν 22 0) + 0 := (if_neg (fun q => by have := q.2; omega)).trans (by omega)
              have r21 : rd21 ν = 1 := by
                unfold rd21
                rw [if_pos (show ν 24 0 + 1 = 192 by omega), r22]
                exact if_pos (by omega)
              have w : wW D A zs.heap (WMod cI cZ b (mset (mset (mset (mset (mset (mset (mset (mset (mset (mset ν 21 (fun _ => rd21 ν)) 22 (fun _ => rd22 ν)) 23 (fun _ => rd23 ν)) 24 (fun _ => rd24 ν)) 25 ((ldR ν).1)) 26 (fun _ => (ldR ν).2.2.1)) 27 (fun _ => wkR ν)) 28 (fun _ => (plR ν).1)) 29 (fun _ => (plR ν).2.1)) 30 (fun _ => (plR ν).2.2))) H locs := by rw [r24, r23, r22, r21]; exact w
              exact kret _ _ _ _ dX7_passes_153 w
          · refine q_ic M dX7_passes_124 ?_
            refine q_go (tgt := 129) M dX7_passes_125 (by decide) ?_
            refine q_add M dX7_passes_129 ?_
            refine q_put (ws2 := WMod cI cZ b (mset (mset (mset (mset (mset (mset (mset (mset (mset ν 22 (fun _ => (ν 22 0) + 1)) 23 (fun _ => (ν 23 0) + 1)) 24 (fun _ => 0)) 25 ((ldR ν).1)) 26 (fun _ => (ldR ν).2.2.1)) 27 (fun _ => wkR ν)) 28 (fun _ => (plR ν).1)) 29 (fun _ => (plR ν).2.1)) 30 (fun _ => (plR ν).2.2))) M w in7 0 22 tyX7 tyX7_ok nmX7 rfl rfl (by decide) (by decide +kernel) rfl rfl rfl rfl (Nat.le_of_ble_eq_true rfl) rfl dX7_passes_130 (fun H locs w => ?_)
            refine q_aln M dX7_passes_133 (lv_at hl 0 rfl) ?_
            refine q_aln M dX7_passes_134 (lv_at hl 0 rfl) ?_
            refine q_get (v := .int (iI ((ν 22 0) + 1))) M w in7 0 22 rfl rfl (by decide) (by decide +kernel) rfl rfl dX7_passes_135 ?_
            refine q_aln M dX7_passes_138 (lv_at hl 0 rfl) ?_
            refine q_get (v := .int (iI (ν 14 0))) M w in7 0 14 rfl rfl (by decide) (by decide +kernel) rfl rfl dX7_passes_139 ?_
            refine q_icmp_ge (tgt := 149) M dX7_passes_142 (by decide) (by omega) (fun c142 => ?_) (fun c142 => ?_)
            · refine q_ic M dX7_passes_149 ?_
              refine q_put (ws2 := WMod cI cZ b (mset (mset (mset (mset (mset (mset (mset (mset (mset (mset ν 21 (fun _ => 0)) 22 (fun _ => (ν 22 0) + 1)) 23 (fun _ => (ν 23 0) + 1)) 24 (fun _ => 0)) 25 ((ldR ν).1)) 26 (fun _ => (ldR ν).2.2.1)) 27 (fun _ => wkR ν)) 28 (fun _ => (plR ν).1)) 29 (fun _ => (plR ν).2.1)) 30 (fun _ => (plR ν).2.2))) M w in7 0 21 tyX7 tyX7_ok nmX7 rfl rfl (by decide) (by decide +kernel) rfl rfl (q_nz2 (by omega)) (q_fz (by omega)) (Nat.le_of_ble_eq_true rfl) rfl dX7_passes_150 (fun H locs w => ?_)
              have r24 : rd24 ν = 0 := if_pos (by omega)
              have r23 : rd23 ν = (ν 23 0) + 1 := if_pos (by omega)
              have r22 : rd22 ν = (ν 22 0) + 1 := if_pos ⟨by omega, by omega⟩
              have r21 : rd21 ν = 0 := by
                unfold rd21
                rw [if_pos (show ν 24 0 + 1 = 192 by omega), r22]
                exact if_neg (by omega)
              have w : wW D A zs.heap (WMod cI cZ b (mset (mset (mset (mset (mset (mset (mset (mset (mset (mset ν 21 (fun _ => rd21 ν)) 22 (fun _ => rd22 ν)) 23 (fun _ => rd23 ν)) 24 (fun _ => rd24 ν)) 25 ((ldR ν).1)) 26 (fun _ => (ldR ν).2.2.1)) 27 (fun _ => wkR ν)) 28 (fun _ => (plR ν).1)) 29 (fun _ => (plR ν).2.1)) 30 (fun _ => (plR ν).2.2))) H locs := by rw [r24, r23, r22, r21]; exact w
              exact kret _ _ _ _ dX7_passes_153 w
            · refine q_ic M dX7_passes_145 ?_
              refine q_go (tgt := 150) M dX7_passes_146 (by decide) ?_
              refine q_put (ws2 := WMod cI cZ b (mset (mset (mset (mset (mset (mset (mset (mset (mset (mset ν 21 (fun _ => 1)) 22 (fun _ => (ν 22 0) + 1)) 23 (fun _ => (ν 23 0) + 1)) 24 (fun _ => 0)) 25 ((ldR ν).1)) 26 (fun _ => (ldR ν).2.2.1)) 27 (fun _ => wkR ν)) 28 (fun _ => (plR ν).1)) 29 (fun _ => (plR ν).2.1)) 30 (fun _ => (plR ν).2.2))) M w in7 0 21 tyX7 tyX7_ok nmX7 rfl rfl (by decide) (by decide +kernel) rfl rfl (q_nz2 (by omega)) (q_fz (by omega)) (Nat.le_of_ble_eq_true rfl) rfl dX7_passes_150 (fun H locs w => ?_)
              have r24 : rd24 ν = 0 := if_pos (by omega)
              have r23 : rd23 ν = (ν 23 0) + 1 := if_pos (by omega)
              have r22 : rd22 ν = (ν 22 0) + 1 := if_pos ⟨by omega, by omega⟩
              have r21 : rd21 ν = 1 := by
                unfold rd21
                rw [if_pos (show ν 24 0 + 1 = 192 by omega), r22]
                exact if_pos (by omega)
              have w : wW D A zs.heap (WMod cI cZ b (mset (mset (mset (mset (mset (mset (mset (mset (mset (mset ν 21 (fun _ => rd21 ν)) 22 (fun _ => rd22 ν)) 23 (fun _ => rd23 ν)) 24 (fun _ => rd24 ν)) 25 ((ldR ν).1)) 26 (fun _ => (ldR ν).2.2.1)) 27 (fun _ => wkR ν)) 28 (fun _ => (plR ν).1)) 29 (fun _ => (plR ν).2.1)) 30 (fun _ => (plR ν).2.2))) H locs := by rw [r24, r23, r22, r21]; exact w
              exact kret _ _ _ _ dX7_passes_153 w
      · refine q_aln M dX7_passes_43 (lv_at hl 0 rfl) ?_
        refine q_get (v := .ref (b 25)) M w in7 0 25 rfl rfl (by decide) (by decide +kernel) rfl rfl dX7_passes_44 ?_
        refine q_aln M dX7_passes_47 (lv_at hl 0 rfl) ?_
        refine q_get (v := .int (iI (ν 26 0))) M w in7 0 26 rfl rfl (by decide) (by decide +kernel) rfl rfl dX7_passes_48 ?_
        refine q_dup2 M dX7_passes_51 rfl rfl ?_
        refine q_iald (f := ν 25) M w 20 0 rfl rfl (by omega) dX7_passes_52 ?_
        refine q_ic M dX7_passes_53 ?_
        refine q_add M dX7_passes_54 ?_
        refine q_iast (f := ν 25) (ws2 := WMod cI cZ b (mset (mset (mset (mset (mset ν 25 (iU (ν 25) (ν 26 0) (((ν 25) (ν 26 0)) + 1))) 27 (fun _ => (ν 27 0) + 1)) 28 (fun _ => (plR ν).1)) 29 (fun _ => (plR ν).2.1)) 30 (fun _ => (plR ν).2.2))) M w 20 0 rfl rfl (by omega) rfl dX7_passes_55 (fun H locs w => ?_)
        refine q_aln M dX7_passes_56 (lv_at hl 0 rfl) ?_
        refine q_ic M dX7_passes_57 ?_
        refine q_put (ws2 := WMod cI cZ b (mset (mset (mset (mset (mset (mset ν 25 (iU (ν 25) (ν 26 0) (((ν 25) (ν 26 0)) + 1))) 26 (fun _ => (-1))) 27 (fun _ => (ν 27 0) + 1)) 28 (fun _ => (plR ν).1)) 29 (fun _ => (plR ν).2.1)) 30 (fun _ => (plR ν).2.2))) M w in7 0 26 tyX7 tyX7_ok nmX7 rfl rfl (by decide) (by decide +kernel) rfl rfl rfl rfl (Nat.le_of_ble_eq_true rfl) rfl dX7_passes_58 (fun H locs w => ?_)
        refine q_aln M dX7_passes_61 (lv_at hl 0 rfl) ?_
        refine q_ic M dX7_passes_62 ?_
        refine q_put (ws2 := WMod cI cZ b (mset (mset (mset (mset (mset (mset ν 25 (iU (ν 25) (ν 26 0) (((ν 25) (ν 26 0)) + 1))) 26 (fun _ => (-1))) 27 (fun _ => 0)) 28 (fun _ => (plR ν).1)) 29 (fun _ => (plR ν).2.1)) 30 (fun _ => (plR ν).2.2))) M w in7 0 27 tyX7 tyX7_ok nmX7 rfl rfl (by decide) (by decide +kernel) rfl rfl rfl rfl (Nat.le_of_ble_eq_true rfl) rfl dX7_passes_63 (fun H locs w => ?_)
        have e : ldR ν = (iU (ν 25) (ν 26 0) ((ν 25) (ν 26 0) + 1), (sI (ν 25) 8) + 1, -1, (ν 27 0) + 1) := (if_neg (show ¬ ν 26 0 = -1 by omega)).trans ((if_neg (show ¬ (ν 27 0) + 1 < 8 by omega)))
        have ew : wkR ν = 0 := by unfold wkR; rw [e]; exact if_pos rfl
        have w : wW D A zs.heap (WMod cI cZ b (mset (mset (mset (mset (mset (mset ν 25 ((ldR ν).1)) 26 (fun _ => (ldR ν).2.2.1)) 27 (fun _ => wkR ν)) 28 (fun _ => (plR ν).1)) 29 (fun _ => (plR ν).2.1)) 30 (fun _ => (plR ν).2.2))) H locs := by rw [e, ew]; exact w
        refine q_aln M dX7_passes_66 (lv_at hl 0 rfl) ?_
        refine q_dup M dX7_passes_67 rfl ?_
        refine q_get (v := .int (iI (ν 24 0))) M w in7 0 24 rfl rfl (by decide) (by decide +kernel) rfl rfl dX7_passes_68 ?_
        refine q_ic M dX7_passes_71 ?_
        refine q_add M dX7_passes_72 ?_
        refine q_put (ws2 := WMod cI cZ b (mset (mset (mset (mset (mset (mset (mset ν 24 (fun _ => (ν 24 0) + 1)) 25 ((ldR ν).1)) 26 (fun _ => (ldR ν).2.2.1)) 27 (fun _ => wkR ν)) 28 (fun _ => (plR ν).1)) 29 (fun _ => (plR ν).2.1)) 30 (fun _ => (plR ν).2.2))) M w in7 0 24 tyX7 tyX7_ok nmX7 rfl rfl (by decide) (by decide +kernel) rfl rfl rfl rfl (Nat.le_of_ble_eq_true rfl) rfl dX7_passes_73 (fun H locs w => ?_)
        refine q_aln M dX7_passes_76 (lv_at hl 0 rfl) ?_
        refine q_get (v := .int (iI ((ν 24 0) + 1))) M w in7 0 24 rfl rfl (by decide) (by decide +kernel) rfl rfl dX7_passes_77 ?_
        refine q_sp M dX7_passes_80 (by decide +kernel) ?_
        refine q_icmp_ne (tgt := 153) M dX7_passes_83 (by decide) (by omega) (fun c83 => ?_) (fun c83 => ?_)
        · have r24 : rd24 ν = (ν 24 0) + 1 := if_neg (by omega)
          have r23 : rd23 ν = ν 23 0 := if_neg (by omega)
          have r22 : rd22 ν = ν 22 0 := if_neg (fun q => by have := q.1; omega)
          have r21 : rd21 ν = ν 21 0 := if_neg (by omega)
          have w : wW D A zs.heap (WMod cI cZ b (mset (mset (mset (mset (mset (mset (mset (mset (mset (mset ν 21 (fun _ => rd21 ν)) 22 (fun _ => rd22 ν)) 23 (fun _ => rd23 ν)) 24 (fun _ => rd24 ν)) 25 ((ldR ν).1)) 26 (fun _ => (ldR ν).2.2.1)) 27 (fun _ => wkR ν)) 28 (fun _ => (plR ν).1)) 29 (fun _ => (plR ν).2.1)) 30 (fun _ => (plR ν).2.2))) H locs := by rw [r24, r23, r22, r21]; exact w
          exact kret _ _ _ _ dX7_passes_153 w
        · refine q_aln M dX7_passes_86 (lv_at hl 0 rfl) ?_
          refine q_ic M dX7_passes_87 ?_
          refine q_put (ws2 := WMod cI cZ b (mset (mset (mset (mset (mset (mset (mset ν 24 (fun _ => 0)) 25 ((ldR ν).1)) 26 (fun _ => (ldR ν).2.2.1)) 27 (fun _ => wkR ν)) 28 (fun _ => (plR ν).1)) 29 (fun _ => (plR ν).2.1)) 30 (fun _ => (plR ν).2.2))) M w in7 0 24 tyX7 tyX7_ok nmX7 rfl rfl (by decide) (by decide +kernel) rfl rfl rfl rfl (Nat.le_of_ble_eq_true rfl) rfl dX7_passes_88 (fun H locs w => ?_)
          refine q_aln M dX7_passes_91 (lv_at hl 0 rfl) ?_
          refine q_dup M dX7_passes_92 rfl ?_
          refine q_get (v := .int (iI (ν 23 0))) M w in7 0 23 rfl rfl (by decide) (by decide +kernel) rfl rfl dX7_passes_93 ?_
          refine q_ic M dX7_passes_96 ?_
          refine q_add M dX7_passes_97 ?_
          refine q_put (ws2 := WMod cI cZ b (mset (mset (mset (mset (mset (mset (mset (mset ν 23 (fun _ => (ν 23 0) + 1)) 24 (fun _ => 0)) 25 ((ldR ν).1)) 26 (fun _ => (ldR ν).2.2.1)) 27 (fun _ => wkR ν)) 28 (fun _ => (plR ν).1)) 29 (fun _ => (plR ν).2.1)) 30 (fun _ => (plR ν).2.2))) M w in7 0 23 tyX7 tyX7_ok nmX7 rfl rfl (by decide) (by decide +kernel) rfl rfl rfl rfl (Nat.le_of_ble_eq_true rfl) rfl dX7_passes_98 (fun H locs w => ?_)
          refine q_aln M dX7_passes_101 (lv_at hl 0 rfl) ?_
          refine q_dup M dX7_passes_102 rfl ?_
          refine q_get (v := .int (iI (ν 22 0))) M w in7 0 22 rfl rfl (by decide) (by decide +kernel) rfl rfl dX7_passes_103 ?_
          refine q_aln M dX7_passes_106 (lv_at hl 0 rfl) ?_
          refine q_get (v := .int (iI ((ν 23 0) + 1))) M w in7 0 23 rfl rfl (by decide) (by decide +kernel) rfl rfl dX7_passes_107 ?_
          refine q_aln M dX7_passes_110 (lv_at hl 0 rfl) ?_
          refine q_get (v := .ref (b 18)) M w in7 0 18 rfl rfl (by decide) (by decide +kernel) rfl rfl dX7_passes_111 ?_
          refine q_aln M dX7_passes_114 (lv_at hl 0 rfl) ?_
          refine q_get (v := .int (iI (ν 22 0))) M w in7 0 22 rfl rfl (by decide) (by decide +kernel) rfl rfl dX7_passes_115 ?_
          refine q_ic M dX7_passes_118 ?_
          refine q_add M dX7_passes_119 ?_
          refine q_iald (f := ν 18) M w 17 0 rfl rfl (by omega) dX7_passes_120 ?_
          refine q_icmp_ne (tgt := 128) M dX7_passes_121 (by decide) (by omega) (fun c121 => ?_) (fun c121 => ?_)
          · refine q_ic M dX7_passes_128 ?_
            refine q_add M dX7_passes_129 ?_
            refine q_put (ws2 := WMod cI cZ b (mset (mset (mset (mset (mset (mset (mset (mset (mset ν 22 (fun _ => (ν 22 0) + 0)) 23 (fun _ => (ν 23 0) + 1)) 24 (fun _ => 0)) 25 ((ldR ν).1)) 26 (fun _ => (ldR ν).2.2.1)) 27 (fun _ => wkR ν)) 28 (fun _ => (plR ν).1)) 29 (fun _ => (plR ν).2.1)) 30 (fun _ => (plR ν).2.2))) M w in7 0 22 tyX7 tyX7_ok nmX7 rfl rfl (by decide) (by decide +kernel) rfl rfl rfl rfl (Nat.le_of_ble_eq_true rfl) rfl dX7_passes_130 (fun H locs w => ?_)
            refine q_aln M dX7_passes_133 (lv_at hl 0 rfl) ?_
            refine q_aln M dX7_passes_134 (lv_at hl 0 rfl) ?_
            refine q_get (v := .int (iI ((ν 22 0) + 0))) M w in7 0 22 rfl rfl (by decide) (by decide +kernel) rfl rfl dX7_passes_135 ?_
            refine q_aln M dX7_passes_138 (lv_at hl 0 rfl) ?_
            refine q_get (v := .int (iI (ν 14 0))) M w in7 0 14 rfl rfl (by decide) (by decide +kernel) rfl rfl dX7_passes_139 ?_
            refine q_icmp_ge (tgt := 149) M dX7_passes_142 (by decide) (by omega) (fun c142 => ?_) (fun c142 => ?_)
            · refine q_ic M dX7_passes_149 ?_
              refine q_put (ws2 := WMod cI cZ b (mset (mset (mset (mset (mset (mset (mset (mset (mset (mset ν 21 (fun _ => 0)) 22 (fun _ => (ν 22 0) + 0)) 23 (fun _ => (ν 23 0) + 1)) 24 (fun _ => 0)) 25 ((ldR ν).1)) 26 (fun _ => (ldR ν).2.2.1)) 27 (fun _ => wkR ν)) 28 (fun _ => (plR ν).1)) 29 (fun _ => (plR ν).2.1)) 30 (fun _ => (plR ν).2.2))) M w in7 0 21 tyX7 tyX7_ok nmX7 rfl rfl (by decide) (by decide +kernel) rfl rfl (q_nz2 (by omega)) (q_fz (by omega)) (Nat.le_of_ble_eq_true rfl) rfl dX7_passes_150 (fun H locs w => ?_)
              have r24 : rd24 ν = 0 := if_pos (by omega)
              have r23 : rd23 ν = (ν 23 0) + 1 := if_pos (by omega)
              have r22 : rd22 ν = (ν 22 0) + 0 := (if_neg (fun q => by have := q.2; omega)).trans (by omega)
              have r21 : rd21 ν = 0 := by
                unfold rd21
                rw [if_pos (show ν 24 0 + 1 = 192 by omega), r22]
                exact if_neg (by omega)
              have w : wW D A zs.heap (WMod cI cZ b (mset (mset (mset (mset (mset (mset (mset (mset (mset (mset ν 21 (fun _ => rd21 ν)) 22 (fun _ => rd22 ν)) 23 (fun _ => rd23 ν)) 24 (fun _ => rd24 ν)) 25 ((ldR ν).1)) 26 (fun _ => (ldR ν).2.2.1)) 27 (fun _ => wkR ν)) 28 (fun _ => (plR ν).1)) 29 (fun _ => (plR ν).2.1)) 30 (fun _ => (plR ν).2.2))) H locs := by rw [r24, r23, r22, r21]; exact w
              exact kret _ _ _ _ dX7_passes_153 w
            · refine q_ic M dX7_passes_145 ?_
              refine q_go (tgt := 150) M dX7_passes_146 (by decide) ?_
              refine q_put (ws2 := WMod cI cZ b (mset (mset (mset (mset (mset (mset (mset (mset (mset (mset ν 21 (fun _ => 1)) 22 (fun _ => (ν 22 0) + 0)) 23 (fun _ => (ν 23 0) + 1)) 24 (fun _ => 0)) 25 ((ldR ν).1)) 26 (fun _ => (ldR ν).2.2.1)) 27 (fun _ => wkR ν)) 28 (fun _ => (plR ν).1)) 29 (fun _ => (plR ν).2.1)) 30 (fun _ => (plR ν).2.2))) M w in7 0 21 tyX7 tyX7_ok nmX7 rfl rfl (by decide) (by decide +kernel) rfl rfl (q_nz2 (by omega)) (q_fz (by omega)) (Nat.le_of_ble_eq_true rfl) rfl dX7_passes_150 (fun H locs w => ?_)
              have r24 : rd24 ν = 0 := if_pos (by omega)
              have r23 : rd23 ν = (ν 23 0) + 1 := if_pos (by omega)
              have r22 : rd22 ν = (ν 22 0) + 0 := (if_neg (fun q => by have := q.2; omega)).trans (by omega)
              have r21 : rd21 ν = 1 := by
                unfold rd21
                rw [if_pos (show ν 24 0 + 1 = 192 by omega), r22]
                exact if_pos (by omega)
              have w : wW D A zs.heap (WMod cI cZ b (mset (mset (mset (mset (mset (mset (mset (mset (mset (mset ν 21 (fun _ => rd21 ν)) 22 (fun _ => rd22 ν)) 23 (fun _ => rd23 ν)) 24 (fun _ => rd24 ν)) 25 ((ldR ν).1)) 26 (fun _ => (ldR ν).2.2.1)) 27 (fun _ => wkR ν)) 28 (fun _ => (plR ν).1)) 29 (fun _ => (plR ν).2.1)) 30 (fun _ => (plR ν).2.2))) H locs := by rw [r24, r23, r22, r21]; exact w
              exact kret _ _ _ _ dX7_passes_153 w
          · refine q_ic M dX7_passes_124 ?_
            refine q_go (tgt := 129) M dX7_passes_125 (by decide) ?_
            refine q_add M dX7_passes_129 ?_
            refine q_put (ws2 := WMod cI cZ b (mset (mset (mset (mset (mset (mset (mset (mset (mset ν 22 (fun _ => (ν 22 0) + 1)) 23 (fun _ => (ν 23 0) + 1)) 24 (fun _ => 0)) 25 ((ldR ν).1)) 26 (fun _ => (ldR ν).2.2.1)) 27 (fun _ => wkR ν)) 28 (fun _ => (plR ν).1)) 29 (fun _ => (plR ν).2.1)) 30 (fun _ => (plR ν).2.2))) M w in7 0 22 tyX7 tyX7_ok nmX7 rfl rfl (by decide) (by decide +kernel) rfl rfl rfl rfl (Nat.le_of_ble_eq_true rfl) rfl dX7_passes_130 (fun H locs w => ?_)
            refine q_aln M dX7_passes_133 (lv_at hl 0 rfl) ?_
            refine q_aln M dX7_passes_134 (lv_at hl 0 rfl) ?_
            refine q_get (v := .int (iI ((ν 22 0) + 1))) M w in7 0 22 rfl rfl (by decide) (by decide +kernel) rfl rfl dX7_passes_135 ?_
            refine q_aln M dX7_passes_138 (lv_at hl 0 rfl) ?_
            refine q_get (v := .int (iI (ν 14 0))) M w in7 0 14 rfl rfl (by decide) (by decide +kernel) rfl rfl dX7_passes_139 ?_
            refine q_icmp_ge (tgt := 149) M dX7_passes_142 (by decide) (by omega) (fun c142 => ?_) (fun c142 => ?_)
            · refine q_ic M dX7_passes_149 ?_
              refine q_put (ws2 := WMod cI cZ b (mset (mset (mset (mset (mset (mset (mset (mset (mset (mset ν 21 (fun _ => 0)) 22 (fun _ => (ν 22 0) + 1)) 23 (fun _ => (ν 23 0) + 1)) 24 (fun _ => 0)) 25 ((ldR ν).1)) 26 (fun _ => (ldR ν).2.2.1)) 27 (fun _ => wkR ν)) 28 (fun _ => (plR ν).1)) 29 (fun _ => (plR ν).2.1)) 30 (fun _ => (plR ν).2.2))) M w in7 0 21 tyX7 tyX7_ok nmX7 rfl rfl (by decide) (by decide +kernel) rfl rfl (q_nz2 (by omega)) (q_fz (by omega)) (Nat.le_of_ble_eq_true rfl) rfl dX7_passes_150 (fun H locs w => ?_)
              have r24 : rd24 ν = 0 := if_pos (by omega)
              have r23 : rd23 ν = (ν 23 0) + 1 := if_pos (by omega)
              have r22 : rd22 ν = (ν 22 0) + 1 := if_pos ⟨by omega, by omega⟩
              have r21 : rd21 ν = 0 := by
                unfold rd21
                rw [if_pos (show ν 24 0 + 1 = 192 by omega), r22]
                exact if_neg (by omega)
              have w : wW D A zs.heap (WMod cI cZ b (mset (mset (mset (mset (mset (mset (mset (mset (mset (mset ν 21 (fun _ => rd21 ν)) 22 (fun _ => rd22 ν)) 23 (fun _ => rd23 ν)) 24 (fun _ => rd24 ν)) 25 ((ldR ν).1)) 26 (fun _ => (ldR ν).2.2.1)) 27 (fun _ => wkR ν)) 28 (fun _ => (plR ν).1)) 29 (fun _ => (plR ν).2.1)) 30 (fun _ => (plR ν).2.2))) H locs := by rw [r24, r23, r22, r21]; exact w
              exact kret _ _ _ _ dX7_passes_153 w
            · refine q_ic M dX7_passes_145 ?_
              refine q_go (tgt := 150) M dX7_passes_146 (by decide) ?_
              refine q_put (ws2 := WMod cI cZ b (mset (mset (mset (mset (mset (mset (mset (mset (mset (mset ν 21 (fun _ => 1)) 22 (fun _ => (ν 22 0) + 1)) 23 (fun _ => (ν 23 0) + 1)) 24 (fun _ => 0)) 25 ((ldR ν).1)) 26 (fun _ => (ldR ν).2.2.1)) 27 (fun _ => wkR ν)) 28 (fun _ => (plR ν).1)) 29 (fun _ => (plR ν).2.1)) 30 (fun _ => (plR ν).2.2))) M w in7 0 21 tyX7 tyX7_ok nmX7 rfl rfl (by decide) (by decide +kernel) rfl rfl (q_nz2 (by omega)) (q_fz (by omega)) (Nat.le_of_ble_eq_true rfl) rfl dX7_passes_150 (fun H locs w => ?_)
              have r24 : rd24 ν = 0 := if_pos (by omega)
              have r23 : rd23 ν = (ν 23 0) + 1 := if_pos (by omega)
              have r22 : rd22 ν = (ν 22 0) + 1 := if_pos ⟨by omega, by omega⟩
              have r21 : rd21 ν = 1 := by
                unfold rd21
                rw [if_pos (show ν 24 0 + 1 = 192 by omega), r22]
                exact if_pos (by omega)
              have w : wW D A zs.heap (WMod cI cZ b (mset (mset (mset (mset (mset (mset (mset (mset (mset (mset ν 21 (fun _ => rd21 ν)) 22 (fun _ => rd22 ν)) 23 (fun _ => rd23 ν)) 24 (fun _ => rd24 ν)) 25 ((ldR ν).1)) 26 (fun _ => (ldR ν).2.2.1)) 27 (fun _ => wkR ν)) 28 (fun _ => (plR ν).1)) 29 (fun _ => (plR ν).2.1)) 30 (fun _ => (plR ν).2.2))) H locs := by rw [r24, r23, r22, r21]; exact w
              exact kret _ _ _ _ dX7_passes_153 w
  · refine q_aln M dX7_passes_12 (lv_at hl 0 rfl) ?_
    have hh : ν 26 0 = -1 := by omega
    refine qc_vV (As := []) (rest := []) (wc := WMod cI cZ b (mset (mset (mset ν 28 (fun _ => (plR ν).1)) 29 (fun _ => (plR ν).2.1)) 30 (fun _ => (plR ν).2.2))) (wc2 := WMod cI cZ b (mset (mset (mset (mset (mset (mset ν 28 (fun _ => (plR ν).1)) 29 (fun _ => (plR ν).2.1)) 30 (fun _ => (plR ν).2.2)) 25 ((tkR (mset (mset (mset ν 28 (fun _ => (plR ν).1)) 29 (fun _ => (plR ν).2.1)) 30 (fun _ => (plR ν).2.2))).1)) 26 (fun _ => (tkR (mset (mset (mset ν 28 (fun _ => (plR ν).1)) 29 (fun _ => (plR ν).2.1)) 30 (fun _ => (plR ν).2.2))).2.2.1)) 27 (fun _ => (tkR (mset (mset (mset ν 28 (fun _ => (plR ν).1)) 29 (fun _ => (plR ν).2.1)) 30 (fun _ => (plR ν).2.2))).2.2.2))) (ws2 := WMod cI cZ b (mset (mset (mset (mset (mset (mset ν 25 ((tkR (mset (mset (mset ν 28 (fun _ => (plR ν).1)) 29 (fun _ => (plR ν).2.1)) 30 (fun _ => (plR ν).2.2))).1)) 26 (fun _ => (tkR (mset (mset (mset ν 28 (fun _ => (plR ν).1)) 29 (fun _ => (plR ν).2.1)) 30 (fun _ => (plR ν).2.2))).2.2.1)) 27 (fun _ => (tkR (mset (mset (mset ν 28 (fun _ => (plR ν).1)) 29 (fun _ => (plR ν).2.1)) 30 (fun _ => (plR ν).2.2))).2.2.2)) 28 (fun _ => (plR ν).1)) 29 (fun _ => (plR ν).2.1)) 30 (fun _ => (plR ν).2.2))) M w hA hl (m_takes l D cI cZ cJ b (mset (mset (mset ν 28 (fun _ => (plR ν).1)) 29 (fun _ => (plR ν).2.1)) 30 (fun _ => (plR ν).2.2)) hM hh) gX7_passes_X7_takes rfl ⟨rfl, rfl, by decide, by decide⟩ ⟨Nat.zero_le _, Nat.zero_le _⟩ 0 ⟨rfl, by decide +kernel⟩ rfl [true, true, true, true, true, true, true, true, true, true, true, true, true, true, true, true, true, true, true, true, true] rfl rfl 0 rfl rfl rfl (Nat.le_of_ble_eq_true rfl) rfl dX7_passes_13 (fun H locs w => ?_)
    rw [tkR_u] at w
    refine q_aln M dX7_passes_16 (lv_at hl 0 rfl) ?_
    refine q_get (v := .int (iI ((tkR ν).2.2.1))) M w in7 0 26 rfl rfl (by decide) (by decide +kernel) rfl rfl dX7_passes_17 ?_
    refine q_ic M dX7_passes_20 ?_
    refine q_icmp_eq (tgt := 66) M dX7_passes_21 (by decide) (by omega) (fun c21 => ?_) (fun c21 => ?_)
    · have e : ldR ν = tkR ν := (if_pos (show ν 26 0 = -1 by omega)).trans (if_pos (show (tkR ν).2.2.1 = -1 by omega))
      have ew : wkR ν = (tkR ν).2.2.2 := by unfold wkR; rw [e]; exact (if_pos (show (tkR ν).2.2.1 = -1 by omega)).trans (by have := hw0 hh; rcases htk with q | q; (rw [q]; exact this.symm); omega)
      have w : wW D A zs.heap (WMod cI cZ b (mset (mset (mset (mset (mset (mset ν 25 ((ldR ν).1)) 26 (fun _ => (ldR ν).2.2.1)) 27 (fun _ => wkR ν)) 28 (fun _ => (plR ν).1)) 29 (fun _ => (plR ν).2.1)) 30 (fun _ => (plR ν).2.2))) H locs := by rw [e, ew]; exact w
      refine q_aln M dX7_passes_66 (lv_at hl 0 rfl) ?_
      refine q_dup M dX7_passes_67 rfl ?_
      refine q_get (v := .int (iI (ν 24 0))) M w in7 0 24 rfl rfl (by decide) (by decide +kernel) rfl rfl dX7_passes_68 ?_
      refine q_ic M dX7_passes_71 ?_
      refine q_add M dX7_passes_72 ?_
      refine q_put (ws2 := WMod cI cZ b (mset (mset (mset (mset (mset (mset (mset ν 24 (fun _ => (ν 24 0) + 1)) 25 ((ldR ν).1)) 26 (fun _ => (ldR ν).2.2.1)) 27 (fun _ => wkR ν)) 28 (fun _ => (plR ν).1)) 29 (fun _ => (plR ν).2.1)) 30 (fun _ => (plR ν).2.2))) M w in7 0 24 tyX7 tyX7_ok nmX7 rfl rfl (by decide) (by decide +kernel) rfl rfl rfl rfl (Nat.le_of_ble_eq_true rfl) rfl dX7_passes_73 (fun H locs w => ?_)
      refine q_aln M dX7_passes_76 (lv_at hl 0 rfl) ?_
      refine q_get (v := .int (iI ((ν 24 0) + 1))) M w in7 0 24 rfl rfl (by decide) (by decide +kernel) rfl rfl dX7_passes_77 ?_
      refine q_sp M dX7_passes_80 (by decide +kernel) ?_
      refine q_icmp_ne (tgt := 153) M dX7_passes_83 (by decide) (by omega) (fun c83 => ?_) (fun c83 => ?_)
      · have r24 : rd24 ν = (ν 24 0) + 1 := if_neg (by omega)
        have r23 : rd23 ν = ν 23 0 := if_neg (by omega)
        have r22 : rd22 ν = ν 22 0 := if_neg (fun q => by have := q.1; omega)
        have r21 : rd21 ν = ν 21 0 := if_neg (by omega)
        have w : wW D A zs.heap (WMod cI cZ b (mset (mset (mset (mset (mset (mset (mset (mset (mset (mset ν 21 (fun _ => rd21 ν)) 22 (fun _ => rd22 ν)) 23 (fun _ => rd23 ν)) 24 (fun _ => rd24 ν)) 25 ((ldR ν).1)) 26 (fun _ => (ldR ν).2.2.1)) 27 (fun _ => wkR ν)) 28 (fun _ => (plR ν).1)) 29 (fun _ => (plR ν).2.1)) 30 (fun _ => (plR ν).2.2))) H locs := by rw [r24, r23, r22, r21]; exact w
        exact kret _ _ _ _ dX7_passes_153 w
      · refine q_aln M dX7_passes_86 (lv_at hl 0 rfl) ?_
        refine q_ic M dX7_passes_87 ?_
        refine q_put (ws2 := WMod cI cZ b (mset (mset (mset (mset (mset (mset (mset ν 24 (fun _ => 0)) 25 ((ldR ν).1)) 26 (fun _ => (ldR ν).2.2.1)) 27 (fun _ => wkR ν)) 28 (fun _ => (plR ν).1)) 29 (fun _ => (plR ν).2.1)) 30 (fun _ => (plR ν).2.2))) M w in7 0 24 tyX7 tyX7_ok nmX7 rfl rfl (by decide) (by decide +kernel) rfl rfl rfl rfl (Nat.le_of_ble_eq_true rfl) rfl dX7_passes_88 (fun H locs w => ?_)
        refine q_aln M dX7_passes_91 (lv_at hl 0 rfl) ?_
        refine q_dup M dX7_passes_92 rfl ?_
        refine q_get (v := .int (iI (ν 23 0))) M w in7 0 23 rfl rfl (by decide) (by decide +kernel) rfl rfl dX7_passes_93 ?_
        refine q_ic M dX7_passes_96 ?_
        refine q_add M dX7_passes_97 ?_
        refine q_put (ws2 := WMod cI cZ b (mset (mset (mset (mset (mset (mset (mset (mset ν 23 (fun _ => (ν 23 0) + 1)) 24 (fun _ => 0)) 25 ((ldR ν).1)) 26 (fun _ => (ldR ν).2.2.1)) 27 (fun _ => wkR ν)) 28 (fun _ => (plR ν).1)) 29 (fun _ => (plR ν).2.1)) 30 (fun _ => (plR ν).2.2))) M w in7 0 23 tyX7 tyX7_ok nmX7 rfl rfl (by decide) (by decide +kernel) rfl rfl rfl rfl (Nat.le_of_ble_eq_true rfl) rfl dX7_passes_98 (fun H locs w => ?_)
        refine q_aln M dX7_passes_101 (lv_at hl 0 rfl) ?_
        refine q_dup M dX7_passes_102 rfl ?_
        refine q_get (v := .int (iI (ν 22 0))) M w in7 0 22 rfl rfl (by decide) (by decide +kernel) rfl rfl dX7_passes_103 ?_
        refine q_aln M dX7_passes_106 (lv_at hl 0 rfl) ?_
        refine q_get (v := .int (iI ((ν 23 0) + 1))) M w in7 0 23 rfl rfl (by decide) (by decide +kernel) rfl rfl dX7_passes_107 ?_
        refine q_aln M dX7_passes_110 (lv_at hl 0 rfl) ?_
        refine q_get (v := .ref (b 18)) M w in7 0 18 rfl rfl (by decide) (by decide +kernel) rfl rfl dX7_passes_111 ?_
        refine q_aln M dX7_passes_114 (lv_at hl 0 rfl) ?_
        refine q_get (v := .int (iI (ν 22 0))) M w in7 0 22 rfl rfl (by decide) (by decide +kernel) rfl rfl dX7_passes_115 ?_
        refine q_ic M dX7_passes_118 ?_
        refine q_add M dX7_passes_119 ?_
        refine q_iald (f := ν 18) M w 17 0 rfl rfl (by omega) dX7_passes_120 ?_
        refine q_icmp_ne (tgt := 128) M dX7_passes_121 (by decide) (by omega) (fun c121 => ?_) (fun c121 => ?_)
        · refine q_ic M dX7_passes_128 ?_
          refine q_add M dX7_passes_129 ?_
          refine q_put (ws2 := WMod cI cZ b (mset (mset (mset (mset (mset (mset (mset (mset (mset ν 22 (fun _ => (ν 22 0) + 0)) 23 (fun _ => (ν 23 0) + 1)) 24 (fun _ => 0)) 25 ((ldR ν).1)) 26 (fun _ => (ldR ν).2.2.1)) 27 (fun _ => wkR ν)) 28 (fun _ => (plR ν).1)) 29 (fun _ => (plR ν).2.1)) 30 (fun _ => (plR ν).2.2))) M w in7 0 22 tyX7 tyX7_ok nmX7 rfl rfl (by decide) (by decide +kernel) rfl rfl rfl rfl (Nat.le_of_ble_eq_true rfl) rfl dX7_passes_130 (fun H locs w => ?_)
          refine q_aln M dX7_passes_133 (lv_at hl 0 rfl) ?_
          refine q_aln M dX7_passes_134 (lv_at hl 0 rfl) ?_
          refine q_get (v := .int (iI ((ν 22 0) + 0))) M w in7 0 22 rfl rfl (by decide) (by decide +kernel) rfl rfl dX7_passes_135 ?_
          refine q_aln M dX7_passes_138 (lv_at hl 0 rfl) ?_
          refine q_get (v := .int (iI (ν 14 0))) M w in7 0 14 rfl rfl (by decide) (by decide +kernel) rfl rfl dX7_passes_139 ?_
          refine q_icmp_ge (tgt := 149) M dX7_passes_142 (by decide) (by omega) (fun c142 => ?_) (fun c142 => ?_)
          · refine q_ic M dX7_passes_149 ?_
            refine q_put (ws2 := WMod cI cZ b (mset (mset (mset (mset (mset (mset (mset (mset (mset (mset ν 21 (fun _ => 0)) 22 (fun _ => (ν 22 0) + 0)) 23 (fun _ => (ν 23 0) + 1)) 24 (fun _ => 0)) 25 ((ldR ν).1)) 26 (fun _ => (ldR ν).2.2.1)) 27 (fun _ => wkR ν)) 28 (fun _ => (plR ν).1)) 29 (fun _ => (plR ν).2.1)) 30 (fun _ => (plR ν).2.2))) M w in7 0 21 tyX7 tyX7_ok nmX7 rfl rfl (by decide) (by decide +kernel) rfl rfl (q_nz2 (by omega)) (q_fz (by omega)) (Nat.le_of_ble_eq_true rfl) rfl dX7_passes_150 (fun H locs w => ?_)
            have r24 : rd24 ν = 0 := if_pos (by omega)
            have r23 : rd23 ν = (ν 23 0) + 1 := if_pos (by omega)
            have r22 : rd22 ν = (ν 22 0) + 0 := (if_neg (fun q => by have := q.2; omega)).trans (by omega)
            have r21 : rd21 ν = 0 := by
              unfold rd21
              rw [if_pos (show ν 24 0 + 1 = 192 by omega), r22]
              exact if_neg (by omega)
            have w : wW D A zs.heap (WMod cI cZ b (mset (mset (mset (mset (mset (mset (mset (mset (mset (mset ν 21 (fun _ => rd21 ν)) 22 (fun _ => rd22 ν)) 23 (fun _ => rd23 ν)) 24 (fun _ => rd24 ν)) 25 ((ldR ν).1)) 26 (fun _ => (ldR ν).2.2.1)) 27 (fun _ => wkR ν)) 28 (fun _ => (plR ν).1)) 29 (fun _ => (plR ν).2.1)) 30 (fun _ => (plR ν).2.2))) H locs := by rw [r24, r23, r22, r21]; exact w
            exact kret _ _ _ _ dX7_passes_153 w
          · refine q_ic M dX7_passes_145 ?_
            refine q_go (tgt := 150) M dX7_passes_146 (by decide) ?_
            refine q_put (ws2 := WMod cI cZ b (mset (mset (mset (mset (mset (mset (mset (mset (mset (mset ν 21 (fun _ => 1)) 22 (fun _ => (ν 22 0) + 0)) 23 (fun _ => (ν 23 0) + 1)) 24 (fun _ => 0)) 25 ((ldR ν).1)) 26 (fun _ => (ldR ν).2.2.1)) 27 (fun _ => wkR ν)) 28 (fun _ => (plR ν).1)) 29 (fun _ => (plR ν).2.1)) 30 (fun _ => (plR ν).2.2))) M w in7 0 21 tyX7 tyX7_ok nmX7 rfl rfl (by decide) (by decide +kernel) rfl rfl (q_nz2 (by omega)) (q_fz (by omega)) (Nat.le_of_ble_eq_true rfl) rfl dX7_passes_150 (fun H locs w => ?_)
            have r24 : rd24 ν = 0 := if_pos (by omega)
            have r23 : rd23 ν = (ν 23 0) + 1 := if_pos (by omega)
            have r22 : rd22 ν = (ν 22 0) + 0 := (if_neg (fun q => by have := q.2; omega)).trans (by omega)
            have r21 : rd21 ν = 1 := by
              unfold rd21
              rw [if_pos (show ν 24 0 + 1 = 192 by omega), r22]
              exact if_pos (by omega)
            have w : wW D A zs.heap (WMod cI cZ b (mset (mset (mset (mset (mset (mset (mset (mset (mset (mset ν 21 (fun _ => rd21 ν)) 22 (fun _ => rd22 ν)) 23 (fun _ => rd23 ν)) 24 (fun _ => rd24 ν)) 25 ((ldR ν).1)) 26 (fun _ => (ldR ν).2.2.1)) 27 (fun _ => wkR ν)) 28 (fun _ => (plR ν).1)) 29 (fun _ => (plR ν).2.1)) 30 (fun _ => (plR ν).2.2))) H locs := by rw [r24, r23, r22, r21]; exact w
            exact kret _ _ _ _ dX7_passes_153 w
        · refine q_ic M dX7_passes_124 ?_
          refine q_go (tgt := 129) M dX7_passes_125 (by decide) ?_
          refine q_add M dX7_passes_129 ?_
          refine q_put (ws2 := WMod cI cZ b (mset (mset (mset (mset (mset (mset (mset (mset (mset ν 22 (fun _ => (ν 22 0) + 1)) 23 (fun _ => (ν 23 0) + 1)) 24 (fun _ => 0)) 25 ((ldR ν).1)) 26 (fun _ => (ldR ν).2.2.1)) 27 (fun _ => wkR ν)) 28 (fun _ => (plR ν).1)) 29 (fun _ => (plR ν).2.1)) 30 (fun _ => (plR ν).2.2))) M w in7 0 22 tyX7 tyX7_ok nmX7 rfl rfl (by decide) (by decide +kernel) rfl rfl rfl rfl (Nat.le_of_ble_eq_true rfl) rfl dX7_passes_130 (fun H locs w => ?_)
          refine q_aln M dX7_passes_133 (lv_at hl 0 rfl) ?_
          refine q_aln M dX7_passes_134 (lv_at hl 0 rfl) ?_
          refine q_get (v := .int (iI ((ν 22 0) + 1))) M w in7 0 22 rfl rfl (by decide) (by decide +kernel) rfl rfl dX7_passes_135 ?_
          refine q_aln M dX7_passes_138 (lv_at hl 0 rfl) ?_
          refine q_get (v := .int (iI (ν 14 0))) M w in7 0 14 rfl rfl (by decide) (by decide +kernel) rfl rfl dX7_passes_139 ?_
          refine q_icmp_ge (tgt := 149) M dX7_passes_142 (by decide) (by omega) (fun c142 => ?_) (fun c142 => ?_)
          · refine q_ic M dX7_passes_149 ?_
            refine q_put (ws2 := WMod cI cZ b (mset (mset (mset (mset (mset (mset (mset (mset (mset (mset ν 21 (fun _ => 0)) 22 (fun _ => (ν 22 0) + 1)) 23 (fun _ => (ν 23 0) + 1)) 24 (fun _ => 0)) 25 ((ldR ν).1)) 26 (fun _ => (ldR ν).2.2.1)) 27 (fun _ => wkR ν)) 28 (fun _ => (plR ν).1)) 29 (fun _ => (plR ν).2.1)) 30 (fun _ => (plR ν).2.2))) M w in7 0 21 tyX7 tyX7_ok nmX7 rfl rfl (by decide) (by decide +kernel) rfl rfl (q_nz2 (by omega)) (q_fz (by omega)) (Nat.le_of_ble_eq_true rfl) rfl dX7_passes_150 (fun H locs w => ?_)
            have r24 : rd24 ν = 0 := if_pos (by omega)
            have r23 : rd23 ν = (ν 23 0) + 1 := if_pos (by omega)
            have r22 : rd22 ν = (ν 22 0) + 1 := if_pos ⟨by omega, by omega⟩
            have r21 : rd21 ν = 0 := by
              unfold rd21
              rw [if_pos (show ν 24 0 + 1 = 192 by omega), r22]
              exact if_neg (by omega)
            have w : wW D A zs.heap (WMod cI cZ b (mset (mset (mset (mset (mset (mset (mset (mset (mset (mset ν 21 (fun _ => rd21 ν)) 22 (fun _ => rd22 ν)) 23 (fun _ => rd23 ν)) 24 (fun _ => rd24 ν)) 25 ((ldR ν).1)) 26 (fun _ => (ldR ν).2.2.1)) 27 (fun _ => wkR ν)) 28 (fun _ => (plR ν).1)) 29 (fun _ => (plR ν).2.1)) 30 (fun _ => (plR ν).2.2))) H locs := by rw [r24, r23, r22, r21]; exact w
            exact kret _ _ _ _ dX7_passes_153 w
          · refine q_ic M dX7_passes_145 ?_
            refine q_go (tgt := 150) M dX7_passes_146 (by decide) ?_
            refine q_put (ws2 := WMod cI cZ b (mset (mset (mset (mset (mset (mset (mset (mset (mset (mset ν 21 (fun _ => 1)) 22 (fun _ => (ν 22 0) + 1)) 23 (fun _ => (ν 23 0) + 1)) 24 (fun _ => 0)) 25 ((ldR ν).1)) 26 (fun _ => (ldR ν).2.2.1)) 27 (fun _ => wkR ν)) 28 (fun _ => (plR ν).1)) 29 (fun _ => (plR ν).2.1)) 30 (fun _ => (plR ν).2.2))) M w in7 0 21 tyX7 tyX7_ok nmX7 rfl rfl (by decide) (by decide +kernel) rfl rfl (q_nz2 (by omega)) (q_fz (by omega)) (Nat.le_of_ble_eq_true rfl) rfl dX7_passes_150 (fun H locs w => ?_)
            have r24 : rd24 ν = 0 := if_pos (by omega)
            have r23 : rd23 ν = (ν 23 0) + 1 := if_pos (by omega)
            have r22 : rd22 ν = (ν 22 0) + 1 := if_pos ⟨by omega, by omega⟩
            have r21 : rd21 ν = 1 := by
              unfold rd21
              rw [if_pos (show ν 24 0 + 1 = 192 by omega), r22]
              exact if_pos (by omega)
            have w : wW D A zs.heap (WMod cI cZ b (mset (mset (mset (mset (mset (mset (mset (mset (mset (mset ν 21 (fun _ => rd21 ν)) 22 (fun _ => rd22 ν)) 23 (fun _ => rd23 ν)) 24 (fun _ => rd24 ν)) 25 ((ldR ν).1)) 26 (fun _ => (ldR ν).2.2.1)) 27 (fun _ => wkR ν)) 28 (fun _ => (plR ν).1)) 29 (fun _ => (plR ν).2.1)) 30 (fun _ => (plR ν).2.2))) H locs := by rw [r24, r23, r22, r21]; exact w
            exact kret _ _ _ _ dX7_passes_153 w
    · refine q_aln M dX7_passes_24 (lv_at hl 0 rfl) ?_
      refine q_dup M dX7_passes_25 rfl ?_
      refine q_get (v := .int (iI ((tkR ν).2.2.2))) M w in7 0 27 rfl rfl (by decide) (by decide +kernel) rfl rfl dX7_passes_26 ?_
      refine q_ic M dX7_passes_29 ?_
      refine q_add M dX7_passes_30 ?_
      refine q_put (ws2 := WMod cI cZ b (mset (mset (mset (mset (mset (mset ν 25 ((tkR ν).1)) 26 (fun _ => (tkR ν).2.2.1)) 27 (fun _ => ((tkR ν).2.2.2) + 1)) 28 (fun _ => (plR ν).1)) 29 (fun _ => (plR ν).2.1)) 30 (fun _ => (plR ν).2.2))) M w in7 0 27 tyX7 tyX7_ok nmX7 rfl rfl (by decide) (by decide +kernel) rfl rfl rfl rfl (Nat.le_of_ble_eq_true rfl) rfl dX7_passes_31 (fun H locs w => ?_)
      refine q_aln M dX7_passes_34 (lv_at hl 0 rfl) ?_
      refine q_get (v := .int (iI (((tkR ν).2.2.2) + 1))) M w in7 0 27 rfl rfl (by decide) (by decide +kernel) rfl rfl dX7_passes_35 ?_
      refine q_bp M dX7_passes_38 (by decide +kernel) ?_
      refine q_icmp_ne (tgt := 66) M dX7_passes_40 (by decide) (by omega) (fun c40 => ?_) (fun c40 => ?_)
      · have e : ldR ν = ((tkR ν).1, (tkR ν).2.1, (tkR ν).2.2.1, (tkR ν).2.2.2 + 1) := (if_pos (show ν 26 0 = -1 by omega)).trans ((if_neg (show ¬ (tkR ν).2.2.1 = -1 by omega)).trans (if_pos (show (tkR ν).2.2.2 + 1 < 8 by omega)))
        have ew : wkR ν = (tkR ν).2.2.2 + 1 := by unfold wkR; rw [e]; exact if_neg (show ¬ (tkR ν).2.2.1 = -1 by omega)
        have w : wW D A zs.heap (WMod cI cZ b (mset (mset (mset (mset (mset (mset ν 25 ((ldR ν).1)) 26 (fun _ => (ldR ν).2.2.1)) 27 (fun _ => wkR ν)) 28 (fun _ => (plR ν).1)) 29 (fun _ => (plR ν).2.1)) 30 (fun _ => (plR ν).2.2))) H locs := by rw [e, ew]; exact w
        refine q_aln M dX7_passes_66 (lv_at hl 0 rfl) ?_
        refine q_dup M dX7_passes_67 rfl ?_
        refine q_get (v := .int (iI (ν 24 0))) M w in7 0 24 rfl rfl (by decide) (by decide +kernel) rfl rfl dX7_passes_68 ?_
        refine q_ic M dX7_passes_71 ?_
        refine q_add M dX7_passes_72 ?_
        refine q_put (ws2 := WMod cI cZ b (mset (mset (mset (mset (mset (mset (mset ν 24 (fun _ => (ν 24 0) + 1)) 25 ((ldR ν).1)) 26 (fun _ => (ldR ν).2.2.1)) 27 (fun _ => wkR ν)) 28 (fun _ => (plR ν).1)) 29 (fun _ => (plR ν).2.1)) 30 (fun _ => (plR ν).2.2))) M w in7 0 24 tyX7 tyX7_ok nmX7 rfl rfl (by decide) (by decide +kernel) rfl rfl rfl rfl (Nat.le_of_ble_eq_true rfl) rfl dX7_passes_73 (fun H locs w => ?_)
        refine q_aln M dX7_passes_76 (lv_at hl 0 rfl) ?_
        refine q_get (v := .int (iI ((ν 24 0) + 1))) M w in7 0 24 rfl rfl (by decide) (by decide +kernel) rfl rfl dX7_passes_77 ?_
        refine q_sp M dX7_passes_80 (by decide +kernel) ?_
        refine q_icmp_ne (tgt := 153) M dX7_passes_83 (by decide) (by omega) (fun c83 => ?_) (fun c83 => ?_)
        · have r24 : rd24 ν = (ν 24 0) + 1 := if_neg (by omega)
          have r23 : rd23 ν = ν 23 0 := if_neg (by omega)
          have r22 : rd22 ν = ν 22 0 := if_neg (fun q => by have := q.1; omega)
          have r21 : rd21 ν = ν 21 0 := if_neg (by omega)
          have w : wW D A zs.heap (WMod cI cZ b (mset (mset (mset (mset (mset (mset (mset (mset (mset (mset ν 21 (fun _ => rd21 ν)) 22 (fun _ => rd22 ν)) 23 (fun _ => rd23 ν)) 24 (fun _ => rd24 ν)) 25 ((ldR ν).1)) 26 (fun _ => (ldR ν).2.2.1)) 27 (fun _ => wkR ν)) 28 (fun _ => (plR ν).1)) 29 (fun _ => (plR ν).2.1)) 30 (fun _ => (plR ν).2.2))) H locs := by rw [r24, r23, r22, r21]; exact w
          exact kret _ _ _ _ dX7_passes_153 w
        · refine q_aln M dX7_passes_86 (lv_at hl 0 rfl) ?_
          refine q_ic M dX7_passes_87 ?_
          refine q_put (ws2 := WMod cI cZ b (mset (mset (mset (mset (mset (mset (mset ν 24 (fun _ => 0)) 25 ((ldR ν).1)) 26 (fun _ => (ldR ν).2.2.1)) 27 (fun _ => wkR ν)) 28 (fun _ => (plR ν).1)) 29 (fun _ => (plR ν).2.1)) 30 (fun _ => (plR ν).2.2))) M w in7 0 24 tyX7 tyX7_ok nmX7 rfl rfl (by decide) (by decide +kernel) rfl rfl rfl rfl (Nat.le_of_ble_eq_true rfl) rfl dX7_passes_88 (fun H locs w => ?_)
          refine q_aln M dX7_passes_91 (lv_at hl 0 rfl) ?_
          refine q_dup M dX7_passes_92 rfl ?_
          refine q_get (v := .int (iI (ν 23 0))) M w in7 0 23 rfl rfl (by decide) (by decide +kernel) rfl rfl dX7_passes_93 ?_
          refine q_ic M dX7_passes_96 ?_
          refine q_add M dX7_passes_97 ?_
          refine q_put (ws2 := WMod cI cZ b (mset (mset (mset (mset (mset (mset (mset (mset ν 23 (fun _ => (ν 23 0) + 1)) 24 (fun _ => 0)) 25 ((ldR ν).1)) 26 (fun _ => (ldR ν).2.2.1)) 27 (fun _ => wkR ν)) 28 (fun _ => (plR ν).1)) 29 (fun _ => (plR ν).2.1)) 30 (fun _ => (plR ν).2.2))) M w in7 0 23 tyX7 tyX7_ok nmX7 rfl rfl (by decide) (by decide +kernel) rfl rfl rfl rfl (Nat.le_of_ble_eq_true rfl) rfl dX7_passes_98 (fun H locs w => ?_)
          refine q_aln M dX7_passes_101 (lv_at hl 0 rfl) ?_
          refine q_dup M dX7_passes_102 rfl ?_
          refine q_get (v := .int (iI (ν 22 0))) M w in7 0 22 rfl rfl (by decide) (by decide +kernel) rfl rfl dX7_passes_103 ?_
          refine q_aln M dX7_passes_106 (lv_at hl 0 rfl) ?_
          refine q_get (v := .int (iI ((ν 23 0) + 1))) M w in7 0 23 rfl rfl (by decide) (by decide +kernel) rfl rfl dX7_passes_107 ?_
          refine q_aln M dX7_passes_110 (lv_at hl 0 rfl) ?_
          refine q_get (v := .ref (b 18)) M w in7 0 18 rfl rfl (by decide) (by decide +kernel) rfl rfl dX7_passes_111 ?_
          refine q_aln M dX7_passes_114 (lv_at hl 0 rfl) ?_
          refine q_get (v := .int (iI (ν 22 0))) M w in7 0 22 rfl rfl (by decide) (by decide +kernel) rfl rfl dX7_passes_115 ?_
          refine q_ic M dX7_passes_118 ?_
          refine q_add M dX7_passes_119 ?_
          refine q_iald (f := ν 18) M w 17 0 rfl rfl (by omega) dX7_passes_120 ?_
          refine q_icmp_ne (tgt := 128) M dX7_passes_121 (by decide) (by omega) (fun c121 => ?_) (fun c121 => ?_)
          · refine q_ic M dX7_passes_128 ?_
            refine q_add M dX7_passes_129 ?_
            refine q_put (ws2 := WMod cI cZ b (mset (mset (mset (mset (mset (mset (mset (mset (mset ν 22 (fun _ => (ν 22 0) + 0)) 23 (fun _ => (ν 23 0) + 1)) 24 (fun _ => 0)) 25 ((ldR ν).1)) 26 (fun _ => (ldR ν).2.2.1)) 27 (fun _ => wkR ν)) 28 (fun _ => (plR ν).1)) 29 (fun _ => (plR ν).2.1)) 30 (fun _ => (plR ν).2.2))) M w in7 0 22 tyX7 tyX7_ok nmX7 rfl rfl (by decide) (by decide +kernel) rfl rfl rfl rfl (Nat.le_of_ble_eq_true rfl) rfl dX7_passes_130 (fun H locs w => ?_)
            refine q_aln M dX7_passes_133 (lv_at hl 0 rfl) ?_
            refine q_aln M dX7_passes_134 (lv_at hl 0 rfl) ?_
            refine q_get (v := .int (iI ((ν 22 0) + 0))) M w in7 0 22 rfl rfl (by decide) (by decide +kernel) rfl rfl dX7_passes_135 ?_
            refine q_aln M dX7_passes_138 (lv_at hl 0 rfl) ?_
            refine q_get (v := .int (iI (ν 14 0))) M w in7 0 14 rfl rfl (by decide) (by decide +kernel) rfl rfl dX7_passes_139 ?_
            refine q_icmp_ge (tgt := 149) M dX7_passes_142 (by decide) (by omega) (fun c142 => ?_) (fun c142 => ?_)
            · refine q_ic M dX7_passes_149 ?_
              refine q_put (ws2 := WMod cI cZ b (mset (mset (mset (mset (mset (mset (mset (mset (mset (mset ν 21 (fun _ => 0)) 22 (fun _ => (ν 22 0) + 0)) 23 (fun _ => (ν 23 0) + 1)) 24 (fun _ => 0)) 25 ((ldR ν).1)) 26 (fun _ => (ldR ν).2.2.1)) 27 (fun _ => wkR ν)) 28 (fun _ => (plR ν).1)) 29 (fun _ => (plR ν).2.1)) 30 (fun _ => (plR ν).2.2))) M w in7 0 21 tyX7 tyX7_ok nmX7 rfl rfl (by decide) (by decide +kernel) rfl rfl (q_nz2 (by omega)) (q_fz (by omega)) (Nat.le_of_ble_eq_true rfl) rfl dX7_passes_150 (fun H locs w => ?_)
              have r24 : rd24 ν = 0 := if_pos (by omega)
              have r23 : rd23 ν = (ν 23 0) + 1 := if_pos (by omega)
              have r22 : rd22 ν = (ν 22 0) + 0 := (if_neg (fun q => by have := q.2; omega)).trans (by omega)
              have r21 : rd21 ν = 0 := by
                unfold rd21
                rw [if_pos (show ν 24 0 + 1 = 192 by omega), r22]
                exact if_neg (by omega)
              have w : wW D A zs.heap (WMod cI cZ b (mset (mset (mset (mset (mset (mset (mset (mset (mset (mset ν 21 (fun _ => rd21 ν)) 22 (fun _ => rd22 ν)) 23 (fun _ => rd23 ν)) 24 (fun _ => rd24 ν)) 25 ((ldR ν).1)) 26 (fun _ => (ldR ν).2.2.1)) 27 (fun _ => wkR ν)) 28 (fun _ => (plR ν).1)) 29 (fun _ => (plR ν).2.1)) 30 (fun _ => (plR ν).2.2))) H locs := by rw [r24, r23, r22, r21]; exact w
              exact kret _ _ _ _ dX7_passes_153 w
            · refine q_ic M dX7_passes_145 ?_
              refine q_go (tgt := 150) M dX7_passes_146 (by decide) ?_
              refine q_put (ws2 := WMod cI cZ b (mset (mset (mset (mset (mset (mset (mset (mset (mset (mset ν 21 (fun _ => 1)) 22 (fun _ => (ν 22 0) + 0)) 23 (fun _ => (ν 23 0) + 1)) 24 (fun _ => 0)) 25 ((ldR ν).1)) 26 (fun _ => (ldR ν).2.2.1)) 27 (fun _ => wkR ν)) 28 (fun _ => (plR ν).1)) 29 (fun _ => (plR ν).2.1)) 30 (fun _ => (plR ν).2.2))) M w in7 0 21 tyX7 tyX7_ok nmX7 rfl rfl (by decide) (by decide +kernel) rfl rfl (q_nz2 (by omega)) (q_fz (by omega)) (Nat.le_of_ble_eq_true rfl) rfl dX7_passes_150 (fun H locs w => ?_)
              have r24 : rd24 ν = 0 := if_pos (by omega)
              have r23 : rd23 ν = (ν 23 0) + 1 := if_pos (by omega)
              have r22 : rd22 ν = (ν 22 0) + 0 := (if_neg (fun q => by have := q.2; omega)).trans (by omega)
              have r21 : rd21 ν = 1 := by
                unfold rd21
                rw [if_pos (show ν 24 0 + 1 = 192 by omega), r22]
                exact if_pos (by omega)
              have w : wW D A zs.heap (WMod cI cZ b (mset (mset (mset (mset (mset (mset (mset (mset (mset (mset ν 21 (fun _ => rd21 ν)) 22 (fun _ => rd22 ν)) 23 (fun _ => rd23 ν)) 24 (fun _ => rd24 ν)) 25 ((ldR ν).1)) 26 (fun _ => (ldR ν).2.2.1)) 27 (fun _ => wkR ν)) 28 (fun _ => (plR ν).1)) 29 (fun _ => (plR ν).2.1)) 30 (fun _ => (plR ν).2.2))) H locs := by rw [r24, r23, r22, r21]; exact w
              exact kret _ _ _ _ dX7_passes_153 w
          · refine q_ic M dX7_passes_124 ?_
            refine q_go (tgt := 129) M dX7_passes_125 (by decide) ?_
            refine q_add M dX7_passes_129 ?_
            refine q_put (ws2 := WMod cI cZ b (mset (mset (mset (mset (mset (mset (mset (mset (mset ν 22 (fun _ => (ν 22 0) + 1)) 23 (fun _ => (ν 23 0) + 1)) 24 (fun _ => 0)) 25 ((ldR ν).1)) 26 (fun _ => (ldR ν).2.2.1)) 27 (fun _ => wkR ν)) 28 (fun _ => (plR ν).1)) 29 (fun _ => (plR ν).2.1)) 30 (fun _ => (plR ν).2.2))) M w in7 0 22 tyX7 tyX7_ok nmX7 rfl rfl (by decide) (by decide +kernel) rfl rfl rfl rfl (Nat.le_of_ble_eq_true rfl) rfl dX7_passes_130 (fun H locs w => ?_)
            refine q_aln M dX7_passes_133 (lv_at hl 0 rfl) ?_
            refine q_aln M dX7_passes_134 (lv_at hl 0 rfl) ?_
            refine q_get (v := .int (iI ((ν 22 0) + 1))) M w in7 0 22 rfl rfl (by decide) (by decide +kernel) rfl rfl dX7_passes_135 ?_
            refine q_aln M dX7_passes_138 (lv_at hl 0 rfl) ?_
            refine q_get (v := .int (iI (ν 14 0))) M w in7 0 14 rfl rfl (by decide) (by decide +kernel) rfl rfl dX7_passes_139 ?_
            refine q_icmp_ge (tgt := 149) M dX7_passes_142 (by decide) (by omega) (fun c142 => ?_) (fun c142 => ?_)
            · refine q_ic M dX7_passes_149 ?_
              refine q_put (ws2 := WMod cI cZ b (mset (mset (mset (mset (mset (mset (mset (mset (mset (mset ν 21 (fun _ => 0)) 22 (fun _ => (ν 22 0) + 1)) 23 (fun _ => (ν 23 0) + 1)) 24 (fun _ => 0)) 25 ((ldR ν).1)) 26 (fun _ => (ldR ν).2.2.1)) 27 (fun _ => wkR ν)) 28 (fun _ => (plR ν).1)) 29 (fun _ => (plR ν).2.1)) 30 (fun _ => (plR ν).2.2))) M w in7 0 21 tyX7 tyX7_ok nmX7 rfl rfl (by decide) (by decide +kernel) rfl rfl (q_nz2 (by omega)) (q_fz (by omega)) (Nat.le_of_ble_eq_true rfl) rfl dX7_passes_150 (fun H locs w => ?_)
              have r24 : rd24 ν = 0 := if_pos (by omega)
              have r23 : rd23 ν = (ν 23 0) + 1 := if_pos (by omega)
              have r22 : rd22 ν = (ν 22 0) + 1 := if_pos ⟨by omega, by omega⟩
              have r21 : rd21 ν = 0 := by
                unfold rd21
                rw [if_pos (show ν 24 0 + 1 = 192 by omega), r22]
                exact if_neg (by omega)
              have w : wW D A zs.heap (WMod cI cZ b (mset (mset (mset (mset (mset (mset (mset (mset (mset (mset ν 21 (fun _ => rd21 ν)) 22 (fun _ => rd22 ν)) 23 (fun _ => rd23 ν)) 24 (fun _ => rd24 ν)) 25 ((ldR ν).1)) 26 (fun _ => (ldR ν).2.2.1)) 27 (fun _ => wkR ν)) 28 (fun _ => (plR ν).1)) 29 (fun _ => (plR ν).2.1)) 30 (fun _ => (plR ν).2.2))) H locs := by rw [r24, r23, r22, r21]; exact w
              exact kret _ _ _ _ dX7_passes_153 w
            · refine q_ic M dX7_passes_145 ?_
              refine q_go (tgt := 150) M dX7_passes_146 (by decide) ?_
              refine q_put (ws2 := WMod cI cZ b (mset (mset (mset (mset (mset (mset (mset (mset (mset (mset ν 21 (fun _ => 1)) 22 (fun _ => (ν 22 0) + 1)) 23 (fun _ => (ν 23 0) + 1)) 24 (fun _ => 0)) 25 ((ldR ν).1)) 26 (fun _ => (ldR ν).2.2.1)) 27 (fun _ => wkR ν)) 28 (fun _ => (plR ν).1)) 29 (fun _ => (plR ν).2.1)) 30 (fun _ => (plR ν).2.2))) M w in7 0 21 tyX7 tyX7_ok nmX7 rfl rfl (by decide) (by decide +kernel) rfl rfl (q_nz2 (by omega)) (q_fz (by omega)) (Nat.le_of_ble_eq_true rfl) rfl dX7_passes_150 (fun H locs w => ?_)
              have r24 : rd24 ν = 0 := if_pos (by omega)
              have r23 : rd23 ν = (ν 23 0) + 1 := if_pos (by omega)
              have r22 : rd22 ν = (ν 22 0) + 1 := if_pos ⟨by omega, by omega⟩
              have r21 : rd21 ν = 1 := by
                unfold rd21
                rw [if_pos (show ν 24 0 + 1 = 192 by omega), r22]
                exact if_pos (by omega)
              have w : wW D A zs.heap (WMod cI cZ b (mset (mset (mset (mset (mset (mset (mset (mset (mset (mset ν 21 (fun _ => rd21 ν)) 22 (fun _ => rd22 ν)) 23 (fun _ => rd23 ν)) 24 (fun _ => rd24 ν)) 25 ((ldR ν).1)) 26 (fun _ => (ldR ν).2.2.1)) 27 (fun _ => wkR ν)) 28 (fun _ => (plR ν).1)) 29 (fun _ => (plR ν).2.1)) 30 (fun _ => (plR ν).2.2))) H locs := by rw [r24, r23, r22, r21]; exact w
              exact kret _ _ _ _ dX7_passes_153 w
      · refine q_aln M dX7_passes_43 (lv_at hl 0 rfl) ?_
        refine q_get (v := .ref (b 25)) M w in7 0 25 rfl rfl (by decide) (by decide +kernel) rfl rfl dX7_passes_44 ?_
        refine q_aln M dX7_passes_47 (lv_at hl 0 rfl) ?_
        refine q_get (v := .int (iI ((tkR ν).2.2.1))) M w in7 0 26 rfl rfl (by decide) (by decide +kernel) rfl rfl dX7_passes_48 ?_
        refine q_dup2 M dX7_passes_51 rfl rfl ?_
        refine q_iald (f := (tkR ν).1) M w 20 0 rfl rfl (by omega) dX7_passes_52 ?_
        refine q_ic M dX7_passes_53 ?_
        refine q_add M dX7_passes_54 ?_
        refine q_iast (f := (tkR ν).1) (ws2 := WMod cI cZ b (mset (mset (mset (mset (mset (mset ν 25 (iU ((tkR ν).1) ((tkR ν).2.2.1) ((((tkR ν).1) ((tkR ν).2.2.1)) + 1))) 26 (fun _ => (tkR ν).2.2.1)) 27 (fun _ => ((tkR ν).2.2.2) + 1)) 28 (fun _ => (plR ν).1)) 29 (fun _ => (plR ν).2.1)) 30 (fun _ => (plR ν).2.2))) M w 20 0 rfl rfl (by omega) rfl dX7_passes_55 (fun H locs w => ?_)
        refine q_aln M dX7_passes_56 (lv_at hl 0 rfl) ?_
        refine q_ic M dX7_passes_57 ?_
        refine q_put (ws2 := WMod cI cZ b (mset (mset (mset (mset (mset (mset ν 25 (iU ((tkR ν).1) ((tkR ν).2.2.1) ((((tkR ν).1) ((tkR ν).2.2.1)) + 1))) 26 (fun _ => (-1))) 27 (fun _ => ((tkR ν).2.2.2) + 1)) 28 (fun _ => (plR ν).1)) 29 (fun _ => (plR ν).2.1)) 30 (fun _ => (plR ν).2.2))) M w in7 0 26 tyX7 tyX7_ok nmX7 rfl rfl (by decide) (by decide +kernel) rfl rfl rfl rfl (Nat.le_of_ble_eq_true rfl) rfl dX7_passes_58 (fun H locs w => ?_)
        refine q_aln M dX7_passes_61 (lv_at hl 0 rfl) ?_
        refine q_ic M dX7_passes_62 ?_
        refine q_put (ws2 := WMod cI cZ b (mset (mset (mset (mset (mset (mset ν 25 (iU ((tkR ν).1) ((tkR ν).2.2.1) ((((tkR ν).1) ((tkR ν).2.2.1)) + 1))) 26 (fun _ => (-1))) 27 (fun _ => 0)) 28 (fun _ => (plR ν).1)) 29 (fun _ => (plR ν).2.1)) 30 (fun _ => (plR ν).2.2))) M w in7 0 27 tyX7 tyX7_ok nmX7 rfl rfl (by decide) (by decide +kernel) rfl rfl rfl rfl (Nat.le_of_ble_eq_true rfl) rfl dX7_passes_63 (fun H locs w => ?_)
        have e : ldR ν = (iU (tkR ν).1 (tkR ν).2.2.1 ((tkR ν).1 (tkR ν).2.2.1 + 1), (tkR ν).2.1 + 1, -1, (tkR ν).2.2.2 + 1) := (if_pos (show ν 26 0 = -1 by omega)).trans ((if_neg (show ¬ (tkR ν).2.2.1 = -1 by omega)).trans (if_neg (show ¬ (tkR ν).2.2.2 + 1 < 8 by omega)))
        have ew : wkR ν = 0 := by unfold wkR; rw [e]; exact if_pos rfl
        have w : wW D A zs.heap (WMod cI cZ b (mset (mset (mset (mset (mset (mset ν 25 ((ldR ν).1)) 26 (fun _ => (ldR ν).2.2.1)) 27 (fun _ => wkR ν)) 28 (fun _ => (plR ν).1)) 29 (fun _ => (plR ν).2.1)) 30 (fun _ => (plR ν).2.2))) H locs := by rw [e, ew]; exact w
        refine q_aln M dX7_passes_66 (lv_at hl 0 rfl) ?_
        refine q_dup M dX7_passes_67 rfl ?_
        refine q_get (v := .int (iI (ν 24 0))) M w in7 0 24 rfl rfl (by decide) (by decide +kernel) rfl rfl dX7_passes_68 ?_
        refine q_ic M dX7_passes_71 ?_
        refine q_add M dX7_passes_72 ?_
        refine q_put (ws2 := WMod cI cZ b (mset (mset (mset (mset (mset (mset (mset ν 24 (fun _ => (ν 24 0) + 1)) 25 ((ldR ν).1)) 26 (fun _ => (ldR ν).2.2.1)) 27 (fun _ => wkR ν)) 28 (fun _ => (plR ν).1)) 29 (fun _ => (plR ν).2.1)) 30 (fun _ => (plR ν).2.2))) M w in7 0 24 tyX7 tyX7_ok nmX7 rfl rfl (by decide) (by decide +kernel) rfl rfl rfl rfl (Nat.le_of_ble_eq_true rfl) rfl dX7_passes_73 (fun H locs w => ?_)
        refine q_aln M dX7_passes_76 (lv_at hl 0 rfl) ?_
        refine q_get (v := .int (iI ((ν 24 0) + 1))) M w in7 0 24 rfl rfl (by decide) (by decide +kernel) rfl rfl dX7_passes_77 ?_
        refine q_sp M dX7_passes_80 (by decide +kernel) ?_
        refine q_icmp_ne (tgt := 153) M dX7_passes_83 (by decide) (by omega) (fun c83 => ?_) (fun c83 => ?_)
        · have r24 : rd24 ν = (ν 24 0) + 1 := if_neg (by omega)
          have r23 : rd23 ν = ν 23 0 := if_neg (by omega)
          have r22 : rd22 ν = ν 22 0 := if_neg (fun q => by have := q.1; omega)
          have r21 : rd21 ν = ν 21 0 := if_neg (by omega)
          have w : wW D A zs.heap (WMod cI cZ b (mset (mset (mset (mset (mset (mset (mset (mset (mset (mset ν 21 (fun _ => rd21 ν)) 22 (fun _ => rd22 ν)) 23 (fun _ => rd23 ν)) 24 (fun _ => rd24 ν)) 25 ((ldR ν).1)) 26 (fun _ => (ldR ν).2.2.1)) 27 (fun _ => wkR ν)) 28 (fun _ => (plR ν).1)) 29 (fun _ => (plR ν).2.1)) 30 (fun _ => (plR ν).2.2))) H locs := by rw [r24, r23, r22, r21]; exact w
          exact kret _ _ _ _ dX7_passes_153 w
        · refine q_aln M dX7_passes_86 (lv_at hl 0 rfl) ?_
          refine q_ic M dX7_passes_87 ?_
          refine q_put (ws2 := WMod cI cZ b (mset (mset (mset (mset (mset (mset (mset ν 24 (fun _ => 0)) 25 ((ldR ν).1)) 26 (fun _ => (ldR ν).2.2.1)) 27 (fun _ => wkR ν)) 28 (fun _ => (plR ν).1)) 29 (fun _ => (plR ν).2.1)) 30 (fun _ => (plR ν).2.2))) M w in7 0 24 tyX7 tyX7_ok nmX7 rfl rfl (by decide) (by decide +kernel) rfl rfl rfl rfl (Nat.le_of_ble_eq_true rfl) rfl dX7_passes_88 (fun H locs w => ?_)
          refine q_aln M dX7_passes_91 (lv_at hl 0 rfl) ?_
          refine q_dup M dX7_passes_92 rfl ?_
          refine q_get (v := .int (iI (ν 23 0))) M w in7 0 23 rfl rfl (by decide) (by decide +kernel) rfl rfl dX7_passes_93 ?_
          refine q_ic M dX7_passes_96 ?_
          refine q_add M dX7_passes_97 ?_
          refine q_put (ws2 := WMod cI cZ b (mset (mset (mset (mset (mset (mset (mset (mset ν 23 (fun _ => (ν 23 0) + 1)) 24 (fun _ => 0)) 25 ((ldR ν).1)) 26 (fun _ => (ldR ν).2.2.1)) 27 (fun _ => wkR ν)) 28 (fun _ => (plR ν).1)) 29 (fun _ => (plR ν).2.1)) 30 (fun _ => (plR ν).2.2))) M w in7 0 23 tyX7 tyX7_ok nmX7 rfl rfl (by decide) (by decide +kernel) rfl rfl rfl rfl (Nat.le_of_ble_eq_true rfl) rfl dX7_passes_98 (fun H locs w => ?_)
          refine q_aln M dX7_passes_101 (lv_at hl 0 rfl) ?_
          refine q_dup M dX7_passes_102 rfl ?_
          refine q_get (v := .int (iI (ν 22 0))) M w in7 0 22 rfl rfl (by decide) (by decide +kernel) rfl rfl dX7_passes_103 ?_
          refine q_aln M dX7_passes_106 (lv_at hl 0 rfl) ?_
          refine q_get (v := .int (iI ((ν 23 0) + 1))) M w in7 0 23 rfl rfl (by decide) (by decide +kernel) rfl rfl dX7_passes_107 ?_
          refine q_aln M dX7_passes_110 (lv_at hl 0 rfl) ?_
          refine q_get (v := .ref (b 18)) M w in7 0 18 rfl rfl (by decide) (by decide +kernel) rfl rfl dX7_passes_111 ?_
          refine q_aln M dX7_passes_114 (lv_at hl 0 rfl) ?_
          refine q_get (v := .int (iI (ν 22 0))) M w in7 0 22 rfl rfl (by decide) (by decide +kernel) rfl rfl dX7_passes_115 ?_
          refine q_ic M dX7_passes_118 ?_
          refine q_add M dX7_passes_119 ?_
          refine q_iald (f := ν 18) M w 17 0 rfl rfl (by omega) dX7_passes_120 ?_
          refine q_icmp_ne (tgt := 128) M dX7_passes_121 (by decide) (by omega) (fun c121 => ?_) (fun c121 => ?_)
          · refine q_ic M dX7_passes_128 ?_
            refine q_add M dX7_passes_129 ?_
            refine q_put (ws2 := WMod cI cZ b (mset (mset (mset (mset (mset (mset (mset (mset (mset ν 22 (fun _ => (ν 22 0) + 0)) 23 (fun _ => (ν 23 0) + 1)) 24 (fun _ => 0)) 25 ((ldR ν).1)) 26 (fun _ => (ldR ν).2.2.1)) 27 (fun _ => wkR ν)) 28 (fun _ => (plR ν).1)) 29 (fun _ => (plR ν).2.1)) 30 (fun _ => (plR ν).2.2))) M w in7 0 22 tyX7 tyX7_ok nmX7 rfl rfl (by decide) (by decide +kernel) rfl rfl rfl rfl (Nat.le_of_ble_eq_true rfl) rfl dX7_passes_130 (fun H locs w => ?_)
            refine q_aln M dX7_passes_133 (lv_at hl 0 rfl) ?_
            refine q_aln M dX7_passes_134 (lv_at hl 0 rfl) ?_
            refine q_get (v := .int (iI ((ν 22 0) + 0))) M w in7 0 22 rfl rfl (by decide) (by decide +kernel) rfl rfl dX7_passes_135 ?_
            refine q_aln M dX7_passes_138 (lv_at hl 0 rfl) ?_
            refine q_get (v := .int (iI (ν 14 0))) M w in7 0 14 rfl rfl (by decide) (by decide +kernel) rfl rfl dX7_passes_139 ?_
            refine q_icmp_ge (tgt := 149) M dX7_passes_142 (by decide) (by omega) (fun c142 => ?_) (fun c142 => ?_)
            · refine q_ic M dX7_passes_149 ?_
              refine q_put (ws2 := WMod cI cZ b (mset (mset (mset (mset (mset (mset (mset (mset (mset (mset ν 21 (fun _ => 0)) 22 (fun _ => (ν 22 0) + 0)) 23 (fun _ => (ν 23 0) + 1)) 24 (fun _ => 0)) 25 ((ldR ν).1)) 26 (fun _ => (ldR ν).2.2.1)) 27 (fun _ => wkR ν)) 28 (fun _ => (plR ν).1)) 29 (fun _ => (plR ν).2.1)) 30 (fun _ => (plR ν).2.2))) M w in7 0 21 tyX7 tyX7_ok nmX7 rfl rfl (by decide) (by decide +kernel) rfl rfl (q_nz2 (by omega)) (q_fz (by omega)) (Nat.le_of_ble_eq_true rfl) rfl dX7_passes_150 (fun H locs w => ?_)
              have r24 : rd24 ν = 0 := if_pos (by omega)
              have r23 : rd23 ν = (ν 23 0) + 1 := if_pos (by omega)
              have r22 : rd22 ν = (ν 22 0) + 0 := (if_neg (fun q => by have := q.2; omega)).trans (by omega)
              have r21 : rd21 ν = 0 := by
                unfold rd21
                rw [if_pos (show ν 24 0 + 1 = 192 by omega), r22]
                exact if_neg (by omega)
              have w : wW D A zs.heap (WMod cI cZ b (mset (mset (mset (mset (mset (mset (mset (mset (mset (mset ν 21 (fun _ => rd21 ν)) 22 (fun _ => rd22 ν)) 23 (fun _ => rd23 ν)) 24 (fun _ => rd24 ν)) 25 ((ldR ν).1)) 26 (fun _ => (ldR ν).2.2.1)) 27 (fun _ => wkR ν)) 28 (fun _ => (plR ν).1)) 29 (fun _ => (plR ν).2.1)) 30 (fun _ => (plR ν).2.2))) H locs := by rw [r24, r23, r22, r21]; exact w
              exact kret _ _ _ _ dX7_passes_153 w
            · refine q_ic M dX7_passes_145 ?_
              refine q_go (tgt := 150) M dX7_passes_146 (by decide) ?_
              refine q_put (ws2 := WMod cI cZ b (mset (mset (mset (mset (mset (mset (mset (mset (mset (mset ν 21 (fun _ => 1)) 22 (fun _ => (ν 22 0) + 0)) 23 (fun _ => (ν 23 0) + 1)) 24 (fun _ => 0)) 25 ((ldR ν).1)) 26 (fun _ => (ldR ν).2.2.1)) 27 (fun _ => wkR ν)) 28 (fun _ => (plR ν).1)) 29 (fun _ => (plR ν).2.1)) 30 (fun _ => (plR ν).2.2))) M w in7 0 21 tyX7 tyX7_ok nmX7 rfl rfl (by decide) (by decide +kernel) rfl rfl (q_nz2 (by omega)) (q_fz (by omega)) (Nat.le_of_ble_eq_true rfl) rfl dX7_passes_150 (fun H locs w => ?_)
              have r24 : rd24 ν = 0 := if_pos (by omega)
              have r23 : rd23 ν = (ν 23 0) + 1 := if_pos (by omega)
              have r22 : rd22 ν = (ν 22 0) + 0 := (if_neg (fun q => by have := q.2; omega)).trans (by omega)
              have r21 : rd21 ν = 1 := by
                unfold rd21
                rw [if_pos (show ν 24 0 + 1 = 192 by omega), r22]
                exact if_pos (by omega)
              have w : wW D A zs.heap (WMod cI cZ b (mset (mset (mset (mset (mset (mset (mset (mset (mset (mset ν 21 (fun _ => rd21 ν)) 22 (fun _ => rd22 ν)) 23 (fun _ => rd23 ν)) 24 (fun _ => rd24 ν)) 25 ((ldR ν).1)) 26 (fun _ => (ldR ν).2.2.1)) 27 (fun _ => wkR ν)) 28 (fun _ => (plR ν).1)) 29 (fun _ => (plR ν).2.1)) 30 (fun _ => (plR ν).2.2))) H locs := by rw [r24, r23, r22, r21]; exact w
              exact kret _ _ _ _ dX7_passes_153 w
          · refine q_ic M dX7_passes_124 ?_
            refine q_go (tgt := 129) M dX7_passes_125 (by decide) ?_
            refine q_add M dX7_passes_129 ?_
            refine q_put (ws2 := WMod cI cZ b (mset (mset (mset (mset (mset (mset (mset (mset (mset ν 22 (fun _ => (ν 22 0) + 1)) 23 (fun _ => (ν 23 0) + 1)) 24 (fun _ => 0)) 25 ((ldR ν).1)) 26 (fun _ => (ldR ν).2.2.1)) 27 (fun _ => wkR ν)) 28 (fun _ => (plR ν).1)) 29 (fun _ => (plR ν).2.1)) 30 (fun _ => (plR ν).2.2))) M w in7 0 22 tyX7 tyX7_ok nmX7 rfl rfl (by decide) (by decide +kernel) rfl rfl rfl rfl (Nat.le_of_ble_eq_true rfl) rfl dX7_passes_130 (fun H locs w => ?_)
            refine q_aln M dX7_passes_133 (lv_at hl 0 rfl) ?_
            refine q_aln M dX7_passes_134 (lv_at hl 0 rfl) ?_
            refine q_get (v := .int (iI ((ν 22 0) + 1))) M w in7 0 22 rfl rfl (by decide) (by decide +kernel) rfl rfl dX7_passes_135 ?_
            refine q_aln M dX7_passes_138 (lv_at hl 0 rfl) ?_
            refine q_get (v := .int (iI (ν 14 0))) M w in7 0 14 rfl rfl (by decide) (by decide +kernel) rfl rfl dX7_passes_139 ?_
            refine q_icmp_ge (tgt := 149) M dX7_passes_142 (by decide) (by omega) (fun c142 => ?_) (fun c142 => ?_)
            · refine q_ic M dX7_passes_149 ?_
              refine q_put (ws2 := WMod cI cZ b (mset (mset (mset (mset (mset (mset (mset (mset (mset (mset ν 21 (fun _ => 0)) 22 (fun _ => (ν 22 0) + 1)) 23 (fun _ => (ν 23 0) + 1)) 24 (fun _ => 0)) 25 ((ldR ν).1)) 26 (fun _ => (ldR ν).2.2.1)) 27 (fun _ => wkR ν)) 28 (fun _ => (plR ν).1)) 29 (fun _ => (plR ν).2.1)) 30 (fun _ => (plR ν).2.2))) M w in7 0 21 tyX7 tyX7_ok nmX7 rfl rfl (by decide) (by decide +kernel) rfl rfl (q_nz2 (by omega)) (q_fz (by omega)) (Nat.le_of_ble_eq_true rfl) rfl dX7_passes_150 (fun H locs w => ?_)
              have r24 : rd24 ν = 0 := if_pos (by omega)
              have r23 : rd23 ν = (ν 23 0) + 1 := if_pos (by omega)
              have r22 : rd22 ν = (ν 22 0) + 1 := if_pos ⟨by omega, by omega⟩
              have r21 : rd21 ν = 0 := by
                unfold rd21
                rw [if_pos (show ν 24 0 + 1 = 192 by omega), r22]
                exact if_neg (by omega)
              have w : wW D A zs.heap (WMod cI cZ b (mset (mset (mset (mset (mset (mset (mset (mset (mset (mset ν 21 (fun _ => rd21 ν)) 22 (fun _ => rd22 ν)) 23 (fun _ => rd23 ν)) 24 (fun _ => rd24 ν)) 25 ((ldR ν).1)) 26 (fun _ => (ldR ν).2.2.1)) 27 (fun _ => wkR ν)) 28 (fun _ => (plR ν).1)) 29 (fun _ => (plR ν).2.1)) 30 (fun _ => (plR ν).2.2))) H locs := by rw [r24, r23, r22, r21]; exact w
              exact kret _ _ _ _ dX7_passes_153 w
            · refine q_ic M dX7_passes_145 ?_
              refine q_go (tgt := 150) M dX7_passes_146 (by decide) ?_
              refine q_put (ws2 := WMod cI cZ b (mset (mset (mset (mset (mset (mset (mset (mset (mset (mset ν 21 (fun _ => 1)) 22 (fun _ => (ν 22 0) + 1)) 23 (fun _ => (ν 23 0) + 1)) 24 (fun _ => 0)) 25 ((ldR ν).1)) 26 (fun _ => (ldR ν).2.2.1)) 27 (fun _ => wkR ν)) 28 (fun _ => (plR ν).1)) 29 (fun _ => (plR ν).2.1)) 30 (fun _ => (plR ν).2.2))) M w in7 0 21 tyX7 tyX7_ok nmX7 rfl rfl (by decide) (by decide +kernel) rfl rfl (q_nz2 (by omega)) (q_fz (by omega)) (Nat.le_of_ble_eq_true rfl) rfl dX7_passes_150 (fun H locs w => ?_)
              have r24 : rd24 ν = 0 := if_pos (by omega)
              have r23 : rd23 ν = (ν 23 0) + 1 := if_pos (by omega)
              have r22 : rd22 ν = (ν 22 0) + 1 := if_pos ⟨by omega, by omega⟩
              have r21 : rd21 ν = 1 := by
                unfold rd21
                rw [if_pos (show ν 24 0 + 1 = 192 by omega), r22]
                exact if_pos (by omega)
              have w : wW D A zs.heap (WMod cI cZ b (mset (mset (mset (mset (mset (mset (mset (mset (mset (mset ν 21 (fun _ => rd21 ν)) 22 (fun _ => rd22 ν)) 23 (fun _ => rd23 ν)) 24 (fun _ => rd24 ν)) 25 ((ldR ν).1)) 26 (fun _ => (ldR ν).2.2.1)) 27 (fun _ => wkR ν)) 28 (fun _ => (plR ν).1)) 29 (fun _ => (plR ν).2.1)) 30 (fun _ => (plR ν).2.2))) H locs := by rw [r24, r23, r22, r21]; exact w
              exact kret _ _ _ _ dX7_passes_153 w

noncomputable def tkM (ν : Nat → Int → Int) (k : Int) : Nat → Int → Int := itI (fun _ m => if m 21 0 = 1 then psR m else m) (r0 ν) k

set_option maxHeartbeats 4000000 in
set_option maxRecDepth 100000 in
/-- tick -/
theorem m_tick (l : Launch) (D : va_G) (cI cZ cJ : ClassId) (b : Nat → Nat) (ν : Nat → Int → Int) (n : Int) (hn : -2147483648 ≤ n ∧ n < 2147483648)  (I : (Nat → Int → Int) → Prop) (h0 : I (r0 ν)) (hs : ∀ m, I m → (m 21 0 = 0 ∨ m 21 0 = 1) ∧ (m 21 0 = 1 → PM m ∧ I (psR m))) (hok : (1 ≤ n ∧ n ≤ 2000) ∧ ν 21 0 = 1) : Ci l D (tY cI cZ cJ) yX7_tick wsX7_tick rmX7_tick [.ref (b 0), .int (iI n)] (WMod cI cZ b ν) (tkM ν n 28 0 - ν 28 0) (WMod cI cZ b (tkM ν n)) := by
  have h21 : ν 21 0 = 0 ∨ ν 21 0 = 1 := (hs _ h0).1
  refine qi_of (by decide +kernel) rfl (Nat.le_of_ble_eq_true rfl) ?_
  intro zp ze zs zm zargs zbelow zmeth zc A Q ls M hA w hl kret
  have hl : lv_has ls 4 [(0, .ref (b 0)), (1, .int (iI n))] := hl
  have in7 : ∀ w ∈ u_ws RX7 TX7 31, w ∈ wsX7_tick := by decide +kernel
  refine q_aln M dX7_tick_0 (lv_at hl 0 rfl) ?_
  refine q_ic M dX7_tick_1 ?_
  refine q_put (ws2 := WMod cI cZ b (mset ν 0 (fun _ => 0))) M w in7 0 0 tyX7 tyX7_ok nmX7 rfl rfl (by decide) (by decide +kernel) rfl rfl rfl rfl (Nat.le_of_ble_eq_true rfl) rfl dX7_tick_2 (fun H locs w => ?_)
  refine q_iln M dX7_tick_5 (lv_at hl 1 rfl) ?_
  refine q_ic M dX7_tick_6 ?_
  refine q_sp M dX7_tick_7 (by decide +kernel) ?_
  refine qc_iS (As := [.int (iI n), .int (iI 1), .int (iI 2000)]) (rest := []) (wc := []) (wc2 := []) (ws2 := WMod cI cZ b (mset ν 0 (fun _ => 0))) M w hA hl (m_in l D cI cZ cJ n 1 2000 (by omega)) gX7_tick_X7_in rfl ⟨rfl, rfl, by decide, by decide⟩ ⟨Nat.zero_le _, Nat.zero_le _⟩ 3 (by decide +kernel) rfl [] rfl rfl rfl (Nat.le_of_ble_eq_true rfl) rfl dX7_tick_10 (fun H locs w => ?_)
  have q10 := inF_c n 1 2000
  refine q_if_ne (tgt := 22) M dX7_tick_13 (by decide) (by omega) (fun c13 => ?_) (fun c13 => ?_)
  · refine q_aln M dX7_tick_22 (lv_at hl 0 rfl) ?_
    refine q_get (v := .int (iI (ν 21 0))) M w in7 0 21 rfl rfl (by decide) (by decide +kernel) rfl rfl dX7_tick_23 ?_
    refine q_if_ne (tgt := 35) M dX7_tick_26 (by decide) (by omega) (fun c26 => ?_) (fun c26 => ?_)
    · refine q_aln M dX7_tick_35 (lv_at hl 0 rfl) ?_
      refine q_get (v := .int (iI (ν 28 0))) M w in7 0 28 rfl rfl (by decide) (by decide +kernel) rfl rfl dX7_tick_36 ?_
      refine q_isn (lv' := [(2, .int (iI (ν 28 0))), (0, .ref (b 0)), (1, .int (iI n))]) M dX7_tick_39 rfl hl (by decide) rfl (fun ls hl => ?_)
      refine q_ic M dX7_tick_40 ?_
      refine q_isn (lv' := [(3, .int (iI 0)), (2, .int (iI (ν 28 0))), (0, .ref (b 0)), (1, .int (iI n))]) M dX7_tick_41 rfl hl (by decide) rfl (fun ls hl => ?_)
      have lp42 : ∀ (n42 : Nat) (k : Int), (0 ≤ k ∧ k ≤ n) → (I (tkM ν k)) → (n - k : Int) < (n42 : Int) → ∀ (H : Heap) (locs : List Loc) (ls : Array Slot), wW D A zs.heap (WMod cI cZ b (tkM ν k)) H locs → lv_has ls 4 [(0, .ref (b 0)), (1, .int (iI n)), (2, .int (iI (ν 28 0))), (3, .int (iI k))] → W zp l ze rmX7_tick zs zm zargs zbelow zmeth zc H locs 0 0 Q (F0 zm 42 ls []) := by
        intro n42
        induction n42 with
        | zero => intro k hj hi hm H locs ls w hl; exfalso; omega
        | succ n42 ih42 =>
          intro k hj hi hm42 H locs ls w hl
          refine q_iln M dX7_tick_42 (lv_at hl 3 rfl) ?_
          refine q_iln M dX7_tick_43 (lv_at hl 1 rfl) ?_
          refine q_icmp_ge (tgt := 64) M dX7_tick_44 (by decide) (by omega) (fun c44 => ?_) (fun c44 => ?_)
          · refine q_aln M dX7_tick_64 (lv_at hl 0 rfl) ?_
            refine q_get (v := .int (iI ((tkM ν k) 28 0))) M w in7 0 28 rfl rfl (by decide) (by decide +kernel) rfl rfl dX7_tick_65 ?_
            refine q_iln M dX7_tick_68 (lv_at hl 2 rfl) ?_
            refine q_sub M dX7_tick_69 ?_
            have ez : tkM ν n = tkM ν k := by
              by_cases q : k = n
              · rw [q]
              · have c : tkM ν k 21 0 ≠ 1 := by omega
                exact itI_fix ⟨hj.1, hj.2⟩ rfl (fun _ => if_neg c)
            have w : wW D A zs.heap (WMod cI cZ b (tkM ν n)) H locs := by rw [ez]; exact w
            exact kret _ _ _ _ _ dX7_tick_70 w (by rw [ez])
          · refine q_aln M dX7_tick_47 (lv_at hl 0 rfl) ?_
            refine q_get (v := .int (iI ((tkM ν k) 21 0))) M w in7 0 21 rfl rfl (by decide) (by decide +kernel) rfl rfl dX7_tick_48 ?_
            have q21 := (hs _ hi).1
            refine q_if_eq (tgt := 64) M dX7_tick_51 (by decide) (by omega) (fun c51 => ?_) (fun c51 => ?_)
            · refine q_aln M dX7_tick_64 (lv_at hl 0 rfl) ?_
              refine q_get (v := .int (iI ((tkM ν k) 28 0))) M w in7 0 28 rfl rfl (by decide) (by decide +kernel) rfl rfl dX7_tick_65 ?_
              refine q_iln M dX7_tick_68 (lv_at hl 2 rfl) ?_
              refine q_sub M dX7_tick_69 ?_
              have ez : tkM ν n = tkM ν k := by
                by_cases q : k = n
                · rw [q]
                · have c : tkM ν k 21 0 ≠ 1 := by omega
                  exact itI_fix ⟨hj.1, hj.2⟩ rfl (fun _ => if_neg c)
              have w : wW D A zs.heap (WMod cI cZ b (tkM ν n)) H locs := by rw [ez]; exact w
              exact kret _ _ _ _ _ dX7_tick_70 w (by rw [ez])
            · have c51 : tkM ν k 21 0 = 1 := by omega
              refine q_aln M dX7_tick_54 (lv_at hl 0 rfl) ?_
              refine qc_vV (As := []) (rest := []) (wc := WMod cI cZ b (tkM ν k)) (wc2 := WMod cI cZ b (psR (tkM ν k))) (ws2 := WMod cI cZ b (psR (tkM ν k))) M w hA hl (m_passes l D cI cZ cJ b (tkM ν k) ((hs _ hi).2 c51).1) gX7_tick_X7_passes rfl ⟨rfl, rfl, by decide, by decide⟩ ⟨Nat.zero_le _, Nat.zero_le _⟩ 0 ⟨rfl, by decide +kernel⟩ rfl [true, true, true, true, true, true, true, true, true, true, true, true, true, true, true, true, true, true, true, true, true] rfl rfl 0 rfl rfl rfl (Nat.le_of_ble_eq_true rfl) rfl dX7_tick_55 (fun H locs w => ?_)
              refine q_inc (z := k) (lv' := [(3, .int (iI (k + 1))), (0, .ref (b 0)), (1, .int (iI n)), (2, .int (iI (ν 28 0)))]) M dX7_tick_58 hl (k := 3) rfl (by decide) rfl (fun ls hl => ?_)
              refine q_go (tgt := 42) M dX7_tick_61 (by decide) ?_
              have es : tkM ν (k + 1) = psR (tkM ν k) := (itI_s _ _ hj.1).trans (if_pos c51)
              have w : wW D A zs.heap (WMod cI cZ b (tkM ν (k + 1))) H locs := by rw [es]; exact w
              exact ih42 (k + 1) (by omega) (by rw [es]; exact ((hs _ hi).2 c51).2) (by omega) _ _ _ w (lv_sub hl [1, 2, 3, 0] rfl)
      have es0 : tkM ν 0 = r0 ν := itI_0 _ _
      have w : wW D A zs.heap (WMod cI cZ b (tkM ν 0)) H locs := by rw [es0]; exact w
      exact lp42 2001 0 (by omega) (by rw [es0]; exact h0) (by omega) _ _ _ w (lv_sub hl [2, 3, 1, 0] rfl)
    · exfalso; omega
  · exfalso; omega

set_option maxHeartbeats 4000000 in
set_option maxRecDepth 100000 in
/-- tick -/
theorem m_tick_x (l : Launch) (D : va_G) (cI cZ cJ : ClassId) (b : Nat → Nat) (ν : Nat → Int → Int) (n : Int) (hn : -2147483648 ≤ n ∧ n < 2147483648) (h21 : ν 21 0 = 0 ∨ ν 21 0 = 1) (k : Int) (hk : (¬ (1 ≤ n ∧ n ≤ 2000) ∧ k = 1) ∨ ((1 ≤ n ∧ n ≤ 2000) ∧ ¬ ν 21 0 = 1 ∧ k = 2)) : Ci l D (tY cI cZ cJ) yX7_tick wsX7_tick rmX7_tick [.ref (b 0), .int (iI n)] (WMod cI cZ b ν) (0) (WMod cI cZ b (mset ν 0 (fun _ => k))) := by
  refine qi_of (by decide +kernel) rfl (Nat.le_of_ble_eq_true rfl) ?_
  intro zp ze zs zm zargs zbelow zmeth zc A Q ls M hA w hl kret
  have hl : lv_has ls 4 [(0, .ref (b 0)), (1, .int (iI n))] := hl
  have in7 : ∀ w ∈ u_ws RX7 TX7 31, w ∈ wsX7_tick := by decide +kernel
  refine q_aln M dX7_tick_0 (lv_at hl 0 rfl) ?_
  refine q_ic M dX7_tick_1 ?_
  refine q_put (ws2 := WMod cI cZ b (mset ν 0 (fun _ => 0))) M w in7 0 0 tyX7 tyX7_ok nmX7 rfl rfl (by decide) (by decide +kernel) rfl rfl rfl rfl (Nat.le_of_ble_eq_true rfl) rfl dX7_tick_2 (fun H locs w => ?_)
  refine q_iln M dX7_tick_5 (lv_at hl 1 rfl) ?_
  refine q_ic M dX7_tick_6 ?_
  refine q_sp M dX7_tick_7 (by decide +kernel) ?_
  refine qc_iS (As := [.int (iI n), .int (iI 1), .int (iI 2000)]) (rest := []) (wc := []) (wc2 := []) (ws2 := WMod cI cZ b (mset ν 0 (fun _ => 0))) M w hA hl (m_in l D cI cZ cJ n 1 2000 (by omega)) gX7_tick_X7_in rfl ⟨rfl, rfl, by decide, by decide⟩ ⟨Nat.zero_le _, Nat.zero_le _⟩ 3 (by decide +kernel) rfl [] rfl rfl rfl (Nat.le_of_ble_eq_true rfl) rfl dX7_tick_10 (fun H locs w => ?_)
  have q10 := inF_c n 1 2000
  refine q_if_ne (tgt := 22) M dX7_tick_13 (by decide) (by omega) (fun c13 => ?_) (fun c13 => ?_)
  · refine q_aln M dX7_tick_22 (lv_at hl 0 rfl) ?_
    refine q_get (v := .int (iI (ν 21 0))) M w in7 0 21 rfl rfl (by decide) (by decide +kernel) rfl rfl dX7_tick_23 ?_
    refine q_if_ne (tgt := 35) M dX7_tick_26 (by decide) (by omega) (fun c26 => ?_) (fun c26 => ?_)
    · exfalso; omega
    · refine q_aln M dX7_tick_29 (lv_at hl 0 rfl) ?_
      refine q_ic M dX7_tick_30 ?_
      refine qc_iV (As := [.int (iI 2)]) (rest := []) (wc := WMod cI cZ b (mset ν 0 (fun _ => 0))) (wc2 := WMod cI cZ b (mset ν 0 (fun _ => 2))) (ws2 := WMod cI cZ b (mset ν 0 (fun _ => 2))) M w hA hl (m_fails l D cI cZ cJ b (mset ν 0 (fun _ => 0)) 2 ) gX7_tick_X7_fails rfl ⟨rfl, rfl, by decide, by decide⟩ ⟨Nat.zero_le _, Nat.zero_le _⟩ 1 ⟨rfl, by decide +kernel⟩ rfl [true, true, true, true, true, true, true, true, true, true, true, true, true, true, true, true, true, true, true, true, true] rfl rfl 0 rfl rfl rfl (Nat.le_of_ble_eq_true rfl) rfl dX7_tick_31 (fun H locs w => ?_)
      have hk1 : k = 2 := by omega
      subst hk1
      exact kret _ _ _ _ _ dX7_tick_34 w rfl
  · refine q_aln M dX7_tick_16 (lv_at hl 0 rfl) ?_
    refine q_ic M dX7_tick_17 ?_
    refine qc_iV (As := [.int (iI 1)]) (rest := []) (wc := WMod cI cZ b (mset ν 0 (fun _ => 0))) (wc2 := WMod cI cZ b (mset ν 0 (fun _ => 1))) (ws2 := WMod cI cZ b (mset ν 0 (fun _ => 1))) M w hA hl (m_fails l D cI cZ cJ b (mset ν 0 (fun _ => 0)) 1 ) gX7_tick_X7_fails rfl ⟨rfl, rfl, by decide, by decide⟩ ⟨Nat.zero_le _, Nat.zero_le _⟩ 1 ⟨rfl, by decide +kernel⟩ rfl [true, true, true, true, true, true, true, true, true, true, true, true, true, true, true, true, true, true, true, true, true] rfl rfl 0 rfl rfl rfl (Nat.le_of_ble_eq_true rfl) rfl dX7_tick_18 (fun H locs w => ?_)
    have hk1 : k = 1 := by omega
    subst hk1
    exact kret _ _ _ _ _ dX7_tick_21 w rfl

set_option maxHeartbeats 4000000 in
set_option maxRecDepth 100000 in
/-- skip -/
theorem m_skip (l : Launch) (D : va_G) (cI cZ cJ : ClassId) (b : Nat → Nat) (ν : Nat → Int → Int) (h22 : 0 ≤ ν 22 0 ∧ ν 22 0 < 8) (h14 : 0 ≤ ν 14 0 ∧ ν 14 0 ≤ 8) (hok : ν 21 0 = 1) : Ci l D (tY cI cZ cJ) yX7_skip wsX7_skip rmX7_skip [.ref (b 0)] (WMod cI cZ b ν) (if ν 22 0 + 1 < ν 14 0 then ν 22 0 + 1 else -1) (WMod cI cZ b (mset (mset (mset (mset (mset ν 0 (fun _ => 0)) 21 (fun _ => (if ν 22 0 + 1 < ν 14 0 then 1 else 0))) 22 (fun _ => ν 22 0 + 1)) 23 (fun _ => ν 18 (ν 22 0 + 1))) 24 (fun _ => 0))) := by
  refine qi_of (by decide +kernel) rfl (Nat.le_of_ble_eq_true rfl) ?_
  intro zp ze zs zm zargs zbelow zmeth zc A Q ls M hA w hl kret
  have hl : lv_has ls 1 [(0, .ref (b 0))] := hl
  have in7 : ∀ w ∈ u_ws RX7 TX7 31, w ∈ wsX7_skip := by decide +kernel
  refine q_aln M dX7_skip_0 (lv_at hl 0 rfl) ?_
  refine q_ic M dX7_skip_1 ?_
  refine q_put (ws2 := WMod cI cZ b (mset ν 0 (fun _ => 0))) M w in7 0 0 tyX7 tyX7_ok nmX7 rfl rfl (by decide) (by decide +kernel) rfl rfl rfl rfl (Nat.le_of_ble_eq_true rfl) rfl dX7_skip_2 (fun H locs w => ?_)
  refine q_aln M dX7_skip_5 (lv_at hl 0 rfl) ?_
  refine q_get (v := .int (iI (ν 21 0))) M w in7 0 21 rfl rfl (by decide) (by decide +kernel) rfl rfl dX7_skip_6 ?_
  refine q_if_ne (tgt := 18) M dX7_skip_9 (by decide) (by omega) (fun c9 => ?_) (fun c9 => ?_)
  · refine q_aln M dX7_skip_18 (lv_at hl 0 rfl) ?_
    refine q_dup M dX7_skip_19 rfl ?_
    refine q_get (v := .int (iI (ν 22 0))) M w in7 0 22 rfl rfl (by decide) (by decide +kernel) rfl rfl dX7_skip_20 ?_
    refine q_ic M dX7_skip_23 ?_
    refine q_add M dX7_skip_24 ?_
    refine q_put (ws2 := WMod cI cZ b (mset (mset ν 0 (fun _ => 0)) 22 (fun _ => (ν 22 0) + 1))) M w in7 0 22 tyX7 tyX7_ok nmX7 rfl rfl (by decide) (by decide +kernel) rfl rfl rfl rfl (Nat.le_of_ble_eq_true rfl) rfl dX7_skip_25 (fun H locs w => ?_)
    refine q_aln M dX7_skip_28 (lv_at hl 0 rfl) ?_
    refine q_aln M dX7_skip_29 (lv_at hl 0 rfl) ?_
    refine q_get (v := .ref (b 18)) M w in7 0 18 rfl rfl (by decide) (by decide +kernel) rfl rfl dX7_skip_30 ?_
    refine q_aln M dX7_skip_33 (lv_at hl 0 rfl) ?_
    refine q_get (v := .int (iI ((ν 22 0) + 1))) M w in7 0 22 rfl rfl (by decide) (by decide +kernel) rfl rfl dX7_skip_34 ?_
    refine q_iald (f := ν 18) M w 17 0 rfl rfl (by omega) dX7_skip_37 ?_
    refine q_put (ws2 := WMod cI cZ b (mset (mset (mset ν 0 (fun _ => 0)) 22 (fun _ => (ν 22 0) + 1)) 23 (fun _ => (ν 18) ((ν 22 0) + 1)))) M w in7 0 23 tyX7 tyX7_ok nmX7 rfl rfl (by decide) (by decide +kernel) rfl rfl rfl rfl (Nat.le_of_ble_eq_true rfl) rfl dX7_skip_38 (fun H locs w => ?_)
    refine q_aln M dX7_skip_41 (lv_at hl 0 rfl) ?_
    refine q_ic M dX7_skip_42 ?_
    refine q_put (ws2 := WMod cI cZ b (mset (mset (mset (mset ν 0 (fun _ => 0)) 22 (fun _ => (ν 22 0) + 1)) 23 (fun _ => (ν 18) ((ν 22 0) + 1))) 24 (fun _ => 0))) M w in7 0 24 tyX7 tyX7_ok nmX7 rfl rfl (by decide) (by decide +kernel) rfl rfl rfl rfl (Nat.le_of_ble_eq_true rfl) rfl dX7_skip_43 (fun H locs w => ?_)
    refine q_aln M dX7_skip_46 (lv_at hl 0 rfl) ?_
    refine q_aln M dX7_skip_47 (lv_at hl 0 rfl) ?_
    refine q_get (v := .int (iI ((ν 22 0) + 1))) M w in7 0 22 rfl rfl (by decide) (by decide +kernel) rfl rfl dX7_skip_48 ?_
    refine q_aln M dX7_skip_51 (lv_at hl 0 rfl) ?_
    refine q_get (v := .int (iI (ν 14 0))) M w in7 0 14 rfl rfl (by decide) (by decide +kernel) rfl rfl dX7_skip_52 ?_
    refine q_icmp_ge (tgt := 62) M dX7_skip_55 (by decide) (by omega) (fun c55 => ?_) (fun c55 => ?_)
    · refine q_ic M dX7_skip_62 ?_
      refine q_put (ws2 := WMod cI cZ b (mset (mset (mset (mset (mset ν 0 (fun _ => 0)) 21 (fun _ => 0)) 22 (fun _ => (ν 22 0) + 1)) 23 (fun _ => (ν 18) ((ν 22 0) + 1))) 24 (fun _ => 0))) M w in7 0 21 tyX7 tyX7_ok nmX7 rfl rfl (by decide) (by decide +kernel) rfl rfl (q_nz2 (by omega)) (q_fz (by omega)) (Nat.le_of_ble_eq_true rfl) rfl dX7_skip_63 (fun H locs w => ?_)
      refine q_aln M dX7_skip_66 (lv_at hl 0 rfl) ?_
      refine q_get (v := .int (iI 0)) M w in7 0 21 rfl rfl (by decide) (by decide +kernel) rfl rfl dX7_skip_67 ?_
      refine q_if_eq (tgt := 80) M dX7_skip_70 (by decide) (by omega) (fun c70 => ?_) (fun c70 => ?_)
      · refine q_ic M dX7_skip_80 ?_
        have e : (if ν 22 0 + 1 < ν 14 0 then (1 : Int) else 0) = 0 := if_neg (by omega)
        have w : wW D A zs.heap (WMod cI cZ b (mset (mset (mset (mset (mset ν 0 (fun _ => 0)) 21 (fun _ => (if ν 22 0 + 1 < ν 14 0 then 1 else 0))) 22 (fun _ => ν 22 0 + 1)) 23 (fun _ => ν 18 (ν 22 0 + 1))) 24 (fun _ => 0))) H locs := by rw [e]; exact w
        exact kret _ _ _ _ _ dX7_skip_81 w (by exact (if_neg (by omega)).symm)
      · exfalso; omega
    · refine q_ic M dX7_skip_58 ?_
      refine q_go (tgt := 63) M dX7_skip_59 (by decide) ?_
      refine q_put (ws2 := WMod cI cZ b (mset (mset (mset (mset (mset ν 0 (fun _ => 0)) 21 (fun _ => 1)) 22 (fun _ => (ν 22 0) + 1)) 23 (fun _ => (ν 18) ((ν 22 0) + 1))) 24 (fun _ => 0))) M w in7 0 21 tyX7 tyX7_ok nmX7 rfl rfl (by decide) (by decide +kernel) rfl rfl (q_nz2 (by omega)) (q_fz (by omega)) (Nat.le_of_ble_eq_true rfl) rfl dX7_skip_63 (fun H locs w => ?_)
      refine q_aln M dX7_skip_66 (lv_at hl 0 rfl) ?_
      refine q_get (v := .int (iI 1)) M w in7 0 21 rfl rfl (by decide) (by decide +kernel) rfl rfl dX7_skip_67 ?_
      refine q_if_eq (tgt := 80) M dX7_skip_70 (by decide) (by omega) (fun c70 => ?_) (fun c70 => ?_)
      · exfalso; omega
      · refine q_aln M dX7_skip_73 (lv_at hl 0 rfl) ?_
        refine q_get (v := .int (iI ((ν 22 0) + 1))) M w in7 0 22 rfl rfl (by decide) (by decide +kernel) rfl rfl dX7_skip_74 ?_
        refine q_go (tgt := 81) M dX7_skip_77 (by decide) ?_
        have e : (if ν 22 0 + 1 < ν 14 0 then (1 : Int) else 0) = 1 := if_pos (by omega)
        have w : wW D A zs.heap (WMod cI cZ b (mset (mset (mset (mset (mset ν 0 (fun _ => 0)) 21 (fun _ => (if ν 22 0 + 1 < ν 14 0 then 1 else 0))) 22 (fun _ => ν 22 0 + 1)) 23 (fun _ => ν 18 (ν 22 0 + 1))) 24 (fun _ => 0))) H locs := by rw [e]; exact w
        exact kret _ _ _ _ _ dX7_skip_81 w (by exact (if_pos (by omega)).symm)
  · exfalso; omega

set_option maxHeartbeats 4000000 in
set_option maxRecDepth 100000 in
/-- skip -/
theorem m_skip_x (l : Launch) (D : va_G) (cI cZ cJ : ClassId) (b : Nat → Nat) (ν : Nat → Int → Int) (hk : ν 21 0 = 0) : Ci l D (tY cI cZ cJ) yX7_skip wsX7_skip rmX7_skip [.ref (b 0)] (WMod cI cZ b ν) (0) (WMod cI cZ b (mset ν 0 (fun _ => 1))) := by
  refine qi_of (by decide +kernel) rfl (Nat.le_of_ble_eq_true rfl) ?_
  intro zp ze zs zm zargs zbelow zmeth zc A Q ls M hA w hl kret
  have hl : lv_has ls 1 [(0, .ref (b 0))] := hl
  have in7 : ∀ w ∈ u_ws RX7 TX7 31, w ∈ wsX7_skip := by decide +kernel
  refine q_aln M dX7_skip_0 (lv_at hl 0 rfl) ?_
  refine q_ic M dX7_skip_1 ?_
  refine q_put (ws2 := WMod cI cZ b (mset ν 0 (fun _ => 0))) M w in7 0 0 tyX7 tyX7_ok nmX7 rfl rfl (by decide) (by decide +kernel) rfl rfl rfl rfl (Nat.le_of_ble_eq_true rfl) rfl dX7_skip_2 (fun H locs w => ?_)
  refine q_aln M dX7_skip_5 (lv_at hl 0 rfl) ?_
  refine q_get (v := .int (iI (ν 21 0))) M w in7 0 21 rfl rfl (by decide) (by decide +kernel) rfl rfl dX7_skip_6 ?_
  refine q_if_ne (tgt := 18) M dX7_skip_9 (by decide) (by omega) (fun c9 => ?_) (fun c9 => ?_)
  · exfalso; omega
  · refine q_aln M dX7_skip_12 (lv_at hl 0 rfl) ?_
    refine q_ic M dX7_skip_13 ?_
    refine qc_iV (As := [.int (iI 1)]) (rest := []) (wc := WMod cI cZ b (mset ν 0 (fun _ => 0))) (wc2 := WMod cI cZ b (mset ν 0 (fun _ => 1))) (ws2 := WMod cI cZ b (mset ν 0 (fun _ => 1))) M w hA hl (m_fails l D cI cZ cJ b (mset ν 0 (fun _ => 0)) 1 ) gX7_skip_X7_fails rfl ⟨rfl, rfl, by decide, by decide⟩ ⟨Nat.zero_le _, Nat.zero_le _⟩ 1 ⟨rfl, by decide +kernel⟩ rfl [true, true, true, true, true, true, true, true, true, true, true, true, true, true, true, true, true, true, true, true, true] rfl rfl 0 rfl rfl rfl (Nat.le_of_ble_eq_true rfl) rfl dX7_skip_14 (fun H locs w => ?_)
    exact kret _ _ _ _ _ dX7_skip_17 w rfl

set_option maxHeartbeats 4000000 in
set_option maxRecDepth 100000 in
/-- nextUse -/
theorem m_nextUse (l : Launch) (D : va_G) (cI cZ cJ : ClassId) (b : Nat → Nat) (ν : Nat → Int → Int) (s : Int) (hs : -2147483648 ≤ s ∧ s < 2147483648) (h21 : ν 21 0 = 0 ∨ ν 21 0 = 1) (hN : ν 21 0 = 1 → NX ν) (hok : 0 ≤ s ∧ s ≤ 7) : Ci l D (tY cI cZ cJ) yX7_nextUse wsX7_nextUse rmX7_nextUse [.ref (b 0), .int (iI s)] (WMod cI cZ b ν) (if ν 21 0 = 1 then nF ν s else -1) (WMod cI cZ b (mset ν 0 (fun _ => 0))) := by
  refine qi_of (by decide +kernel) rfl (Nat.le_of_ble_eq_true rfl) ?_
  intro zp ze zs zm zargs zbelow zmeth zc A Q ls M hA w hl kret
  have hl : lv_has ls 2 [(0, .ref (b 0)), (1, .int (iI s))] := hl
  have in7 : ∀ w ∈ u_ws RX7 TX7 31, w ∈ wsX7_nextUse := by decide +kernel
  refine q_aln M dX7_nextUse_0 (lv_at hl 0 rfl) ?_
  refine q_ic M dX7_nextUse_1 ?_
  refine q_put (ws2 := WMod cI cZ b (mset ν 0 (fun _ => 0))) M w in7 0 0 tyX7 tyX7_ok nmX7 rfl rfl (by decide) (by decide +kernel) rfl rfl rfl rfl (Nat.le_of_ble_eq_true rfl) rfl dX7_nextUse_2 (fun H locs w => ?_)
  refine q_iln M dX7_nextUse_5 (lv_at hl 1 rfl) ?_
  refine qc_iS (As := [.int (iI s)]) (rest := []) (wc := []) (wc2 := []) (ws2 := WMod cI cZ b (mset ν 0 (fun _ => 0))) M w hA hl (m_isSample l D cI cZ cJ s (by omega)) gX7_nextUse_X7_isSample rfl ⟨rfl, rfl, by decide, by decide⟩ ⟨Nat.zero_le _, Nat.zero_le _⟩ 1 (by decide +kernel) rfl [] rfl rfl rfl (Nat.le_of_ble_eq_true rfl) rfl dX7_nextUse_6 (fun H locs w => ?_)
  have q6 := inF_c s 0 7
  refine q_if_ne (tgt := 18) M dX7_nextUse_9 (by decide) (by omega) (fun c9 => ?_) (fun c9 => ?_)
  · refine q_aln M dX7_nextUse_18 (lv_at hl 0 rfl) ?_
    refine q_get (v := .int (iI (ν 21 0))) M w in7 0 21 rfl rfl (by decide) (by decide +kernel) rfl rfl dX7_nextUse_19 ?_
    refine q_if_eq (tgt := 33) M dX7_nextUse_22 (by decide) (by omega) (fun c22 => ?_) (fun c22 => ?_)
    · refine q_ic M dX7_nextUse_33 ?_
      exact kret _ _ _ _ _ dX7_nextUse_34 w (by exact (if_neg (by omega)).symm)
    · refine q_aln M dX7_nextUse_25 (lv_at hl 0 rfl) ?_
      refine q_iln M dX7_nextUse_26 (lv_at hl 1 rfl) ?_
      refine qc_iV (As := [.int (iI s)]) (rest := []) (wc := WMod cI cZ b (mset ν 0 (fun _ => 0))) (wc2 := WMod cI cZ b (mset ν 0 (fun _ => 0))) (ws2 := WMod cI cZ b (mset ν 0 (fun _ => 0))) M w hA hl (m_next l D cI cZ cJ b (mset ν 0 (fun _ => 0)) s (by omega) (hN (by omega))) gX7_nextUse_X7_next rfl ⟨rfl, rfl, by decide, by decide⟩ ⟨Nat.zero_le _, Nat.zero_le _⟩ 1 ⟨rfl, by decide +kernel⟩ rfl [true, true, true, true, true, true, true, true, true, true, true, true, true, true, true, true, true, true, true, true, true] rfl rfl 0 rfl rfl rfl (Nat.le_of_ble_eq_true rfl) rfl dX7_nextUse_27 (fun H locs w => ?_)
      refine q_top (y := nF ν s) (by exact congrFun (nF_congr rfl rfl rfl rfl rfl rfl rfl rfl rfl) s) ?_
      refine q_go (tgt := 34) M dX7_nextUse_30 (by decide) ?_
      exact kret _ _ _ _ _ dX7_nextUse_34 w (by exact (if_pos (by omega)).symm)
  · exfalso; omega

set_option maxHeartbeats 4000000 in
set_option maxRecDepth 100000 in
/-- nextUse -/
theorem m_nextUse_x (l : Launch) (D : va_G) (cI cZ cJ : ClassId) (b : Nat → Nat) (ν : Nat → Int → Int) (s : Int) (hs : -2147483648 ≤ s ∧ s < 2147483648) (k : Int) (hk : ¬ (0 ≤ s ∧ s ≤ 7) ∧ k = 1) : Ci l D (tY cI cZ cJ) yX7_nextUse wsX7_nextUse rmX7_nextUse [.ref (b 0), .int (iI s)] (WMod cI cZ b ν) (0) (WMod cI cZ b (mset ν 0 (fun _ => k))) := by
  refine qi_of (by decide +kernel) rfl (Nat.le_of_ble_eq_true rfl) ?_
  intro zp ze zs zm zargs zbelow zmeth zc A Q ls M hA w hl kret
  have hl : lv_has ls 2 [(0, .ref (b 0)), (1, .int (iI s))] := hl
  have in7 : ∀ w ∈ u_ws RX7 TX7 31, w ∈ wsX7_nextUse := by decide +kernel
  refine q_aln M dX7_nextUse_0 (lv_at hl 0 rfl) ?_
  refine q_ic M dX7_nextUse_1 ?_
  refine q_put (ws2 := WMod cI cZ b (mset ν 0 (fun _ => 0))) M w in7 0 0 tyX7 tyX7_ok nmX7 rfl rfl (by decide) (by decide +kernel) rfl rfl rfl rfl (Nat.le_of_ble_eq_true rfl) rfl dX7_nextUse_2 (fun H locs w => ?_)
  refine q_iln M dX7_nextUse_5 (lv_at hl 1 rfl) ?_
  refine qc_iS (As := [.int (iI s)]) (rest := []) (wc := []) (wc2 := []) (ws2 := WMod cI cZ b (mset ν 0 (fun _ => 0))) M w hA hl (m_isSample l D cI cZ cJ s (by omega)) gX7_nextUse_X7_isSample rfl ⟨rfl, rfl, by decide, by decide⟩ ⟨Nat.zero_le _, Nat.zero_le _⟩ 1 (by decide +kernel) rfl [] rfl rfl rfl (Nat.le_of_ble_eq_true rfl) rfl dX7_nextUse_6 (fun H locs w => ?_)
  have q6 := inF_c s 0 7
  refine q_if_ne (tgt := 18) M dX7_nextUse_9 (by decide) (by omega) (fun c9 => ?_) (fun c9 => ?_)
  · exfalso; omega
  · refine q_aln M dX7_nextUse_12 (lv_at hl 0 rfl) ?_
    refine q_ic M dX7_nextUse_13 ?_
    refine qc_iV (As := [.int (iI 1)]) (rest := []) (wc := WMod cI cZ b (mset ν 0 (fun _ => 0))) (wc2 := WMod cI cZ b (mset ν 0 (fun _ => 1))) (ws2 := WMod cI cZ b (mset ν 0 (fun _ => 1))) M w hA hl (m_fails l D cI cZ cJ b (mset ν 0 (fun _ => 0)) 1 ) gX7_nextUse_X7_fails rfl ⟨rfl, rfl, by decide, by decide⟩ ⟨Nat.zero_le _, Nat.zero_le _⟩ 1 ⟨rfl, by decide +kernel⟩ rfl [true, true, true, true, true, true, true, true, true, true, true, true, true, true, true, true, true, true, true, true, true] rfl rfl 0 rfl rfl rfl (Nat.le_of_ble_eq_true rfl) rfl dX7_nextUse_14 (fun H locs w => ?_)
    have hk1 : k = 1 := by omega
    subst hk1
    exact kret _ _ _ _ _ dX7_nextUse_17 w rfl
