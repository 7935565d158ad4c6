set_option maxHeartbeats 4000000 in
set_option maxRecDepth 100000 in
/-- Lookahead.noteBar -/
theorem k_noteBar (l : Launch) (D : va_G) (cI cZ cJ : ClassId) (a : Nat → Nat) (μ : Nat → Int → Int) (U g : Int → Int) (c f : Int) (hI : IP μ) (hc : 0 ≤ c ∧ c < 120) : Cv l D (tY cI cZ cJ) yX0_noteBar wsX0_noteBar rmX0_noteBar [.ref (a 4), .int (iI c), .int (iI f)] (WLok cI a μ U g) (WLok cI a μ U (nBr μ c f g 16)) := by
  refine qv_of (by decide +kernel) rfl (Nat.le_of_ble_eq_true rfl) ?_
  intro zp ze zs zm zargs zbelow zmeth zc A Q ls M hA w hl kret
  have hl : lv_has ls 4 [(0, .ref (a 4)), (1, .int (iI c)), (2, .int (iI f))] := hl
  have in0 : ∀ w ∈ u_ws RX0 TX0 3, w ∈ wsX0_noteBar := by decide +kernel
  refine q_bp M dX0_noteBar_0 (by decide +kernel) ?_
  refine q_isn (lv' := [(3, .int (iI 15)), (0, .ref (a 4)), (1, .int (iI c)), (2, .int (iI f))]) M dX0_noteBar_2 rfl hl (by decide) rfl (fun ls hl => ?_)
  have lp3 : ∀ (n3 : Nat) (x : Int), (-1 ≤ x ∧ x ≤ 15) → (x + 1 : Int) < (n3 : Int) → ∀ (H : Heap) (locs : List Loc) (ls : Array Slot), wW D A zs.heap (WLok cI a μ U (nBr μ c f g (15 - x))) H locs → lv_has ls 4 [(0, .ref (a 4)), (1, .int (iI c)), (2, .int (iI f)), (3, .int (iI x))] → W zp l ze rmX0_noteBar zs zm zargs zbelow zmeth zc H locs 0 0 Q (F0 zm 3 ls []) := by
    intro n3
    induction n3 with
    | zero => intro x hj hm H locs ls w hl; exfalso; omega
    | succ n3 ih3 =>
      intro x hj hm3 H locs ls w hl
      refine q_iln M dX0_noteBar_3 (lv_at hl 3 rfl) ?_
      refine q_if_lt (tgt := 30) M dX0_noteBar_4 (by decide) (by omega) (fun c4 => ?_) (fun c4 => ?_)
      · rw [show 15 - x = 16 by omega] at w
        exact kret _ _ _ _ dX0_noteBar_30 w
      · refine q_aln M dX0_noteBar_7 (lv_at hl 0 rfl) ?_
        refine q_iln M dX0_noteBar_8 (lv_at hl 1 rfl) ?_
        refine q_iln M dX0_noteBar_9 (lv_at hl 3 rfl) ?_
        refine q_iln M dX0_noteBar_10 (lv_at hl 2 rfl) ?_
        refine q_aln M dX0_noteBar_11 (lv_at hl 0 rfl) ?_
        refine q_get (v := .ref (a 1)) M w in0 15 0 rfl rfl (by decide) (by decide +kernel) rfl rfl dX0_noteBar_12 ?_
        refine q_iln M dX0_noteBar_15 (lv_at hl 1 rfl) ?_
        refine q_iln M dX0_noteBar_16 (lv_at hl 3 rfl) ?_
        refine qc_iV (As := [.int (iI c), .int (iI x)]) (rest := [.int (iI f), .int (iI x), .int (iI c), .ref (a 4)]) (wc := WPat cI a μ) (wc2 := WPat cI a μ) (ws2 := WLok cI a μ U (nBr μ c f g (15 - x))) M w hA hl (k_tickOf l D cI cZ cJ a μ c x hI (by omega)) gX0_noteBar_X2_tickOf rfl ⟨rfl, rfl, by decide, by decide⟩ ⟨Nat.zero_le _, Nat.zero_le _⟩ 2 ⟨rfl, by decide +kernel⟩ rfl [true, true, true, true, true, true, true, true, true, true, true, true, true, true, true] rfl rfl 2 rfl rfl rfl (Nat.le_of_ble_eq_true rfl) rfl dX0_noteBar_17 (fun H locs w => ?_)
        refine q_add M dX0_noteBar_20 ?_
        refine qc_vV (As := [.int (iI c), .int (iI x), .int (iI (f + (tOf μ c x)))]) (rest := []) (wc := WLok cI a μ U (nBr μ c f g (15 - x))) (wc2 := WLok cI a μ U (nSt μ c x (f + (tOf μ c x)) (nBr μ c f g (15 - x)) 4)) (ws2 := WLok cI a μ U (nSt μ c x (f + (tOf μ c x)) (nBr μ c f g (15 - x)) 4)) M w hA hl (k_noteStep l D cI cZ cJ a μ U (nBr μ c f g (15 - x)) c x (f + (tOf μ c x)) hI (by omega)) gX0_noteBar_X0_noteStep rfl ⟨rfl, rfl, by decide, by decide⟩ ⟨Nat.zero_le _, Nat.zero_le _⟩ 3 ⟨rfl, by decide +kernel⟩ rfl [true, true, true, true, true, true, true, true, true, true, true, true, true, true, true, true, true, true, true, true] rfl rfl 15 rfl rfl rfl (Nat.le_of_ble_eq_true rfl) rfl dX0_noteBar_21 (fun H locs w => ?_)
        have ew : nSt μ c x (f + (tOf μ c x)) (nBr μ c f g (15 - x)) 4 = nBr μ c f g (15 - x + 1) := by unfold nBr; rw [itI_s _ _ (by omega), show 15 - (15 - x) = x by omega]
        have w : wW D A zs.heap (WLok cI a μ U (nBr μ c f g (15 - x + 1))) H locs := by rw [← ew]; exact w
        refine q_inc (z := x) (lv' := [(3, .int (iI (x + (-1)))), (0, .ref (a 4)), (1, .int (iI c)), (2, .int (iI f))]) M dX0_noteBar_24 hl (k := 3) rfl (by decide) rfl (fun ls hl => ?_)
        refine q_go (tgt := 3) M dX0_noteBar_27 (by decide) ?_
        rw [show 15 - x + 1 = 15 - (x + (-1)) by omega] at w
        exact ih3 (x + (-1)) (by omega) (by omega) _ _ _ w (lv_sub hl [1, 2, 3, 0] rfl)
  have ew : g = nBr μ c f g (15 - 15) := by unfold nBr; rw [show (15 : Int) - 15 = 0 from rfl, itI_0]
  have w : wW D A zs.heap (WLok cI a μ U (nBr μ c f g (15 - 15))) zs.heap [] := by rw [← ew]; exact w
  exact lp3 17 15 (by omega) (by omega) _ _ _ w (lv_sub hl [1, 2, 3, 0] rfl)
