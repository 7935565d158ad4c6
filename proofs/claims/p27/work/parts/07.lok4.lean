set_option maxHeartbeats 4000000 in
set_option maxRecDepth 100000 in
/-- Lookahead.noteDueBar -/
theorem k_noteDueBar (l : Launch) (D : va_G) (cI cZ cJ : ClassId) (a : Nat → Nat) (μ : Nat → Int → Int) (U g : Int → Int) (c : Int) (hI : IP μ) (hc : 0 ≤ c ∧ c < 120) (hC : ∀ i, 0 ≤ g i ∧ g i ≤ 768) : Cv l D (tY cI cZ cJ) yX0_noteDueBar wsX0_noteDueBar rmX0_noteDueBar [.ref (a 4), .int (iI c)] (WLok cI a μ U g) (WLok cI a μ ((nDu μ c (U, g) 192).1) ((nDu μ c (U, g) 192).2)) := by
  refine qv_of (by decide +kernel) rfl (Nat.le_of_ble_eq_true rfl) ?_
  intro zp ze zs zm zargs zbelow zmeth zc A Q ls M hA w hl kret
  have hl : lv_has ls 4 [(0, .ref (a 4)), (1, .int (iI c))] := hl
  have in0 : ∀ w ∈ u_ws RX0 TX0 3, w ∈ wsX0_noteDueBar := by decide +kernel
  refine q_sp M dX0_noteDueBar_0 (by decide +kernel) ?_
  refine q_isn (lv' := [(2, .int (iI 191)), (0, .ref (a 4)), (1, .int (iI c))]) M dX0_noteDueBar_3 rfl hl (by decide) rfl (fun ls hl => ?_)
  have lp4 : ∀ (n4 : Nat) (x : Int), (-1 ≤ x ∧ x ≤ 191) → (x + 1 : Int) < (n4 : Int) → ∀ (H : Heap) (locs : List Loc) (ls : Array Slot), wW D A zs.heap (WLok cI a μ ((nDu μ c (U, g) (191 - x)).1) ((nDu μ c (U, g) (191 - x)).2)) H locs → lv_has ls 4 [(0, .ref (a 4)), (1, .int (iI c)), (2, .int (iI x))] → W zp l ze rmX0_noteDueBar zs zm zargs zbelow zmeth zc H locs 0 0 Q (F0 zm 4 ls []) := by
    intro n4
    induction n4 with
    | zero => intro x hj hm H locs ls w hl; exfalso; omega
    | succ n4 ih4 =>
      intro x hj hm4 H locs ls w hl
      refine q_iln M dX0_noteDueBar_4 (lv_at hl 2 rfl) ?_
      refine q_if_lt (tgt := 41) M dX0_noteDueBar_5 (by decide) (by omega) (fun c5 => ?_) (fun c5 => ?_)
      · rw [show 191 - x = 192 by omega] at w
        exact kret _ _ _ _ dX0_noteDueBar_41 w
      · refine q_aln M dX0_noteDueBar_8 (lv_at hl 0 rfl) ?_
        refine q_iln M dX0_noteDueBar_9 (lv_at hl 2 rfl) ?_
        refine qc_vV (As := [.int (iI x)]) (rest := []) (wc := WLk0 cI a μ ((nDu μ c (U, g) (191 - x)).1) ((nDu μ c (U, g) (191 - x)).2)) (wc2 := WLk0 cI a μ (kp ((nDu μ c (U, g) (191 - x)).2) x ((nDu μ c (U, g) (191 - x)).1)) ((nDu μ c (U, g) (191 - x)).2)) (ws2 := WLok cI a μ (kp ((nDu μ c (U, g) (191 - x)).2) x ((nDu μ c (U, g) (191 - x)).1)) ((nDu μ c (U, g) (191 - x)).2)) M w hA hl (k_keepUses l D cI cZ cJ a μ ((nDu μ c (U, g) (191 - x)).1) ((nDu μ c (U, g) (191 - x)).2) x (by omega) (nDu_bd (u := (U, g)) hC (by omega))) gX0_noteDueBar_X0_keepUses rfl ⟨rfl, rfl, by decide, by decide⟩ ⟨Nat.zero_le _, Nat.zero_le _⟩ 1 ⟨rfl, by decide +kernel⟩ rfl [false, false, false, false, false, false, false, false, false, false, false, false, false, false, false, true, true, true, true, true] rfl rfl 15 rfl rfl rfl (Nat.le_of_ble_eq_true rfl) rfl dX0_noteDueBar_10 (fun H locs w => ?_)
        refine q_aln M dX0_noteDueBar_13 (lv_at hl 0 rfl) ?_
        refine q_get (v := .ref (a 1)) M w in0 15 0 rfl rfl (by decide) (by decide +kernel) rfl rfl dX0_noteDueBar_14 ?_
        refine q_iln M dX0_noteDueBar_17 (lv_at hl 1 rfl) ?_
        refine q_iln M dX0_noteDueBar_18 (lv_at hl 2 rfl) ?_
        refine qc_iV (As := [.int (iI c), .int (iI x)]) (rest := []) (wc := WPat cI a μ) (wc2 := WPat cI a μ) (ws2 := WLok cI a μ (kp ((nDu μ c (U, g) (191 - x)).2) x ((nDu μ c (U, g) (191 - x)).1)) ((nDu μ c (U, g) (191 - x)).2)) M w hA hl (k_stepAt l D cI cZ cJ a μ c x hI (by omega)) gX0_noteDueBar_X2_stepAt rfl ⟨rfl, rfl, by decide, by decide⟩ ⟨Nat.zero_le _, Nat.zero_le _⟩ 2 ⟨rfl, by decide +kernel⟩ rfl [true, true, true, true, true, true, true, true, true, true, true, true, true, true, true] rfl rfl 2 rfl rfl rfl (Nat.le_of_ble_eq_true rfl) rfl dX0_noteDueBar_19 (fun H locs w => ?_)
        have q4 := sTa_cs μ c x
        refine q_isn (lv' := [(3, .int (iI (sTa μ c x))), (0, .ref (a 4)), (1, .int (iI c)), (2, .int (iI x))]) M dX0_noteDueBar_22 rfl hl (by decide) rfl (fun ls hl => ?_)
        refine q_iln M dX0_noteDueBar_23 (lv_at hl 0 rfl) ?_
        refine q_ic M dX0_noteDueBar_24 ?_
        refine q_icmp_eq (tgt := 35) M dX0_noteDueBar_25 (by decide) (by omega) (fun c25 => ?_) (fun c25 => ?_)
        · have ed := itI_s (fun i h => (kp h.2 (191 - i) h.1, if sTa μ c (191 - i) = -1 then h.2 else nSt μ c (sTa μ c (191 - i)) (191 - i) h.2 4)) (U, g) (i := 191 - x) (by omega)
          rw [show 191 - (191 - x) = x by omega] at ed
          have e1 : kp ((nDu μ c (U, g) (191 - x)).2) x ((nDu μ c (U, g) (191 - x)).1) = (nDu μ c (U, g) (191 - x + 1)).1 := (congrArg Prod.fst ed).symm
          have e2 : (nDu μ c (U, g) (191 - x)).2 = (nDu μ c (U, g) (191 - x + 1)).2 := by refine Eq.trans ?_ (congrArg Prod.snd ed).symm; dsimp only; simp [c25]; try rfl
          have w : wW D A zs.heap (WLok cI a μ ((nDu μ c (U, g) (191 - x + 1)).1) ((nDu μ c (U, g) (191 - x + 1)).2)) H locs := by rw [← e1, ← e2]; exact w
          refine q_inc (z := x) (lv' := [(2, .int (iI (x + (-1)))), (3, .int (iI (sTa μ c x))), (0, .ref (a 4)), (1, .int (iI c))]) M dX0_noteDueBar_35 hl (k := 3) rfl (by decide) rfl (fun ls hl => ?_)
          refine q_go (tgt := 4) M dX0_noteDueBar_38 (by decide) ?_
          rw [show 191 - x + 1 = 191 - (x + (-1)) by omega] at w
          exact ih4 (x + (-1)) (by omega) (by omega) _ _ _ w (lv_sub hl [2, 3, 0] rfl)
        · refine q_aln M dX0_noteDueBar_28 (lv_at hl 1 rfl) ?_
          refine q_iln M dX0_noteDueBar_29 (lv_at hl 2 rfl) ?_
          refine q_iln M dX0_noteDueBar_30 (lv_at hl 0 rfl) ?_
          refine q_iln M dX0_noteDueBar_31 (lv_at hl 3 rfl) ?_
          refine qc_vV (As := [.int (iI c), .int (iI (sTa μ c x)), .int (iI x)]) (rest := []) (wc := WLok cI a μ (kp ((nDu μ c (U, g) (191 - x)).2) x ((nDu μ c (U, g) (191 - x)).1)) ((nDu μ c (U, g) (191 - x)).2)) (wc2 := WLok cI a μ (kp ((nDu μ c (U, g) (191 - x)).2) x ((nDu μ c (U, g) (191 - x)).1)) (nSt μ c (sTa μ c x) x ((nDu μ c (U, g) (191 - x)).2) 4)) (ws2 := WLok cI a μ (kp ((nDu μ c (U, g) (191 - x)).2) x ((nDu μ c (U, g) (191 - x)).1)) (nSt μ c (sTa μ c x) x ((nDu μ c (U, g) (191 - x)).2) 4)) M w hA hl (k_noteStep l D cI cZ cJ a μ (kp ((nDu μ c (U, g) (191 - x)).2) x ((nDu μ c (U, g) (191 - x)).1)) ((nDu μ c (U, g) (191 - x)).2) c (sTa μ c x) x hI (by omega)) gX0_noteDueBar_X0_noteStep rfl ⟨rfl, rfl, by decide, by decide⟩ ⟨Nat.zero_le _, Nat.zero_le _⟩ 3 ⟨rfl, by decide +kernel⟩ rfl [true, true, true, true, true, true, true, true, true, true, true, true, true, true, true, true, true, true, true, true] rfl rfl 15 rfl rfl rfl (Nat.le_of_ble_eq_true rfl) rfl dX0_noteDueBar_32 (fun H locs w => ?_)
          have ed := itI_s (fun i h => (kp h.2 (191 - i) h.1, if sTa μ c (191 - i) = -1 then h.2 else nSt μ c (sTa μ c (191 - i)) (191 - i) h.2 4)) (U, g) (i := 191 - x) (by omega)
          rw [show 191 - (191 - x) = x by omega] at ed
          have e1 : kp ((nDu μ c (U, g) (191 - x)).2) x ((nDu μ c (U, g) (191 - x)).1) = (nDu μ c (U, g) (191 - x + 1)).1 := (congrArg Prod.fst ed).symm
          have e2 : nSt μ c (sTa μ c x) x ((nDu μ c (U, g) (191 - x)).2) 4 = (nDu μ c (U, g) (191 - x + 1)).2 := by refine Eq.trans ?_ (congrArg Prod.snd ed).symm; dsimp only; simp [c25]; try rfl
          have w : wW D A zs.heap (WLok cI a μ ((nDu μ c (U, g) (191 - x + 1)).1) ((nDu μ c (U, g) (191 - x + 1)).2)) H locs := by rw [← e1, ← e2]; exact w
          refine q_inc (z := x) (lv' := [(2, .int (iI (x + (-1)))), (3, .int (iI (sTa μ c x))), (0, .ref (a 4)), (1, .int (iI c))]) M dX0_noteDueBar_35 hl (k := 3) rfl (by decide) rfl (fun ls hl => ?_)
          refine q_go (tgt := 4) M dX0_noteDueBar_38 (by decide) ?_
          rw [show 191 - x + 1 = 191 - (x + (-1)) by omega] at w
          exact ih4 (x + (-1)) (by omega) (by omega) _ _ _ w (lv_sub hl [2, 3, 0] rfl)
  have e0 : nDu μ c (U, g) (191 - 191) = (U, g) := by unfold nDu; rw [show (191 : Int) - 191 = 0 from rfl, itI_0]
  have w : wW D A zs.heap (WLok cI a μ ((nDu μ c (U, g) (191 - 191)).1) ((nDu μ c (U, g) (191 - 191)).2)) zs.heap [] := by rw [e0]; exact w
  exact lp4 193 191 (by omega) (by omega) _ _ _ w (lv_sub hl [1, 2, 0] rfl)
