set_option maxHeartbeats 4000000 in
set_option maxRecDepth 100000 in
/-- Lookahead.keepUses -/
theorem k_keepUses (l : Launch) (D : va_G) (cI cZ cJ : ClassId) (a : Nat → Nat) (μ : Nat → Int → Int) (U g : Int → Int) (t : Int) (hc : 0 ≤ t ∧ t < 192) (hC : ∀ i, 0 ≤ g i ∧ g i ≤ 768) : Cv l D (tY cI cZ cJ) yX0_keepUses wsX0_keepUses rmX0_keepUses [.ref (a 4), .int (iI t)] (WLk0 cI a μ U g) (WLk0 cI a μ (kp g t U) g) := by
  refine qv_of (by decide +kernel) rfl (Nat.le_of_ble_eq_true rfl) ?_
  intro zp ze zs zm zargs zbelow zmeth zc A Q ls M hA w hl kret
  have hl : lv_has ls 4 [(0, .ref (a 4)), (1, .int (iI t))] := hl
  have in0 : ∀ w ∈ u_ws RX0 TX0 3, w ∈ wsX0_keepUses := by decide +kernel
  refine q_ic M dX0_keepUses_0 ?_
  refine q_isn (lv' := [(2, .int (iI 0)), (0, .ref (a 4)), (1, .int (iI t))]) M dX0_keepUses_1 rfl hl (by decide) rfl (fun ls hl => ?_)
  have lp2 : ∀ (n2 : Nat) (x : Int), (0 ≤ x ∧ x ≤ 8) → (8 - x : Int) < (n2 : Int) → ∀ (H : Heap) (locs : List Loc) (ls : Array Slot), wW D A zs.heap (WLk0 cI a μ (cpF U (fun s => kU (g s) t) (t * 8) x) g) H locs → lv_has ls 4 [(0, .ref (a 4)), (1, .int (iI t)), (2, .int (iI x))] → W zp l ze rmX0_keepUses zs zm zargs zbelow zmeth zc H locs 0 0 Q (F0 zm 2 ls []) := by
    intro n2
    induction n2 with
    | zero => intro x hj hm H locs ls w hl; exfalso; omega
    | succ n2 ih2 =>
      intro x hj hm2 H locs ls w hl
      refine q_iln M dX0_keepUses_2 (lv_at hl 2 rfl) ?_
      refine q_bp M dX0_keepUses_3 (by decide +kernel) ?_
      refine q_icmp_ge (tgt := 53) M dX0_keepUses_5 (by decide) (by omega) (fun c5 => ?_) (fun c5 => ?_)
      · rw [show x = 8 by omega] at w
        exact kret _ _ _ _ dX0_keepUses_53 w
      · refine q_aln M dX0_keepUses_8 (lv_at hl 0 rfl) ?_
        refine q_get (v := .ref (a 50)) M w in0 0 2 rfl rfl (by decide) (by decide +kernel) rfl rfl dX0_keepUses_9 ?_
        refine q_iln M dX0_keepUses_12 (lv_at hl 2 rfl) ?_
        refine qc_iV (As := [.int (iI x)]) (rest := []) (wc := WRow cI (a 50) (a 51) 8 g) (wc2 := WRow cI (a 50) (a 51) 8 g) (ws2 := WLk0 cI a μ (cpF U (fun s => kU (g s) t) (t * 8) x) g) M w hA hl (k_get l D cI cZ cJ _ _ _ _ x (by omega)) gX0_keepUses_X3_get rfl ⟨rfl, rfl, by decide, by decide⟩ ⟨Nat.zero_le _, Nat.zero_le _⟩ 1 ⟨rfl, by decide +kernel⟩ rfl [false, false, false, true, true] rfl rfl 3 rfl rfl rfl (Nat.le_of_ble_eq_true rfl) rfl dX0_keepUses_13 (fun H locs w => ?_)
        refine q_isn (lv' := [(3, .int (iI (g x))), (0, .ref (a 4)), (1, .int (iI t)), (2, .int (iI x))]) M dX0_keepUses_16 rfl hl (by decide) rfl (fun ls hl => ?_)
        have q4 := hC x
        refine q_aln M dX0_keepUses_17 (lv_at hl 1 rfl) ?_
        refine q_get (v := .ref (a 48)) M w in0 0 1 rfl rfl (by decide) (by decide +kernel) rfl rfl dX0_keepUses_18 ?_
        refine q_iln M dX0_keepUses_21 (lv_at hl 2 rfl) ?_
        refine q_bp M dX0_keepUses_22 (by decide +kernel) ?_
        refine q_mul M dX0_keepUses_24 ?_
        refine q_iln M dX0_keepUses_25 (lv_at hl 3 rfl) ?_
        refine q_add M dX0_keepUses_26 ?_
        refine q_iln M dX0_keepUses_27 (lv_at hl 0 rfl) ?_
        refine q_sp M dX0_keepUses_28 (by decide +kernel) ?_
        refine q_icmp_ne (tgt := 40) M dX0_keepUses_31 (by decide) (by omega) (fun c31 => ?_) (fun c31 => ?_)
        · refine q_iln M dX0_keepUses_40 (lv_at hl 0 rfl) ?_
          refine q_iln M dX0_keepUses_41 (lv_at hl 2 rfl) ?_
          refine q_sub M dX0_keepUses_42 ?_
          refine qc_iV (As := [.int (iI ((t * 8) + x)), .int (iI ((g x) - t))]) (rest := []) (wc := WRow cI (a 48) (a 49) 1536 (cpF U (fun s => kU (g s) t) (t * 8) x)) (wc2 := WRow cI (a 48) (a 49) 1536 (iU (cpF U (fun s => kU (g s) t) (t * 8) x) ((t * 8) + x) ((g x) - t))) (ws2 := WLk0 cI a μ (iU (cpF U (fun s => kU (g s) t) (t * 8) x) ((t * 8) + x) ((g x) - t)) g) M w hA hl (k_replace l D cI cZ cJ _ _ _ _ ((t * 8) + x) ((g x) - t) (by omega)) gX0_keepUses_X3_replace rfl ⟨rfl, rfl, by decide, by decide⟩ ⟨Nat.zero_le _, Nat.zero_le _⟩ 2 ⟨rfl, by decide +kernel⟩ rfl [false, true, true] rfl rfl 1 rfl rfl rfl (Nat.le_of_ble_eq_true rfl) rfl dX0_keepUses_43 (fun H locs w => ?_)
          refine q_pop M dX0_keepUses_46 rfl ?_
          have ew : iU (cpF U (fun s => kU (g s) t) (t * 8) x) ((t * 8) + x) ((g x) - t) = cpF U (fun s => kU (g s) t) (t * 8) (x + 1) := by rw [← cpF_s _ _ _ hj.1]; congr 1; unfold kU; split <;> omega
          have w : wW D A zs.heap (WLk0 cI a μ (cpF U (fun s => kU (g s) t) (t * 8) (x + 1)) g) H locs := by rw [← ew]; exact w
          refine q_inc (z := x) (lv' := [(2, .int (iI (x + 1))), (3, .int (iI (g x))), (0, .ref (a 4)), (1, .int (iI t))]) M dX0_keepUses_47 hl (k := 3) rfl (by decide) rfl (fun ls hl => ?_)
          refine q_go (tgt := 2) M dX0_keepUses_50 (by decide) ?_
          exact ih2 (x + 1) (by omega) (by omega) _ _ _ w (lv_sub hl [2, 3, 0] rfl)
        · refine q_sp M dX0_keepUses_34 (by decide +kernel) ?_
          refine q_go (tgt := 43) M dX0_keepUses_37 (by decide) ?_
          refine qc_iV (As := [.int (iI ((t * 8) + x)), .int (iI 768)]) (rest := []) (wc := WRow cI (a 48) (a 49) 1536 (cpF U (fun s => kU (g s) t) (t * 8) x)) (wc2 := WRow cI (a 48) (a 49) 1536 (iU (cpF U (fun s => kU (g s) t) (t * 8) x) ((t * 8) + x) 768)) (ws2 := WLk0 cI a μ (iU (cpF U (fun s => kU (g s) t) (t * 8) x) ((t * 8) + x) 768) g) M w hA hl (k_replace l D cI cZ cJ _ _ _ _ ((t * 8) + x) 768 (by omega)) gX0_keepUses_X3_replace rfl ⟨rfl, rfl, by decide, by decide⟩ ⟨Nat.zero_le _, Nat.zero_le _⟩ 2 ⟨rfl, by decide +kernel⟩ rfl [false, true, true] rfl rfl 1 rfl rfl rfl (Nat.le_of_ble_eq_true rfl) rfl dX0_keepUses_43 (fun H locs w => ?_)
          refine q_pop M dX0_keepUses_46 rfl ?_
          have ew : iU (cpF U (fun s => kU (g s) t) (t * 8) x) ((t * 8) + x) 768 = cpF U (fun s => kU (g s) t) (t * 8) (x + 1) := by rw [← cpF_s _ _ _ hj.1]; congr 1; unfold kU; split <;> omega
          have w : wW D A zs.heap (WLk0 cI a μ (cpF U (fun s => kU (g s) t) (t * 8) (x + 1)) g) H locs := by rw [← ew]; exact w
          refine q_inc (z := x) (lv' := [(2, .int (iI (x + 1))), (3, .int (iI (g x))), (0, .ref (a 4)), (1, .int (iI t))]) M dX0_keepUses_47 hl (k := 3) rfl (by decide) rfl (fun ls hl => ?_)
          refine q_go (tgt := 2) M dX0_keepUses_50 (by decide) ?_
          exact ih2 (x + 1) (by omega) (by omega) _ _ _ w (lv_sub hl [2, 3, 0] rfl)
  have w : wW D A zs.heap (WLk0 cI a μ (cpF U (fun s => kU (g s) t) (t * 8) 0) g) zs.heap [] := by rw [cpF_0]; exact w
  exact lp2 9 0 (by omega) (by omega) _ _ _ w (lv_sub hl [1, 2, 0] rfl)
