/-! THE REFERENCE: the set begun; next uses -/
def canR (ν : Nat → Int → Int) (k : Int) : Prop := ν 21 0 = 0 ∧ 0 < ν 14 0 ∧ ∀ j, 0 ≤ j → j < k → 0 < ν 9 (ν 15 j)
theorem canR_t {ν : Nat → Int → Int} {k : Int} (h : canR ν k) (h2 : 0 < ν 9 (ν 15 k)) : canR ν (k + 1) := ⟨h.1, h.2.1, fun j h3 h4 => by
  by_cases e : j = k
  · rw [e]; exact h2
  · exact h.2.2 j h3 (by omega)⟩
theorem canR_f {ν : Nat → Int → Int} {k : Int} (h : ¬ canR ν k) : ¬ canR ν (k + 1) := fun q => h ⟨q.1, q.2.1, fun j h3 h4 => q.2.2 j h3 (by omega)⟩
theorem canR_g {ν : Nat → Int → Int} {k : Int} (hk : 0 ≤ k) (h : ¬ 0 < ν 9 (ν 15 k)) : ¬ canR ν (k + 1) := fun q => h (q.2.2 k hk (by omega))
noncomputable def stR (ν : Nat → Int → Int) : Nat → Int → Int := mset (mset (mset (mset (mset (mset (mset (mset (mset (mset (mset (mset (mset ν 0 (fun _ => 0)) 16 ((stX ν (ν 14 0)).1)) 17 ((stX ν (ν 14 0)).2.1)) 18 (iU (stX ν (ν 14 0)).2.2.1 (ν 14 0) (fsR ν (ν 14 0)))) 19 ((stX ν (ν 14 0)).2.2.2.1)) 20 ((stX ν (ν 14 0)).2.2.2.2)) 21 (fun _ => 1)) 22 (fun _ => 0)) 23 (fun _ => 0)) 24 (fun _ => 0)) 25 (fun _ => 0)) 26 (fun _ => (-1))) 27 (fun _ => 0)
set_option maxHeartbeats 4000000 in
set_option maxRecDepth 100000 in
/-- start -/
theorem m_start_x (l : Launch) (D : va_G) (cI cZ cJ : ClassId) (b : Nat → Nat) (ν : Nat → Int → Int) (hI : IP (vw ν)) (hSD : ∀ s, 0 ≤ s → s < 6 → SDs (vw ν) s) (h21 : ν 21 0 = 0 ∨ ν 21 0 = 1) (h14 : 0 ≤ ν 14 0 ∧ ν 14 0 ≤ 8) (hsl : ∀ j, 0 ≤ j → j < ν 14 0 → 0 ≤ ν 15 j ∧ ν 15 j < 6) (hk : ¬ canR ν (ν 14 0)) : Ci l D (tY cI cZ cJ) yX7_start wsX7_start rmX7_start [.ref (b 0)] (WMod cI cZ b ν) (0) (WMod cI cZ b (mset ν 0 (fun _ => 1))) := by
  refine qi_of (by decide +kernel) rfl (Nat.le_of_ble_eq_true rfl) ?_
  intro zp ze zs zm zargs zbelow zmeth zc A Q ls M hA w hl kret
  have hl : lv_has ls 4 [(0, .ref (b 0))] := hl
  have in7 : ∀ w ∈ u_ws RX7 TX7 31, w ∈ wsX7_start := by decide +kernel
  refine q_aln M dX7_start_0 (lv_at hl 0 rfl) ?_
  refine q_ic M dX7_start_1 ?_
  refine q_put (ws2 := WMod cI cZ b (mset ν 0 (fun _ => 0))) M w in7 0 0 tyX7 tyX7_ok nmX7 rfl rfl (by decide) (by decide +kernel) rfl rfl rfl rfl (Nat.le_of_ble_eq_true rfl) rfl dX7_start_2 (fun H locs w => ?_)
  refine q_aln M dX7_start_5 (lv_at hl 0 rfl) ?_
  refine q_get (v := .int (iI (ν 21 0))) M w in7 0 21 rfl rfl (by decide) (by decide +kernel) rfl rfl dX7_start_6 ?_
  refine q_if_ne (tgt := 23) M dX7_start_9 (by decide) (by omega) (fun c9 => ?_) (fun c9 => ?_)
  · refine q_ic M dX7_start_23 ?_
    refine q_isn (lv' := [(1, .int (iI 0)), (0, .ref (b 0))]) M dX7_start_24 rfl hl (by decide) rfl (fun ls hl => ?_)
    refine q_ic M dX7_start_25 ?_
    refine q_isn (lv' := [(2, .int (iI 0)), (1, .int (iI 0)), (0, .ref (b 0))]) M dX7_start_26 rfl hl (by decide) rfl (fun ls hl => ?_)
    have lp27 : ∀ (n27 : Nat) (k : Int) (c : Int), (0 ≤ k ∧ k ≤ ν 14 0) → ((c = 1 ∧ canR ν k) ∨ (c = 0 ∧ ¬ canR ν k)) → (9 - k : Int) < (n27 : Int) → ∀ (H : Heap) (locs : List Loc) (ls : Array Slot), wW D A zs.heap (WMod cI cZ b (mset ν 0 (fun _ => 0))) H locs → lv_has ls 4 [(0, .ref (b 0)), (1, .int (iI c)), (2, .int (iI k))] → W zp l ze rmX7_start zs zm zargs zbelow zmeth zc H locs 0 0 Q (F0 zm 27 ls []) := by
      intro n27
      induction n27 with
      | zero => intro k c hj hb hm H locs ls w hl; exfalso; omega
      | succ n27 ih27 =>
        intro k c hj hb hm27 H locs ls w hl
        refine q_iln M dX7_start_27 (lv_at hl 2 rfl) ?_
        refine q_aln M dX7_start_28 (lv_at hl 0 rfl) ?_
        refine q_get (v := .int (iI (ν 14 0))) M w in7 0 14 rfl rfl (by decide) (by decide +kernel) rfl rfl dX7_start_29 ?_
        refine q_icmp_ge (tgt := 65) M dX7_start_32 (by decide) (by omega) (fun c32 => ?_) (fun c32 => ?_)
        · have hc01 : c = 0 ∨ c = 1 := hb.elim (fun h => Or.inr h.1) (fun h => Or.inl h.1)
          refine q_iln M dX7_start_65 (lv_at hl 1 rfl) ?_
          refine q_if_ne (tgt := 75) M dX7_start_66 (by decide) (by omega) (fun c66 => ?_) (fun c66 => ?_)
          · exact absurd (hb.elim (fun h => h.2) (fun h => absurd h.1 (by omega))) (by rw [show k = ν 14 0 by omega]; exact hk)
          · refine q_aln M dX7_start_69 (lv_at hl 0 rfl) ?_
            refine q_ic M dX7_start_70 ?_
            refine qc_iV (As := [.int (iI 1)]) (rest := []) (wc := WMod cI cZ b (mset ν 0 (fun _ => 0))) (wc2 := WMod cI cZ b (mset ν 0 (fun _ => 1))) (ws2 := WMod cI cZ b (mset ν 0 (fun _ => 1))) M w hA hl (m_fails l D cI cZ cJ b (mset ν 0 (fun _ => 0)) 1 ) gX7_start_X7_fails rfl ⟨rfl, rfl, by decide, by decide⟩ ⟨Nat.zero_le _, Nat.zero_le _⟩ 1 ⟨rfl, by decide +kernel⟩ rfl [true, true, true, true, true, true, true, true, true, true, true, true, true, true, true, true, true, true, true, true, true] rfl rfl 0 rfl rfl rfl (Nat.le_of_ble_eq_true rfl) rfl dX7_start_71 (fun H locs w => ?_)
            exact kret _ _ _ _ _ dX7_start_74 w rfl
        · have hc01 : c = 0 ∨ c = 1 := hb.elim (fun h => Or.inr h.1) (fun h => Or.inl h.1)
          refine q_iln M dX7_start_35 (lv_at hl 1 rfl) ?_
          refine q_if_eq (tgt := 57) M dX7_start_36 (by decide) (by omega) (fun c36 => ?_) (fun c36 => ?_)
          · refine q_ic M dX7_start_57 ?_
            refine q_isn (lv' := [(1, .int (iI 0)), (0, .ref (b 0)), (2, .int (iI k))]) M dX7_start_58 rfl hl (by decide) rfl (fun ls hl => ?_)
            refine q_inc (z := k) (lv' := [(2, .int (iI (k + 1))), (1, .int (iI 0)), (0, .ref (b 0))]) M dX7_start_59 hl (k := 2) rfl (by decide) rfl (fun ls hl => ?_)
            refine q_go (tgt := 27) M dX7_start_62 (by decide) ?_
            exact ih27 (k + 1) 0 (by omega) (Or.inr ⟨rfl, by first | exact canR_g hj.1 (by omega) | exact canR_f (hb.elim (fun h => absurd h.1 (by omega)) (fun h => h.2))⟩) (by omega) _ _ _ w (lv_sub hl [2, 1, 0] rfl)
          · have q15 := hsl k hj.1 c32
            have q9 : 0 ≤ ν 9 (ν 15 k) ∧ ν 9 (ν 15 k) ≤ 8 := (hSD _ q15.1 q15.2).1
            refine q_aln M dX7_start_39 (lv_at hl 0 rfl) ?_
            refine q_get (v := .ref (b 9)) M w in7 0 9 rfl rfl (by decide) (by decide +kernel) rfl rfl dX7_start_40 ?_
            refine q_aln M dX7_start_43 (lv_at hl 0 rfl) ?_
            refine q_get (v := .ref (b 15)) M w in7 0 15 rfl rfl (by decide) (by decide +kernel) rfl rfl dX7_start_44 ?_
            refine q_iln M dX7_start_47 (lv_at hl 2 rfl) ?_
            refine q_iald (f := ν 15) M w 14 0 rfl rfl (by omega) dX7_start_48 ?_
            refine q_iald (f := ν 9) M w 9 0 rfl rfl (by omega) dX7_start_49 ?_
            refine q_if_le (tgt := 57) M dX7_start_50 (by decide) (by omega) (fun c50 => ?_) (fun c50 => ?_)
            · refine q_ic M dX7_start_57 ?_
              refine q_isn (lv' := [(1, .int (iI 0)), (0, .ref (b 0)), (2, .int (iI k))]) M dX7_start_58 rfl hl (by decide) rfl (fun ls hl => ?_)
              refine q_inc (z := k) (lv' := [(2, .int (iI (k + 1))), (1, .int (iI 0)), (0, .ref (b 0))]) M dX7_start_59 hl (k := 2) rfl (by decide) rfl (fun ls hl => ?_)
              refine q_go (tgt := 27) M dX7_start_62 (by decide) ?_
              exact ih27 (k + 1) 0 (by omega) (Or.inr ⟨rfl, by first | exact canR_g hj.1 (by omega) | exact canR_f (hb.elim (fun h => absurd h.1 (by omega)) (fun h => h.2))⟩) (by omega) _ _ _ w (lv_sub hl [2, 1, 0] rfl)
            · refine q_ic M dX7_start_53 ?_
              refine q_go (tgt := 58) M dX7_start_54 (by decide) ?_
              refine q_isn (lv' := [(1, .int (iI 1)), (0, .ref (b 0)), (2, .int (iI k))]) M dX7_start_58 rfl hl (by decide) rfl (fun ls hl => ?_)
              refine q_inc (z := k) (lv' := [(2, .int (iI (k + 1))), (1, .int (iI 1)), (0, .ref (b 0))]) M dX7_start_59 hl (k := 2) rfl (by decide) rfl (fun ls hl => ?_)
              refine q_go (tgt := 27) M dX7_start_62 (by decide) ?_
              exact ih27 (k + 1) 1 (by omega) (Or.inl ⟨rfl, canR_t (hb.elim (fun h => h.2) (fun h => absurd h.1 (by omega))) c50⟩) (by omega) _ _ _ w (lv_sub hl [2, 1, 0] rfl)
    exact lp27 10 0 0 (by omega) (Or.inr ⟨rfl, fun q => by have q1 := q.1; have q2 := q.2.1; omega⟩) (by omega) _ _ _ w (lv_sub hl [2, 1, 0] rfl)
  · refine q_aln M dX7_start_12 (lv_at hl 0 rfl) ?_
    refine q_get (v := .int (iI (ν 14 0))) M w in7 0 14 rfl rfl (by decide) (by decide +kernel) rfl rfl dX7_start_13 ?_
    refine q_if_le (tgt := 23) M dX7_start_16 (by decide) (by omega) (fun c16 => ?_) (fun c16 => ?_)
    · refine q_ic M dX7_start_23 ?_
      refine q_isn (lv' := [(1, .int (iI 0)), (0, .ref (b 0))]) M dX7_start_24 rfl hl (by decide) rfl (fun ls hl => ?_)
      refine q_ic M dX7_start_25 ?_
      refine q_isn (lv' := [(2, .int (iI 0)), (1, .int (iI 0)), (0, .ref (b 0))]) M dX7_start_26 rfl hl (by decide) rfl (fun ls hl => ?_)
      have lp27 : ∀ (n27 : Nat) (k : Int) (c : Int), (0 ≤ k ∧ k ≤ ν 14 0) → ((c = 1 ∧ canR ν k) ∨ (c = 0 ∧ ¬ canR ν k)) → (9 - k : Int) < (n27 : Int) → ∀ (H : Heap) (locs : List Loc) (ls : Array Slot), wW D A zs.heap (WMod cI cZ b (mset ν 0 (fun _ => 0))) H locs → lv_has ls 4 [(0, .ref (b 0)), (1, .int (iI c)), (2, .int (iI k))] → W zp l ze rmX7_start zs zm zargs zbelow zmeth zc H locs 0 0 Q (F0 zm 27 ls []) := by
        intro n27
        induction n27 with
        | zero => intro k c hj hb hm H locs ls w hl; exfalso; omega
        | succ n27 ih27 =>
          intro k c hj hb hm27 H locs ls w hl
          refine q_iln M dX7_start_27 (lv_at hl 2 rfl) ?_
          refine q_aln M dX7_start_28 (lv_at hl 0 rfl) ?_
          refine q_get (v := .int (iI (ν 14 0))) M w in7 0 14 rfl rfl (by decide) (by decide +kernel) rfl rfl dX7_start_29 ?_
          refine q_icmp_ge (tgt := 65) M dX7_start_32 (by decide) (by omega) (fun c32 => ?_) (fun c32 => ?_)
          · have hc01 : c = 0 ∨ c = 1 := hb.elim (fun h => Or.inr h.1) (fun h => Or.inl h.1)
            refine q_iln M dX7_start_65 (lv_at hl 1 rfl) ?_
            refine q_if_ne (tgt := 75) M dX7_start_66 (by decide) (by omega) (fun c66 => ?_) (fun c66 => ?_)
            · exact absurd (hb.elim (fun h => h.2) (fun h => absurd h.1 (by omega))) (by rw [show k = ν 14 0 by omega]; exact hk)
            · refine q_aln M dX7_start_69 (lv_at hl 0 rfl) ?_
              refine q_ic M dX7_start_70 ?_
              refine qc_iV (As := [.int (iI 1)]) (rest := []) (wc := WMod cI cZ b (mset ν 0 (fun _ => 0))) (wc2 := WMod cI cZ b (mset ν 0 (fun _ => 1))) (ws2 := WMod cI cZ b (mset ν 0 (fun _ => 1))) M w hA hl (m_fails l D cI cZ cJ b (mset ν 0 (fun _ => 0)) 1 ) gX7_start_X7_fails rfl ⟨rfl, rfl, by decide, by decide⟩ ⟨Nat.zero_le _, Nat.zero_le _⟩ 1 ⟨rfl, by decide +kernel⟩ rfl [true, true, true, true, true, true, true, true, true, true, true, true, true, true, true, true, true, true, true, true, true] rfl rfl 0 rfl rfl rfl (Nat.le_of_ble_eq_true rfl) rfl dX7_start_71 (fun H locs w => ?_)
              exact kret _ _ _ _ _ dX7_start_74 w rfl
          · have hc01 : c = 0 ∨ c = 1 := hb.elim (fun h => Or.inr h.1) (fun h => Or.inl h.1)
            refine q_iln M dX7_start_35 (lv_at hl 1 rfl) ?_
            refine q_if_eq (tgt := 57) M dX7_start_36 (by decide) (by omega) (fun c36 => ?_) (fun c36 => ?_)
            · refine q_ic M dX7_start_57 ?_
              refine q_isn (lv' := [(1, .int (iI 0)), (0, .ref (b 0)), (2, .int (iI k))]) M dX7_start_58 rfl hl (by decide) rfl (fun ls hl => ?_)
              refine q_inc (z := k) (lv' := [(2, .int (iI (k + 1))), (1, .int (iI 0)), (0, .ref (b 0))]) M dX7_start_59 hl (k := 2) rfl (by decide) rfl (fun ls hl => ?_)
              refine q_go (tgt := 27) M dX7_start_62 (by decide) ?_
              exact ih27 (k + 1) 0 (by omega) (Or.inr ⟨rfl, by first | exact canR_g hj.1 (by omega) | exact canR_f (hb.elim (fun h => absurd h.1 (by omega)) (fun h => h.2))⟩) (by omega) _ _ _ w (lv_sub hl [2, 1, 0] rfl)
            · have q15 := hsl k hj.1 c32
              have q9 : 0 ≤ ν 9 (ν 15 k) ∧ ν 9 (ν 15 k) ≤ 8 := (hSD _ q15.1 q15.2).1
              refine q_aln M dX7_start_39 (lv_at hl 0 rfl) ?_
              refine q_get (v := .ref (b 9)) M w in7 0 9 rfl rfl (by decide) (by decide +kernel) rfl rfl dX7_start_40 ?_
              refine q_aln M dX7_start_43 (lv_at hl 0 rfl) ?_
              refine q_get (v := .ref (b 15)) M w in7 0 15 rfl rfl (by decide) (by decide +kernel) rfl rfl dX7_start_44 ?_
              refine q_iln M dX7_start_47 (lv_at hl 2 rfl) ?_
              refine q_iald (f := ν 15) M w 14 0 rfl rfl (by omega) dX7_start_48 ?_
              refine q_iald (f := ν 9) M w 9 0 rfl rfl (by omega) dX7_start_49 ?_
              refine q_if_le (tgt := 57) M dX7_start_50 (by decide) (by omega) (fun c50 => ?_) (fun c50 => ?_)
              · refine q_ic M dX7_start_57 ?_
                refine q_isn (lv' := [(1, .int (iI 0)), (0, .ref (b 0)), (2, .int (iI k))]) M dX7_start_58 rfl hl (by decide) rfl (fun ls hl => ?_)
                refine q_inc (z := k) (lv' := [(2, .int (iI (k + 1))), (1, .int (iI 0)), (0, .ref (b 0))]) M dX7_start_59 hl (k := 2) rfl (by decide) rfl (fun ls hl => ?_)
                refine q_go (tgt := 27) M dX7_start_62 (by decide) ?_
                exact ih27 (k + 1) 0 (by omega) (Or.inr ⟨rfl, by first | exact canR_g hj.1 (by omega) | exact canR_f (hb.elim (fun h => absurd h.1 (by omega)) (fun h => h.2))⟩) (by omega) _ _ _ w (lv_sub hl [2, 1, 0] rfl)
              · refine q_ic M dX7_start_53 ?_
                refine q_go (tgt := 58) M dX7_start_54 (by decide) ?_
                refine q_isn (lv' := [(1, .int (iI 1)), (0, .ref (b 0)), (2, .int (iI k))]) M dX7_start_58 rfl hl (by decide) rfl (fun ls hl => ?_)
                refine q_inc (z := k) (lv' := [(2, .int (iI (k + 1))), (1, .int (iI 1)), (0, .ref (b 0))]) M dX7_start_59 hl (k := 2) rfl (by decide) rfl (fun ls hl => ?_)
                refine q_go (tgt := 27) M dX7_start_62 (by decide) ?_
                exact ih27 (k + 1) 1 (by omega) (Or.inl ⟨rfl, canR_t (hb.elim (fun h => h.2) (fun h => absurd h.1 (by omega))) c50⟩) (by omega) _ _ _ w (lv_sub hl [2, 1, 0] rfl)
      exact lp27 10 0 0 (by omega) (Or.inr ⟨rfl, fun q => by have q1 := q.1; have q2 := q.2.1; omega⟩) (by omega) _ _ _ w (lv_sub hl [2, 1, 0] rfl)
    · refine q_ic M dX7_start_19 ?_
      refine q_go (tgt := 24) M dX7_start_20 (by decide) ?_
      refine q_isn (lv' := [(1, .int (iI 1)), (0, .ref (b 0))]) M dX7_start_24 rfl hl (by decide) rfl (fun ls hl => ?_)
      refine q_ic M dX7_start_25 ?_
      refine q_isn (lv' := [(2, .int (iI 0)), (1, .int (iI 1)), (0, .ref (b 0))]) M dX7_start_26 rfl hl (by decide) rfl (fun ls hl => ?_)
      have lp27 : ∀ (n27 : Nat) (k : Int) (c : Int), (0 ≤ k ∧ k ≤ ν 14 0) → ((c = 1 ∧ canR ν k) ∨ (c = 0 ∧ ¬ canR ν k)) → (9 - k : Int) < (n27 : Int) → ∀ (H : Heap) (locs : List Loc) (ls : Array Slot), wW D A zs.heap (WMod cI cZ b (mset ν 0 (fun _ => 0))) H locs → lv_has ls 4 [(0, .ref (b 0)), (1, .int (iI c)), (2, .int (iI k))] → W zp l ze rmX7_start zs zm zargs zbelow zmeth zc H locs 0 0 Q (F0 zm 27 ls []) := by
        intro n27
        induction n27 with
        | zero => intro k c hj hb hm H locs ls w hl; exfalso; omega
        | succ n27 ih27 =>
          intro k c hj hb hm27 H locs ls w hl
          refine q_iln M dX7_start_27 (lv_at hl 2 rfl) ?_
          refine q_aln M dX7_start_28 (lv_at hl 0 rfl) ?_
          refine q_get (v := .int (iI (ν 14 0))) M w in7 0 14 rfl rfl (by decide) (by decide +kernel) rfl rfl dX7_start_29 ?_
          refine q_icmp_ge (tgt := 65) M dX7_start_32 (by decide) (by omega) (fun c32 => ?_) (fun c32 => ?_)
          · have hc01 : c = 0 ∨ c = 1 := hb.elim (fun h => Or.inr h.1) (fun h => Or.inl h.1)
            refine q_iln M dX7_start_65 (lv_at hl 1 rfl) ?_
            refine q_if_ne (tgt := 75) M dX7_start_66 (by decide) (by omega) (fun c66 => ?_) (fun c66 => ?_)
            · exact absurd (hb.elim (fun h => h.2) (fun h => absurd h.1 (by omega))) (by rw [show k = ν 14 0 by omega]; exact hk)
            · refine q_aln M dX7_start_69 (lv_at hl 0 rfl) ?_
              refine q_ic M dX7_start_70 ?_
              refine qc_iV (As := [.int (iI 1)]) (rest := []) (wc := WMod cI cZ b (mset ν 0 (fun _ => 0))) (wc2 := WMod cI cZ b (mset ν 0 (fun _ => 1))) (ws2 := WMod cI cZ b (mset ν 0 (fun _ => 1))) M w hA hl (m_fails l D cI cZ cJ b (mset ν 0 (fun _ => 0)) 1 ) gX7_start_X7_fails rfl ⟨rfl, rfl, by decide, by decide⟩ ⟨Nat.zero_le _, Nat.zero_le _⟩ 1 ⟨rfl, by decide +kernel⟩ rfl [true, true, true, true, true, true, true, true, true, true, true, true, true, true, true, true, true, true, true, true, true] rfl rfl 0 rfl rfl rfl (Nat.le_of_ble_eq_true rfl) rfl dX7_start_71 (fun H locs w => ?_)
              exact kret _ _ _ _ _ dX7_start_74 w rfl
          · have hc01 : c = 0 ∨ c = 1 := hb.elim (fun h => Or.inr h.1) (fun h => Or.inl h.1)
            refine q_iln M dX7_start_35 (lv_at hl 1 rfl) ?_
            refine q_if_eq (tgt := 57) M dX7_start_36 (by decide) (by omega) (fun c36 => ?_) (fun c36 => ?_)
            · refine q_ic M dX7_start_57 ?_
              refine q_isn (lv' := [(1, .int (iI 0)), (0, .ref (b 0)), (2, .int (iI k))]) M dX7_start_58 rfl hl (by decide) rfl (fun ls hl => ?_)
              refine q_inc (z := k) (lv' := [(2, .int (iI (k + 1))), (1, .int (iI 0)), (0, .ref (b 0))]) M dX7_start_59 hl (k := 2) rfl (by decide) rfl (fun ls hl => ?_)
              refine q_go (tgt := 27) M dX7_start_62 (by decide) ?_
              exact ih27 (k + 1) 0 (by omega) (Or.inr ⟨rfl, by first | exact canR_g hj.1 (by omega) | exact canR_f (hb.elim (fun h => absurd h.1 (by omega)) (fun h => h.2))⟩) (by omega) _ _ _ w (lv_sub hl [2, 1, 0] rfl)
            · have q15 := hsl k hj.1 c32
              have q9 : 0 ≤ ν 9 (ν 15 k) ∧ ν 9 (ν 15 k) ≤ 8 := (hSD _ q15.1 q15.2).1
              refine q_aln M dX7_start_39 (lv_at hl 0 rfl) ?_
              refine q_get (v := .ref (b 9)) M w in7 0 9 rfl rfl (by decide) (by decide +kernel) rfl rfl dX7_start_40 ?_
              refine q_aln M dX7_start_43 (lv_at hl 0 rfl) ?_
              refine q_get (v := .ref (b 15)) M w in7 0 15 rfl rfl (by decide) (by decide +kernel) rfl rfl dX7_start_44 ?_
              refine q_iln M dX7_start_47 (lv_at hl 2 rfl) ?_
              refine q_iald (f := ν 15) M w 14 0 rfl rfl (by omega) dX7_start_48 ?_
              refine q_iald (f := ν 9) M w 9 0 rfl rfl (by omega) dX7_start_49 ?_
              refine q_if_le (tgt := 57) M dX7_start_50 (by decide) (by omega) (fun c50 => ?_) (fun c50 => ?_)
              · refine q_ic M dX7_start_57 ?_
                refine q_isn (lv' := [(1, .int (iI 0)), (0, .ref (b 0)), (2, .int (iI k))]) M dX7_start_58 rfl hl (by decide) rfl (fun ls hl => ?_)
                refine q_inc (z := k) (lv' := [(2, .int (iI (k + 1))), (1, .int (iI 0)), (0, .ref (b 0))]) M dX7_start_59 hl (k := 2) rfl (by decide) rfl (fun ls hl => ?_)
                refine q_go (tgt := 27) M dX7_start_62 (by decide) ?_
                exact ih27 (k + 1) 0 (by omega) (Or.inr ⟨rfl, by first | exact canR_g hj.1 (by omega) | exact canR_f (hb.elim (fun h => absurd h.1 (by omega)) (fun h => h.2))⟩) (by omega) _ _ _ w (lv_sub hl [2, 1, 0] rfl)
              · refine q_ic M dX7_start_53 ?_
                refine q_go (tgt := 58) M dX7_start_54 (by decide) ?_
                refine q_isn (lv' := [(1, .int (iI 1)), (0, .ref (b 0)), (2, .int (iI k))]) M dX7_start_58 rfl hl (by decide) rfl (fun ls hl => ?_)
                refine q_inc (z := k) (lv' := [(2, .int (iI (k + 1))), (1, .int (iI 1)), (0, .ref (b 0))]) M dX7_start_59 hl (k := 2) rfl (by decide) rfl (fun ls hl => ?_)
                refine q_go (tgt := 27) M dX7_start_62 (by decide) ?_
                exact ih27 (k + 1) 1 (by omega) (Or.inl ⟨rfl, canR_t (hb.elim (fun h => h.2) (fun h => absurd h.1 (by omega))) c50⟩) (by omega) _ _ _ w (lv_sub hl [2, 1, 0] rfl)
      exact lp27 10 0 1 (by omega) (Or.inl ⟨rfl, by omega, by omega, fun j h1 h2 => by omega⟩) (by omega) _ _ _ w (lv_sub hl [2, 1, 0] rfl)

set_option maxHeartbeats 4000000 in
set_option maxRecDepth 100000 in
/-- start -/
theorem m_start (l : Launch) (D : va_G) (cI cZ cJ : ClassId) (b : Nat → Nat) (ν : Nat → Int → Int) (hI : IP (vw ν)) (hSD : ∀ s, 0 ≤ s → s < 6 → SDs (vw ν) s) (h21 : ν 21 0 = 0 ∨ ν 21 0 = 1) (h14 : 0 ≤ ν 14 0 ∧ ν 14 0 ≤ 8) (hsl : ∀ j, 0 ≤ j → j < ν 14 0 → 0 ≤ ν 15 j ∧ ν 15 j < 6) (hok : canR ν (ν 14 0)) : Ci l D (tY cI cZ cJ) yX7_start wsX7_start rmX7_start [.ref (b 0)] (WMod cI cZ b ν) (fsR ν (ν 14 0)) (WMod cI cZ b (stR ν)) := by
  refine qi_of (by decide +kernel) rfl (Nat.le_of_ble_eq_true rfl) ?_
  intro zp ze zs zm zargs zbelow zmeth zc A Q ls M hA w hl kret
  have hl : lv_has ls 4 [(0, .ref (b 0))] := hl
  have in7 : ∀ w ∈ u_ws RX7 TX7 31, w ∈ wsX7_start := by decide +kernel
  refine q_aln M dX7_start_0 (lv_at hl 0 rfl) ?_
  refine q_ic M dX7_start_1 ?_
  refine q_put (ws2 := WMod cI cZ b (mset ν 0 (fun _ => 0))) M w in7 0 0 tyX7 tyX7_ok nmX7 rfl rfl (by decide) (by decide +kernel) rfl rfl rfl rfl (Nat.le_of_ble_eq_true rfl) rfl dX7_start_2 (fun H locs w => ?_)
  refine q_aln M dX7_start_5 (lv_at hl 0 rfl) ?_
  refine q_get (v := .int (iI (ν 21 0))) M w in7 0 21 rfl rfl (by decide) (by decide +kernel) rfl rfl dX7_start_6 ?_
  refine q_if_ne (tgt := 23) M dX7_start_9 (by decide) (by omega) (fun c9 => ?_) (fun c9 => ?_)
  · refine q_ic M dX7_start_23 ?_
    refine q_isn (lv' := [(1, .int (iI 0)), (0, .ref (b 0))]) M dX7_start_24 rfl hl (by decide) rfl (fun ls hl => ?_)
    refine q_ic M dX7_start_25 ?_
    refine q_isn (lv' := [(2, .int (iI 0)), (1, .int (iI 0)), (0, .ref (b 0))]) M dX7_start_26 rfl hl (by decide) rfl (fun ls hl => ?_)
    have lp27 : ∀ (n27 : Nat) (k : Int) (c : Int), (0 ≤ k ∧ k ≤ ν 14 0) → ((c = 1 ∧ canR ν k) ∨ (c = 0 ∧ ¬ canR ν k)) → (9 - k : Int) < (n27 : Int) → ∀ (H : Heap) (locs : List Loc) (ls : Array Slot), wW D A zs.heap (WMod cI cZ b (mset ν 0 (fun _ => 0))) H locs → lv_has ls 4 [(0, .ref (b 0)), (1, .int (iI c)), (2, .int (iI k))] → W zp l ze rmX7_start zs zm zargs zbelow zmeth zc H locs 0 0 Q (F0 zm 27 ls []) := by
      intro n27
      induction n27 with
      | zero => intro k c hj hb hm H locs ls w hl; exfalso; omega
      | succ n27 ih27 =>
        intro k c hj hb hm27 H locs ls w hl
        refine q_iln M dX7_start_27 (lv_at hl 2 rfl) ?_
        refine q_aln M dX7_start_28 (lv_at hl 0 rfl) ?_
        refine q_get (v := .int (iI (ν 14 0))) M w in7 0 14 rfl rfl (by decide) (by decide +kernel) rfl rfl dX7_start_29 ?_
        refine q_icmp_ge (tgt := 65) M dX7_start_32 (by decide) (by omega) (fun c32 => ?_) (fun c32 => ?_)
        · have hc01 : c = 0 ∨ c = 1 := hb.elim (fun h => Or.inr h.1) (fun h => Or.inl h.1)
          refine q_iln M dX7_start_65 (lv_at hl 1 rfl) ?_
          refine q_if_ne (tgt := 75) M dX7_start_66 (by decide) (by omega) (fun c66 => ?_) (fun c66 => ?_)
          · refine q_ic M dX7_start_75 ?_
            refine q_isn (lv' := [(2, .int (iI 0)), (0, .ref (b 0)), (1, .int (iI c))]) M dX7_start_76 rfl hl (by decide) rfl (fun ls hl => ?_)
            refine q_ic M dX7_start_77 ?_
            refine q_isn (lv' := [(3, .int (iI 0)), (2, .int (iI 0)), (0, .ref (b 0)), (1, .int (iI c))]) M dX7_start_78 rfl hl (by decide) rfl (fun ls hl => ?_)
            have lp79 : ∀ (n79 : Nat) (k : Int), (0 ≤ k ∧ k ≤ ν 14 0) → (9 - k : Int) < (n79 : Int) → ∀ (H : Heap) (locs : List Loc) (ls : Array Slot), wW D A zs.heap (WMod cI cZ b (mset (mset (mset (mset (mset (mset ν 0 (fun _ => 0)) 16 ((stX ν k).1)) 17 ((stX ν k).2.1)) 18 ((stX ν k).2.2.1)) 19 ((stX ν k).2.2.2.1)) 20 ((stX ν k).2.2.2.2))) H locs → lv_has ls 4 [(0, .ref (b 0)), (2, .int (iI (fsR ν k))), (3, .int (iI k))] → W zp l ze rmX7_start zs zm zargs zbelow zmeth zc H locs 0 0 Q (F0 zm 79 ls []) := by
              intro n79
              induction n79 with
              | zero => intro k hj hm H locs ls w hl; exfalso; omega
              | succ n79 ih79 =>
                intro k hj hm79 H locs ls w hl
                refine q_iln M dX7_start_79 (lv_at hl 2 rfl) ?_
                refine q_aln M dX7_start_80 (lv_at hl 0 rfl) ?_
                refine q_get (v := .int (iI (ν 14 0))) M w in7 0 14 rfl rfl (by decide) (by decide +kernel) rfl rfl dX7_start_81 ?_
                refine q_icmp_ge (tgt := 114) M dX7_start_84 (by decide) (by omega) (fun c84 => ?_) (fun c84 => ?_)
                · have hkk : k = ν 14 0 := by omega
                  have w : wW D A zs.heap (WMod cI cZ b (mset (mset (mset (mset (mset (mset ν 0 (fun _ => 0)) 16 ((stX ν (ν 14 0)).1)) 17 ((stX ν (ν 14 0)).2.1)) 18 ((stX ν (ν 14 0)).2.2.1)) 19 ((stX ν (ν 14 0)).2.2.2.1)) 20 ((stX ν (ν 14 0)).2.2.2.2))) H locs := by rw [← hkk]; exact w
                  rw [hkk] at hl
                  have hl : lv_has ls 4 [(0, .ref (b 0)), (2, .int (iI (fsR ν (ν 14 0))))] := lv_sub hl [0, 1] rfl
                  refine q_aln M dX7_start_114 (lv_at hl 0 rfl) ?_
                  refine q_get (v := .ref (b 18)) M w in7 0 18 rfl rfl (by decide) (by decide +kernel) rfl rfl dX7_start_115 ?_
                  refine q_aln M dX7_start_118 (lv_at hl 0 rfl) ?_
                  refine q_get (v := .int (iI (ν 14 0))) M w in7 0 14 rfl rfl (by decide) (by decide +kernel) rfl rfl dX7_start_119 ?_
                  refine q_iln M dX7_start_122 (lv_at hl 1 rfl) ?_
                  refine q_iast (f := (stX ν (ν 14 0)).2.2.1) (ws2 := WMod cI cZ b (mset (mset (mset (mset (mset (mset ν 0 (fun _ => 0)) 16 ((stX ν (ν 14 0)).1)) 17 ((stX ν (ν 14 0)).2.1)) 18 (iU ((stX ν (ν 14 0)).2.2.1) (ν 14 0) (fsR ν (ν 14 0)))) 19 ((stX ν (ν 14 0)).2.2.2.1)) 20 ((stX ν (ν 14 0)).2.2.2.2))) M w 17 0 rfl rfl (by omega) rfl dX7_start_123 (fun H locs w => ?_)
                  refine q_ic M dX7_start_124 ?_
                  refine q_isn (lv' := [(3, .int (iI 0)), (0, .ref (b 0)), (2, .int (iI (fsR ν (ν 14 0))))]) M dX7_start_125 rfl hl (by decide) rfl (fun ls hl => ?_)
                  have lp126 : ∀ (n126 : Nat) (e : Int), (0 ≤ e ∧ e ≤ 8) → (8 - e : Int) < (n126 : Int) → ∀ (H : Heap) (locs : List Loc) (ls : Array Slot), wW D A zs.heap (WMod cI cZ b (mset (mset (mset (mset (mset (mset (mset ν 0 (fun _ => 0)) 16 ((stX ν (ν 14 0)).1)) 17 ((stX ν (ν 14 0)).2.1)) 18 (iU (stX ν (ν 14 0)).2.2.1 (ν 14 0) (fsR ν (ν 14 0)))) 19 ((stX ν (ν 14 0)).2.2.2.1)) 20 ((stX ν (ν 14 0)).2.2.2.2)) 25 (zF (ν 25) e))) H locs → lv_has ls 4 [(0, .ref (b 0)), (2, .int (iI (fsR ν (ν 14 0)))), (3, .int (iI e))] → W zp l ze rmX7_start zs zm zargs zbelow zmeth zc H locs 0 0 Q (F0 zm 126 ls []) := by
                    intro n126
                    induction n126 with
                    | zero => intro e he hm H locs ls w hl; exfalso; omega
                    | succ n126 ih126 =>
                      intro e he hm126 H locs ls w hl
                      refine q_iln M dX7_start_126 (lv_at hl 2 rfl) ?_
                      refine q_bp M dX7_start_127 (by decide +kernel) ?_
                      refine q_icmp_ge (tgt := 145) M dX7_start_129 (by decide) (by omega) (fun c129 => ?_) (fun c129 => ?_)
                      · rw [show e = 8 by omega] at w
                        have w : wW D A zs.heap (WMod cI cZ b (mset (mset (mset (mset (mset (mset (mset ν 0 (fun _ => 0)) 16 ((stX ν (ν 14 0)).1)) 17 ((stX ν (ν 14 0)).2.1)) 18 (iU (stX ν (ν 14 0)).2.2.1 (ν 14 0) (fsR ν (ν 14 0)))) 19 ((stX ν (ν 14 0)).2.2.2.1)) 20 ((stX ν (ν 14 0)).2.2.2.2)) 25 (fun _ => 0))) H locs := WMod_c25 (ν := (mset (mset (mset (mset (mset (mset ν 0 (fun _ => 0)) 16 ((stX ν (ν 14 0)).1)) 17 ((stX ν (ν 14 0)).2.1)) 18 (iU (stX ν (ν 14 0)).2.2.1 (ν 14 0) (fsR ν (ν 14 0)))) 19 ((stX ν (ν 14 0)).2.2.2.1)) 20 ((stX ν (ν 14 0)).2.2.2.2))) w (fun i h1 h2 => if_pos ⟨h1, h2⟩)
                        refine q_aln M dX7_start_145 (lv_at hl 0 rfl) ?_
                        refine q_ic M dX7_start_146 ?_
                        refine q_put (ws2 := WMod cI cZ b (mset (mset (mset (mset (mset (mset (mset (mset ν 0 (fun _ => 0)) 16 ((stX ν (ν 14 0)).1)) 17 ((stX ν (ν 14 0)).2.1)) 18 (iU (stX ν (ν 14 0)).2.2.1 (ν 14 0) (fsR ν (ν 14 0)))) 19 ((stX ν (ν 14 0)).2.2.2.1)) 20 ((stX ν (ν 14 0)).2.2.2.2)) 25 (fun _ => 0)) 26 (fun _ => (-1)))) M w in7 0 26 tyX7 tyX7_ok nmX7 rfl rfl (by decide) (by decide +kernel) rfl rfl rfl rfl (Nat.le_of_ble_eq_true rfl) rfl dX7_start_147 (fun H locs w => ?_)
                        refine q_aln M dX7_start_150 (lv_at hl 0 rfl) ?_
                        refine q_ic M dX7_start_151 ?_
                        refine q_put (ws2 := WMod cI cZ b (mset (mset (mset (mset (mset (mset (mset (mset (mset ν 0 (fun _ => 0)) 16 ((stX ν (ν 14 0)).1)) 17 ((stX ν (ν 14 0)).2.1)) 18 (iU (stX ν (ν 14 0)).2.2.1 (ν 14 0) (fsR ν (ν 14 0)))) 19 ((stX ν (ν 14 0)).2.2.2.1)) 20 ((stX ν (ν 14 0)).2.2.2.2)) 25 (fun _ => 0)) 26 (fun _ => (-1))) 27 (fun _ => 0))) M w in7 0 27 tyX7 tyX7_ok nmX7 rfl rfl (by decide) (by decide +kernel) rfl rfl rfl rfl (Nat.le_of_ble_eq_true rfl) rfl dX7_start_152 (fun H locs w => ?_)
                        refine q_aln M dX7_start_155 (lv_at hl 0 rfl) ?_
                        refine q_ic M dX7_start_156 ?_
                        refine q_put (ws2 := WMod cI cZ b (mset (mset (mset (mset (mset (mset (mset (mset (mset (mset ν 0 (fun _ => 0)) 16 ((stX ν (ν 14 0)).1)) 17 ((stX ν (ν 14 0)).2.1)) 18 (iU (stX ν (ν 14 0)).2.2.1 (ν 14 0) (fsR ν (ν 14 0)))) 19 ((stX ν (ν 14 0)).2.2.2.1)) 20 ((stX ν (ν 14 0)).2.2.2.2)) 22 (fun _ => 0)) 25 (fun _ => 0)) 26 (fun _ => (-1))) 27 (fun _ => 0))) M w in7 0 22 tyX7 tyX7_ok nmX7 rfl rfl (by decide) (by decide +kernel) rfl rfl rfl rfl (Nat.le_of_ble_eq_true rfl) rfl dX7_start_157 (fun H locs w => ?_)
                        refine q_aln M dX7_start_160 (lv_at hl 0 rfl) ?_
                        refine q_ic M dX7_start_161 ?_
                        refine q_put (ws2 := WMod cI cZ b (mset (mset (mset (mset (mset (mset (mset (mset (mset (mset (mset ν 0 (fun _ => 0)) 16 ((stX ν (ν 14 0)).1)) 17 ((stX ν (ν 14 0)).2.1)) 18 (iU (stX ν (ν 14 0)).2.2.1 (ν 14 0) (fsR ν (ν 14 0)))) 19 ((stX ν (ν 14 0)).2.2.2.1)) 20 ((stX ν (ν 14 0)).2.2.2.2)) 22 (fun _ => 0)) 23 (fun _ => 0)) 25 (fun _ => 0)) 26 (fun _ => (-1))) 27 (fun _ => 0))) M w in7 0 23 tyX7 tyX7_ok nmX7 rfl rfl (by decide) (by decide +kernel) rfl rfl rfl rfl (Nat.le_of_ble_eq_true rfl) rfl dX7_start_162 (fun H locs w => ?_)
                        refine q_aln M dX7_start_165 (lv_at hl 0 rfl) ?_
                        refine q_ic M dX7_start_166 ?_
                        refine q_put (ws2 := WMod cI cZ b (mset (mset (mset (mset (mset (mset (mset (mset (mset (mset (mset (mset ν 0 (fun _ => 0)) 16 ((stX ν (ν 14 0)).1)) 17 ((stX ν (ν 14 0)).2.1)) 18 (iU (stX ν (ν 14 0)).2.2.1 (ν 14 0) (fsR ν (ν 14 0)))) 19 ((stX ν (ν 14 0)).2.2.2.1)) 20 ((stX ν (ν 14 0)).2.2.2.2)) 22 (fun _ => 0)) 23 (fun _ => 0)) 24 (fun _ => 0)) 25 (fun _ => 0)) 26 (fun _ => (-1))) 27 (fun _ => 0))) M w in7 0 24 tyX7 tyX7_ok nmX7 rfl rfl (by decide) (by decide +kernel) rfl rfl rfl rfl (Nat.le_of_ble_eq_true rfl) rfl dX7_start_167 (fun H locs w => ?_)
                        refine q_aln M dX7_start_170 (lv_at hl 0 rfl) ?_
                        refine q_ic M dX7_start_171 ?_
                        refine q_put (ws2 := WMod cI cZ b (mset (mset (mset (mset (mset (mset (mset (mset (mset (mset (mset (mset (mset ν 0 (fun _ => 0)) 16 ((stX ν (ν 14 0)).1)) 17 ((stX ν (ν 14 0)).2.1)) 18 (iU (stX ν (ν 14 0)).2.2.1 (ν 14 0) (fsR ν (ν 14 0)))) 19 ((stX ν (ν 14 0)).2.2.2.1)) 20 ((stX ν (ν 14 0)).2.2.2.2)) 21 (fun _ => 1)) 22 (fun _ => 0)) 23 (fun _ => 0)) 24 (fun _ => 0)) 25 (fun _ => 0)) 26 (fun _ => (-1))) 27 (fun _ => 0))) M w in7 0 21 tyX7 tyX7_ok nmX7 rfl rfl (by decide) (by decide +kernel) rfl rfl (q_nz2 (by omega)) (q_fz (by omega)) (Nat.le_of_ble_eq_true rfl) rfl dX7_start_172 (fun H locs w => ?_)
                        refine q_iln M dX7_start_175 (lv_at hl 1 rfl) ?_
                        exact kret _ _ _ _ _ dX7_start_176 w rfl
                      · refine q_aln M dX7_start_132 (lv_at hl 0 rfl) ?_
                        refine q_get (v := .ref (b 25)) M w in7 0 25 rfl rfl (by decide) (by decide +kernel) rfl rfl dX7_start_133 ?_
                        refine q_iln M dX7_start_136 (lv_at hl 2 rfl) ?_
                        refine q_ic M dX7_start_137 ?_
                        refine q_iast (f := zF (ν 25) e) (ws2 := WMod cI cZ b (mset (mset (mset (mset (mset (mset (mset ν 0 (fun _ => 0)) 16 ((stX ν (ν 14 0)).1)) 17 ((stX ν (ν 14 0)).2.1)) 18 (iU (stX ν (ν 14 0)).2.2.1 (ν 14 0) (fsR ν (ν 14 0)))) 19 ((stX ν (ν 14 0)).2.2.2.1)) 20 ((stX ν (ν 14 0)).2.2.2.2)) 25 (iU (zF (ν 25) e) e 0))) M w 20 0 rfl rfl (by omega) rfl dX7_start_138 (fun H locs w => ?_)
                        refine q_inc (z := e) (lv' := [(3, .int (iI (e + 1))), (0, .ref (b 0)), (2, .int (iI (fsR ν (ν 14 0))))]) M dX7_start_139 hl (k := 2) rfl (by decide) rfl (fun ls hl => ?_)
                        refine q_go (tgt := 126) M dX7_start_142 (by decide) ?_
                        rw [zF_s _ he.1] at w
                        exact ih126 (e + 1) (by omega) (by omega) _ _ _ w (lv_sub hl [1, 2, 0] rfl)
                  have w : wW D A zs.heap (WMod cI cZ b (mset (mset (mset (mset (mset (mset (mset ν 0 (fun _ => 0)) 16 ((stX ν (ν 14 0)).1)) 17 ((stX ν (ν 14 0)).2.1)) 18 (iU ((stX ν (ν 14 0)).2.2.1) (ν 14 0) (fsR ν (ν 14 0)))) 19 ((stX ν (ν 14 0)).2.2.2.1)) 20 ((stX ν (ν 14 0)).2.2.2.2)) 25 (zF (ν 25) 0))) H locs := by rw [zF_0]; exact w
                  exact lp126 9 0 (by omega) (by omega) _ _ _ w (lv_sub hl [1, 2, 0] rfl)
                · have q15 := hsl k hj.1 c84
                  have qf := fsR_bd ν hj.1
                  refine q_aln M dX7_start_87 (lv_at hl 0 rfl) ?_
                  refine q_get (v := .ref (b 18)) M w in7 0 18 rfl rfl (by decide) (by decide +kernel) rfl rfl dX7_start_88 ?_
                  refine q_iln M dX7_start_91 (lv_at hl 2 rfl) ?_
                  refine q_iln M dX7_start_92 (lv_at hl 1 rfl) ?_
                  refine q_iast (f := (stX ν k).2.2.1) (ws2 := WMod cI cZ b (mset (mset (mset (mset (mset (mset ν 0 (fun _ => 0)) 16 ((stX ν k).1)) 17 ((stX ν k).2.1)) 18 (iU ((stX ν k).2.2.1) k (fsR ν k))) 19 ((stX ν k).2.2.2.1)) 20 ((stX ν k).2.2.2.2))) M w 17 0 rfl rfl (by omega) rfl dX7_start_93 (fun H locs w => ?_)
                  refine q_iln M dX7_start_94 (lv_at hl 1 rfl) ?_
                  refine q_aln M dX7_start_95 (lv_at hl 0 rfl) ?_
                  refine q_aln M dX7_start_96 (lv_at hl 0 rfl) ?_
                  refine q_get (v := .ref (b 15)) M w in7 0 15 rfl rfl (by decide) (by decide +kernel) rfl rfl dX7_start_97 ?_
                  refine q_iln M dX7_start_100 (lv_at hl 2 rfl) ?_
                  refine q_iald (f := ν 15) M w 14 0 rfl rfl (by omega) dX7_start_101 ?_
                  refine q_iln M dX7_start_102 (lv_at hl 1 rfl) ?_
                  refine qc_iV (As := [.int (iI ((ν 15) k)), .int (iI (fsR ν k))]) (rest := [.int (iI (fsR ν k))]) (wc := WMod cI cZ b (mset (mset (mset (mset (mset (mset ν 0 (fun _ => 0)) 16 ((stX ν k).1)) 17 ((stX ν k).2.1)) 18 (iU ((stX ν k).2.2.1) k (fsR ν k))) 19 ((stX ν k).2.2.2.1)) 20 ((stX ν k).2.2.2.2))) (wc2 := WMod cI cZ b (lyW (mset (mset (mset (mset (mset (mset ν 0 (fun _ => 0)) 16 ((stX ν k).1)) 17 ((stX ν k).2.1)) 18 (iU ((stX ν k).2.2.1) k (fsR ν k))) 19 ((stX ν k).2.2.2.1)) 20 ((stX ν k).2.2.2.2)) (ν 15 k) (fsR ν k))) (ws2 := WMod cI cZ b (mset (mset (mset (mset (mset (mset ν 0 (fun _ => 0)) 16 (cpF (stX ν k).1 (bP (vw ν) (ν 15 k)) (fsR ν k) (lBs (vw ν) (ν 15 k)))) 17 (cpF (stX ν k).2.1 (fB (vw ν) (ν 15 k)) (fsR ν k) (lBs (vw ν) (ν 15 k)))) 18 (iU (stX ν k).2.2.1 k (fsR ν k))) 19 (dnE (vw ν) (ν 15 k) (lBs (vw ν) (ν 15 k)))) 20 ((ly (vw ν) (ν 15 k) (lBs (vw ν) (ν 15 k))).2.2.2))) M w hA hl (m_lays l D cI cZ cJ b (mset (mset (mset (mset (mset (mset ν 0 (fun _ => 0)) 16 ((stX ν k).1)) 17 ((stX ν k).2.1)) 18 (iU ((stX ν k).2.2.1) k (fsR ν k))) 19 ((stX ν k).2.2.2.1)) 20 ((stX ν k).2.2.2.2)) (ν 15 k) (fsR ν k) hI (show SDs (vw (mset (mset (mset (mset (mset (mset ν 0 (fun _ => 0)) 16 ((stX ν k).1)) 17 ((stX ν k).2.1)) 18 (iU ((stX ν k).2.2.1) k (fsR ν k))) 19 ((stX ν k).2.2.2.1)) 20 ((stX ν k).2.2.2.2))) (ν 15 k) from hSD _ q15.1 q15.2) (by omega)) gX7_start_X7_lays rfl ⟨rfl, rfl, by decide, by decide⟩ ⟨Nat.zero_le _, Nat.zero_le _⟩ 2 ⟨rfl, by decide +kernel⟩ rfl [true, true, true, true, true, true, true, true, true, true, true, true, true, true, true, true, true, true, true, true, true] rfl rfl 0 rfl rfl rfl (Nat.le_of_ble_eq_true rfl) rfl dX7_start_103 (fun H locs w => ?_)
                  refine q_add M dX7_start_106 ?_
                  refine q_isn (lv' := [(2, .int (iI ((fsR ν k) + (lBs (vw ν) (ν 15 k))))), (0, .ref (b 0)), (3, .int (iI k))]) M dX7_start_107 rfl hl (by decide) rfl (fun ls hl => ?_)
                  refine q_inc (z := k) (lv' := [(3, .int (iI (k + 1))), (2, .int (iI ((fsR ν k) + (lBs (vw ν) (ν 15 k))))), (0, .ref (b 0))]) M dX7_start_108 hl (k := 2) rfl (by decide) rfl (fun ls hl => ?_)
                  refine q_go (tgt := 79) M dX7_start_111 (by decide) ?_
                  have es : stX ν (k + 1) = _ := itI_s _ _ hj.1
                  have ef : fsR ν (k + 1) = fsR ν k + lBs (vw ν) (ν 15 k) := sI_s _ hj.1
                  have w : wW D A zs.heap (WMod cI cZ b (mset (mset (mset (mset (mset (mset ν 0 (fun _ => 0)) 16 ((stX ν (k + 1)).1)) 17 ((stX ν (k + 1)).2.1)) 18 ((stX ν (k + 1)).2.2.1)) 19 ((stX ν (k + 1)).2.2.2.1)) 20 ((stX ν (k + 1)).2.2.2.2))) H locs := by rw [es]; exact w
                  have hl : lv_has ls 4 [(3, .int (iI (k + 1))), (2, .int (iI (fsR ν (k + 1)))), (0, .ref (b 0))] := by rw [ef]; exact hl
                  exact ih79 (k + 1) (by omega) (by omega) _ _ _ w (lv_sub hl [2, 1, 0] rfl)
            have es0 : stX ν 0 = (ν 16, ν 17, ν 18, ν 19, ν 20) := itI_0 _ _
            have ef0 : fsR ν 0 = 0 := sI_0 _
            have w : wW D A zs.heap (WMod cI cZ b (mset (mset (mset (mset (mset (mset ν 0 (fun _ => 0)) 16 ((stX ν 0).1)) 17 ((stX ν 0).2.1)) 18 ((stX ν 0).2.2.1)) 19 ((stX ν 0).2.2.2.1)) 20 ((stX ν 0).2.2.2.2))) H locs := by rw [es0]; exact w
            have hl : lv_has ls 4 [(3, .int (iI 0)), (2, .int (iI (fsR ν 0))), (0, .ref (b 0)), (1, .int (iI c))] := by rw [ef0]; exact hl
            exact lp79 10 0 (by omega) (by omega) _ _ _ w (lv_sub hl [2, 1, 0] rfl)
          · exact absurd (show canR ν k by rw [show k = ν 14 0 by omega]; exact hok) (hb.elim (fun h => absurd h.1 (by omega)) (fun h => h.2))
        · have hc01 : c = 0 ∨ c = 1 := hb.elim (fun h => Or.inr h.1) (fun h => Or.inl h.1)
          refine q_iln M dX7_start_35 (lv_at hl 1 rfl) ?_
          refine q_if_eq (tgt := 57) M dX7_start_36 (by decide) (by omega) (fun c36 => ?_) (fun c36 => ?_)
          · refine q_ic M dX7_start_57 ?_
            refine q_isn (lv' := [(1, .int (iI 0)), (0, .ref (b 0)), (2, .int (iI k))]) M dX7_start_58 rfl hl (by decide) rfl (fun ls hl => ?_)
            refine q_inc (z := k) (lv' := [(2, .int (iI (k + 1))), (1, .int (iI 0)), (0, .ref (b 0))]) M dX7_start_59 hl (k := 2) rfl (by decide) rfl (fun ls hl => ?_)
            refine q_go (tgt := 27) M dX7_start_62 (by decide) ?_
            exact ih27 (k + 1) 0 (by omega) (Or.inr ⟨rfl, by first | exact canR_g hj.1 (by omega) | exact canR_f (hb.elim (fun h => absurd h.1 (by omega)) (fun h => h.2))⟩) (by omega) _ _ _ w (lv_sub hl [2, 1, 0] rfl)
          · have q15 := hsl k hj.1 c32
            have q9 : 0 ≤ ν 9 (ν 15 k) ∧ ν 9 (ν 15 k) ≤ 8 := (hSD _ q15.1 q15.2).1
            refine q_aln M dX7_start_39 (lv_at hl 0 rfl) ?_
            refine q_get (v := .ref (b 9)) M w in7 0 9 rfl rfl (by decide) (by decide +kernel) rfl rfl dX7_start_40 ?_
            refine q_aln M dX7_start_43 (lv_at hl 0 rfl) ?_
            refine q_get (v := .ref (b 15)) M w in7 0 15 rfl rfl (by decide) (by decide +kernel) rfl rfl dX7_start_44 ?_
            refine q_iln M dX7_start_47 (lv_at hl 2 rfl) ?_
            refine q_iald (f := ν 15) M w 14 0 rfl rfl (by omega) dX7_start_48 ?_
            refine q_iald (f := ν 9) M w 9 0 rfl rfl (by omega) dX7_start_49 ?_
            refine q_if_le (tgt := 57) M dX7_start_50 (by decide) (by omega) (fun c50 => ?_) (fun c50 => ?_)
            · refine q_ic M dX7_start_57 ?_
              refine q_isn (lv' := [(1, .int (iI 0)), (0, .ref (b 0)), (2, .int (iI k))]) M dX7_start_58 rfl hl (by decide) rfl (fun ls hl => ?_)
              refine q_inc (z := k) (lv' := [(2, .int (iI (k + 1))), (1, .int (iI 0)), (0, .ref (b 0))]) M dX7_start_59 hl (k := 2) rfl (by decide) rfl (fun ls hl => ?_)
              refine q_go (tgt := 27) M dX7_start_62 (by decide) ?_
              exact ih27 (k + 1) 0 (by omega) (Or.inr ⟨rfl, by first | exact canR_g hj.1 (by omega) | exact canR_f (hb.elim (fun h => absurd h.1 (by omega)) (fun h => h.2))⟩) (by omega) _ _ _ w (lv_sub hl [2, 1, 0] rfl)
            · refine q_ic M dX7_start_53 ?_
              refine q_go (tgt := 58) M dX7_start_54 (by decide) ?_
              refine q_isn (lv' := [(1, .int (iI 1)), (0, .ref (b 0)), (2, .int (iI k))]) M dX7_start_58 rfl hl (by decide) rfl (fun ls hl => ?_)
              refine q_inc (z := k) (lv' := [(2, .int (iI (k + 1))), (1, .int (iI 1)), (0, .ref (b 0))]) M dX7_start_59 hl (k := 2) rfl (by decide) rfl (fun ls hl => ?_)
              refine q_go (tgt := 27) M dX7_start_62 (by decide) ?_
              exact ih27 (k + 1) 1 (by omega) (Or.inl ⟨rfl, canR_t (hb.elim (fun h => h.2) (fun h => absurd h.1 (by omega))) c50⟩) (by omega) _ _ _ w (lv_sub hl [2, 1, 0] rfl)
    exact lp27 10 0 0 (by omega) (Or.inr ⟨rfl, fun q => by have q1 := q.1; have q2 := q.2.1; omega⟩) (by omega) _ _ _ w (lv_sub hl [2, 1, 0] rfl)
  · refine q_aln M dX7_start_12 (lv_at hl 0 rfl) ?_
    refine q_get (v := .int (iI (ν 14 0))) M w in7 0 14 rfl rfl (by decide) (by decide +kernel) rfl rfl dX7_start_13 ?_
    refine q_if_le (tgt := 23) M dX7_start_16 (by decide) (by omega) (fun c16 => ?_) (fun c16 => ?_)
    · refine q_ic M dX7_start_23 ?_
      refine q_isn (lv' := [(1, .int (iI 0)), (0, .ref (b 0))]) M dX7_start_24 rfl hl (by decide) rfl (fun ls hl => ?_)
      refine q_ic M dX7_start_25 ?_
      refine q_isn (lv' := [(2, .int (iI 0)), (1, .int (iI 0)), (0, .ref (b 0))]) M dX7_start_26 rfl hl (by decide) rfl (fun ls hl => ?_)
      have lp27 : ∀ (n27 : Nat) (k : Int) (c : Int), (0 ≤ k ∧ k ≤ ν 14 0) → ((c = 1 ∧ canR ν k) ∨ (c = 0 ∧ ¬ canR ν k)) → (9 - k : Int) < (n27 : Int) → ∀ (H : Heap) (locs : List Loc) (ls : Array Slot), wW D A zs.heap (WMod cI cZ b (mset ν 0 (fun _ => 0))) H locs → lv_has ls 4 [(0, .ref (b 0)), (1, .int (iI c)), (2, .int (iI k))] → W zp l ze rmX7_start zs zm zargs zbelow zmeth zc H locs 0 0 Q (F0 zm 27 ls []) := by
        intro n27
        induction n27 with
        | zero => intro k c hj hb hm H locs ls w hl; exfalso; omega
        | succ n27 ih27 =>
          intro k c hj hb hm27 H locs ls w hl
          refine q_iln M dX7_start_27 (lv_at hl 2 rfl) ?_
          refine q_aln M dX7_start_28 (lv_at hl 0 rfl) ?_
          refine q_get (v := .int (iI (ν 14 0))) M w in7 0 14 rfl rfl (by decide) (by decide +kernel) rfl rfl dX7_start_29 ?_
          refine q_icmp_ge (tgt := 65) M dX7_start_32 (by decide) (by omega) (fun c32 => ?_) (fun c32 => ?_)
          · have hc01 : c = 0 ∨ c = 1 := hb.elim (fun h => Or.inr h.1) (fun h => Or.inl h.1)
            refine q_iln M dX7_start_65 (lv_at hl 1 rfl) ?_
            refine q_if_ne (tgt := 75) M dX7_start_66 (by decide) (by omega) (fun c66 => ?_) (fun c66 => ?_)
            · refine q_ic M dX7_start_75 ?_
              refine q_isn (lv' := [(2, .int (iI 0)), (0, .ref (b 0)), (1, .int (iI c))]) M dX7_start_76 rfl hl (by decide) rfl (fun ls hl => ?_)
              refine q_ic M dX7_start_77 ?_
              refine q_isn (lv' := [(3, .int (iI 0)), (2, .int (iI 0)), (0, .ref (b 0)), (1, .int (iI c))]) M dX7_start_78 rfl hl (by decide) rfl (fun ls hl => ?_)
              have lp79 : ∀ (n79 : Nat) (k : Int), (0 ≤ k ∧ k ≤ ν 14 0) → (9 - k : Int) < (n79 : Int) → ∀ (H : Heap) (locs : List Loc) (ls : Array Slot), wW D A zs.heap (WMod cI cZ b (mset (mset (mset (mset (mset (mset ν 0 (fun _ => 0)) 16 ((stX ν k).1)) 17 ((stX ν k).2.1)) 18 ((stX ν k).2.2.1)) 19 ((stX ν k).2.2.2.1)) 20 ((stX ν k).2.2.2.2))) H locs → lv_has ls 4 [(0, .ref (b 0)), (2, .int (iI (fsR ν k))), (3, .int (iI k))] → W zp l ze rmX7_start zs zm zargs zbelow zmeth zc H locs 0 0 Q (F0 zm 79 ls []) := by
                intro n79
                induction n79 with
                | zero => intro k hj hm H locs ls w hl; exfalso; omega
                | succ n79 ih79 =>
                  intro k hj hm79 H locs ls w hl
                  refine q_iln M dX7_start_79 (lv_at hl 2 rfl) ?_
                  refine q_aln M dX7_start_80 (lv_at hl 0 rfl) ?_
                  refine q_get (v := .int (iI (ν 14 0))) M w in7 0 14 rfl rfl (by decide) (by decide +kernel) rfl rfl dX7_start_81 ?_
                  refine q_icmp_ge (tgt := 114) M dX7_start_84 (by decide) (by omega) (fun c84 => ?_) (fun c84 => ?_)
                  · have hkk : k = ν 14 0 := by omega
                    have w : wW D A zs.heap (WMod cI cZ b (mset (mset (mset (mset (mset (mset ν 0 (fun _ => 0)) 16 ((stX ν (ν 14 0)).1)) 17 ((stX ν (ν 14 0)).2.1)) 18 ((stX ν (ν 14 0)).2.2.1)) 19 ((stX ν (ν 14 0)).2.2.2.1)) 20 ((stX ν (ν 14 0)).2.2.2.2))) H locs := by rw [← hkk]; exact w
                    rw [hkk] at hl
                    have hl : lv_has ls 4 [(0, .ref (b 0)), (2, .int (iI (fsR ν (ν 14 0))))] := lv_sub hl [0, 1] rfl
                    refine q_aln M dX7_start_114 (lv_at hl 0 rfl) ?_
                    refine q_get (v := .ref (b 18)) M w in7 0 18 rfl rfl (by decide) (by decide +kernel) rfl rfl dX7_start_115 ?_
                    refine q_aln M dX7_start_118 (lv_at hl 0 rfl) ?_
                    refine q_get (v := .int (iI (ν 14 0))) M w in7 0 14 rfl rfl (by decide) (by decide +kernel) rfl rfl dX7_start_119 ?_
                    refine q_iln M dX7_start_122 (lv_at hl 1 rfl) ?_
                    refine q_iast (f := (stX ν (ν 14 0)).2.2.1) (ws2 := WMod cI cZ b (mset (mset (mset (mset (mset (mset ν 0 (fun _ => 0)) 16 ((stX ν (ν 14 0)).1)) 17 ((stX ν (ν 14 0)).2.1)) 18 (iU ((stX ν (ν 14 0)).2.2.1) (ν 14 0) (fsR ν (ν 14 0)))) 19 ((stX ν (ν 14 0)).2.2.2.1)) 20 ((stX ν (ν 14 0)).2.2.2.2))) M w 17 0 rfl rfl (by omega) rfl dX7_start_123 (fun H locs w => ?_)
                    refine q_ic M dX7_start_124 ?_
                    refine q_isn (lv' := [(3, .int (iI 0)), (0, .ref (b 0)), (2, .int (iI (fsR ν (ν 14 0))))]) M dX7_start_125 rfl hl (by decide) rfl (fun ls hl => ?_)
                    have lp126 : ∀ (n126 : Nat) (e : Int), (0 ≤ e ∧ e ≤ 8) → (8 - e : Int) < (n126 : Int) → ∀ (H : Heap) (locs : List Loc) (ls : Array Slot), wW D A zs.heap (WMod cI cZ b (mset (mset (mset (mset (mset (mset (mset ν 0 (fun _ => 0)) 16 ((stX ν (ν 14 0)).1)) 17 ((stX ν (ν 14 0)).2.1)) 18 (iU (stX ν (ν 14 0)).2.2.1 (ν 14 0) (fsR ν (ν 14 0)))) 19 ((stX ν (ν 14 0)).2.2.2.1)) 20 ((stX ν (ν 14 0)).2.2.2.2)) 25 (zF (ν 25) e))) H locs → lv_has ls 4 [(0, .ref (b 0)), (2, .int (iI (fsR ν (ν 14 0)))), (3, .int (iI e))] → W zp l ze rmX7_start zs zm zargs zbelow zmeth zc H locs 0 0 Q (F0 zm 126 ls []) := by
                      intro n126
                      induction n126 with
                      | zero => intro e he hm H locs ls w hl; exfalso; omega
                      | succ n126 ih126 =>
                        intro e he hm126 H locs ls w hl
                        refine q_iln M dX7_start_126 (lv_at hl 2 rfl) ?_
                        refine q_bp M dX7_start_127 (by decide +kernel) ?_
                        refine q_icmp_ge (tgt := 145) M dX7_start_129 (by decide) (by omega) (fun c129 => ?_) (fun c129 => ?_)
                        · rw [show e = 8 by omega] at w
                          have w : wW D A zs.heap (WMod cI cZ b (mset (mset (mset (mset (mset (mset (mset ν 0 (fun _ => 0)) 16 ((stX ν (ν 14 0)).1)) 17 ((stX ν (ν 14 0)).2.1)) 18 (iU (stX ν (ν 14 0)).2.2.1 (ν 14 0) (fsR ν (ν 14 0)))) 19 ((stX ν (ν 14 0)).2.2.2.1)) 20 ((stX ν (ν 14 0)).2.2.2.2)) 25 (fun _ => 0))) H locs := WMod_c25 (ν := (mset (mset (mset (mset (mset (mset ν 0 (fun _ => 0)) 16 ((stX ν (ν 14 0)).1)) 17 ((stX ν (ν 14 0)).2.1)) 18 (iU (stX ν (ν 14 0)).2.2.1 (ν 14 0) (fsR ν (ν 14 0)))) 19 ((stX ν (ν 14 0)).2.2.2.1)) 20 ((stX ν (ν 14 0)).2.2.2.2))) w (fun i h1 h2 => if_pos ⟨h1, h2⟩)
                          refine q_aln M dX7_start_145 (lv_at hl 0 rfl) ?_
                          refine q_ic M dX7_start_146 ?_
                          refine q_put (ws2 := WMod cI cZ b (mset (mset (mset (mset (mset (mset (mset (mset ν 0 (fun _ => 0)) 16 ((stX ν (ν 14 0)).1)) 17 ((stX ν (ν 14 0)).2.1)) 18 (iU (stX ν (ν 14 0)).2.2.1 (ν 14 0) (fsR ν (ν 14 0)))) 19 ((stX ν (ν 14 0)).2.2.2.1)) 20 ((stX ν (ν 14 0)).2.2.2.2)) 25 (fun _ => 0)) 26 (fun _ => (-1)))) M w in7 0 26 tyX7 tyX7_ok nmX7 rfl rfl (by decide) (by decide +kernel) rfl rfl rfl rfl (Nat.le_of_ble_eq_true rfl) rfl dX7_start_147 (fun H locs w => ?_)
                          refine q_aln M dX7_start_150 (lv_at hl 0 rfl) ?_
                          refine q_ic M dX7_start_151 ?_
                          refine q_put (ws2 := WMod cI cZ b (mset (mset (mset (mset (mset (mset (mset (mset (mset ν 0 (fun _ => 0)) 16 ((stX ν (ν 14 0)).1)) 17 ((stX ν (ν 14 0)).2.1)) 18 (iU (stX ν (ν 14 0)).2.2.1 (ν 14 0) (fsR ν (ν 14 0)))) 19 ((stX ν (ν 14 0)).2.2.2.1)) 20 ((stX ν (ν 14 0)).2.2.2.2)) 25 (fun _ => 0)) 26 (fun _ => (-1))) 27 (fun _ => 0))) M w in7 0 27 tyX7 tyX7_ok nmX7 rfl rfl (by decide) (by decide +kernel) rfl rfl rfl rfl (Nat.le_of_ble_eq_true rfl) rfl dX7_start_152 (fun H locs w => ?_)
                          refine q_aln M dX7_start_155 (lv_at hl 0 rfl) ?_
                          refine q_ic M dX7_start_156 ?_
                          refine q_put (ws2 := WMod cI cZ b (mset (mset (mset (mset (mset (mset (mset (mset (mset (mset ν 0 (fun _ => 0)) 16 ((stX ν (ν 14 0)).1)) 17 ((stX ν (ν 14 0)).2.1)) 18 (iU (stX ν (ν 14 0)).2.2.1 (ν 14 0) (fsR ν (ν 14 0)))) 19 ((stX ν (ν 14 0)).2.2.2.1)) 20 ((stX ν (ν 14 0)).2.2.2.2)) 22 (fun _ => 0)) 25 (fun _ => 0)) 26 (fun _ => (-1))) 27 (fun _ => 0))) M w in7 0 22 tyX7 tyX7_ok nmX7 rfl rfl (by decide) (by decide +kernel) rfl rfl rfl rfl (Nat.le_of_ble_eq_true rfl) rfl dX7_start_157 (fun H locs w => ?_)
                          refine q_aln M dX7_start_160 (lv_at hl 0 rfl) ?_
                          refine q_ic M dX7_start_161 ?_
                          refine q_put (ws2 := WMod cI cZ b (mset (mset (mset (mset (mset (mset (mset (mset (mset (mset (mset ν 0 (fun _ => 0)) 16 ((stX ν (ν 14 0)).1)) 17 ((stX ν (ν 14 0)).2.1)) 18 (iU (stX ν (ν 14 0)).2.2.1 (ν 14 0) (fsR ν (ν 14 0)))) 19 ((stX ν (ν 14 0)).2.2.2.1)) 20 ((stX ν (ν 14 0)).2.2.2.2)) 22 (fun _ => 0)) 23 (fun _ => 0)) 25 (fun _ => 0)) 26 (fun _ => (-1))) 27 (fun _ => 0))) M w in7 0 23 tyX7 tyX7_ok nmX7 rfl rfl (by decide) (by decide +kernel) rfl rfl rfl rfl (Nat.le_of_ble_eq_true rfl) rfl dX7_start_162 (fun H locs w => ?_)
                          refine q_aln M dX7_start_165 (lv_at hl 0 rfl) ?_
                          refine q_ic M dX7_start_166 ?_
                          refine q_put (ws2 := WMod cI cZ b (mset (mset (mset (mset (mset (mset (mset (mset (mset (mset (mset (mset ν 0 (fun _ => 0)) 16 ((stX ν (ν 14 0)).1)) 17 ((stX ν (ν 14 0)).2.1)) 18 (iU (stX ν (ν 14 0)).2.2.1 (ν 14 0) (fsR ν (ν 14 0)))) 19 ((stX ν (ν 14 0)).2.2.2.1)) 20 ((stX ν (ν 14 0)).2.2.2.2)) 22 (fun _ => 0)) 23 (fun _ => 0)) 24 (fun _ => 0)) 25 (fun _ => 0)) 26 (fun _ => (-1))) 27 (fun _ => 0))) M w in7 0 24 tyX7 tyX7_ok nmX7 rfl rfl (by decide) (by decide +kernel) rfl rfl rfl rfl (Nat.le_of_ble_eq_true rfl) rfl dX7_start_167 (fun H locs w => ?_)
                          refine q_aln M dX7_start_170 (lv_at hl 0 rfl) ?_
                          refine q_ic M dX7_start_171 ?_
                          refine q_put (ws2 := WMod cI cZ b (mset (mset (mset (mset (mset (mset (mset (mset (mset (mset (mset (mset (mset ν 0 (fun _ => 0)) 16 ((stX ν (ν 14 0)).1)) 17 ((stX ν (ν 14 0)).2.1)) 18 (iU (stX ν (ν 14 0)).2.2.1 (ν 14 0) (fsR ν (ν 14 0)))) 19 ((stX ν (ν 14 0)).2.2.2.1)) 20 ((stX ν (ν 14 0)).2.2.2.2)) 21 (fun _ => 1)) 22 (fun _ => 0)) 23 (fun _ => 0)) 24 (fun _ => 0)) 25 (fun _ => 0)) 26 (fun _ => (-1))) 27 (fun _ => 0))) M w in7 0 21 tyX7 tyX7_ok nmX7 rfl rfl (by decide) (by decide +kernel) rfl rfl (q_nz2 (by omega)) (q_fz (by omega)) (Nat.le_of_ble_eq_true rfl) rfl dX7_start_172 (fun H locs w => ?_)
                          refine q_iln M dX7_start_175 (lv_at hl 1 rfl) ?_
                          exact kret _ _ _ _ _ dX7_start_176 w rfl
                        · refine q_aln M dX7_start_132 (lv_at hl 0 rfl) ?_
                          refine q_get (v := .ref (b 25)) M w in7 0 25 rfl rfl (by decide) (by decide +kernel) rfl rfl dX7_start_133 ?_
                          refine q_iln M dX7_start_136 (lv_at hl 2 rfl) ?_
                          refine q_ic M dX7_start_137 ?_
                          refine q_iast (f := zF (ν 25) e) (ws2 := WMod cI cZ b (mset (mset (mset (mset (mset (mset (mset ν 0 (fun _ => 0)) 16 ((stX ν (ν 14 0)).1)) 17 ((stX ν (ν 14 0)).2.1)) 18 (iU (stX ν (ν 14 0)).2.2.1 (ν 14 0) (fsR ν (ν 14 0)))) 19 ((stX ν (ν 14 0)).2.2.2.1)) 20 ((stX ν (ν 14 0)).2.2.2.2)) 25 (iU (zF (ν 25) e) e 0))) M w 20 0 rfl rfl (by omega) rfl dX7_start_138 (fun H locs w => ?_)
                          refine q_inc (z := e) (lv' := [(3, .int (iI (e + 1))), (0, .ref (b 0)), (2, .int (iI (fsR ν (ν 14 0))))]) M dX7_start_139 hl (k := 2) rfl (by decide) rfl (fun ls hl => ?_)
                          refine q_go (tgt := 126) M dX7_start_142 (by decide) ?_
                          rw [zF_s _ he.1] at w
                          exact ih126 (e + 1) (by omega) (by omega) _ _ _ w (lv_sub hl [1, 2, 0] rfl)
                    have w : wW D A zs.heap (WMod cI cZ b (mset (mset (mset (mset (mset (mset (mset ν 0 (fun _ => 0)) 16 ((stX ν (ν 14 0)).1)) 17 ((stX ν (ν 14 0)).2.1)) 18 (iU ((stX ν (ν 14 0)).2.2.1) (ν 14 0) (fsR ν (ν 14 0)))) 19 ((stX ν (ν 14 0)).2.2.2.1)) 20 ((stX ν (ν 14 0)).2.2.2.2)) 25 (zF (ν 25) 0))) H locs := by rw [zF_0]; exact w
                    exact lp126 9 0 (by omega) (by omega) _ _ _ w (lv_sub hl [1, 2, 0] rfl)
                  · have q15 := hsl k hj.1 c84
                    have qf := fsR_bd ν hj.1
                    refine q_aln M dX7_start_87 (lv_at hl 0 rfl) ?_
                    refine q_get (v := .ref (b 18)) M w in7 0 18 rfl rfl (by decide) (by decide +kernel) rfl rfl dX7_start_88 ?_
                    refine q_iln M dX7_start_91 (lv_at hl 2 rfl) ?_
                    refine q_iln M dX7_start_92 (lv_at hl 1 rfl) ?_
                    refine q_iast (f := (stX ν k).2.2.1) (ws2 := WMod cI cZ b (mset (mset (mset (mset (mset (mset ν 0 (fun _ => 0)) 16 ((stX ν k).1)) 17 ((stX ν k).2.1)) 18 (iU ((stX ν k).2.2.1) k (fsR ν k))) 19 ((stX ν k).2.2.2.1)) 20 ((stX ν k).2.2.2.2))) M w 17 0 rfl rfl (by omega) rfl dX7_start_93 (fun H locs w => ?_)
                    refine q_iln M dX7_start_94 (lv_at hl 1 rfl) ?_
                    refine q_aln M dX7_start_95 (lv_at hl 0 rfl) ?_
                    refine q_aln M dX7_start_96 (lv_at hl 0 rfl) ?_
                    refine q_get (v := .ref (b 15)) M w in7 0 15 rfl rfl (by decide) (by decide +kernel) rfl rfl dX7_start_97 ?_
                    refine q_iln M dX7_start_100 (lv_at hl 2 rfl) ?_
                    refine q_iald (f := ν 15) M w 14 0 rfl rfl (by omega) dX7_start_101 ?_
                    refine q_iln M dX7_start_102 (lv_at hl 1 rfl) ?_
                    refine qc_iV (As := [.int (iI ((ν 15) k)), .int (iI (fsR ν k))]) (rest := [.int (iI (fsR ν k))]) (wc := WMod cI cZ b (mset (mset (mset (mset (mset (mset ν 0 (fun _ => 0)) 16 ((stX ν k).1)) 17 ((stX ν k).2.1)) 18 (iU ((stX ν k).2.2.1) k (fsR ν k))) 19 ((stX ν k).2.2.2.1)) 20 ((stX ν k).2.2.2.2))) (wc2 := WMod cI cZ b (lyW (mset (mset (mset (mset (mset (mset ν 0 (fun _ => 0)) 16 ((stX ν k).1)) 17 ((stX ν k).2.1)) 18 (iU ((stX ν k).2.2.1) k (fsR ν k))) 19 ((stX ν k).2.2.2.1)) 20 ((stX ν k).2.2.2.2)) (ν 15 k) (fsR ν k))) (ws2 := WMod cI cZ b (mset (mset (mset (mset (mset (mset ν 0 (fun _ => 0)) 16 (cpF (stX ν k).1 (bP (vw ν) (ν 15 k)) (fsR ν k) (lBs (vw ν) (ν 15 k)))) 17 (cpF (stX ν k).2.1 (fB (vw ν) (ν 15 k)) (fsR ν k) (lBs (vw ν) (ν 15 k)))) 18 (iU (stX ν k).2.2.1 k (fsR ν k))) 19 (dnE (vw ν) (ν 15 k) (lBs (vw ν) (ν 15 k)))) 20 ((ly (vw ν) (ν 15 k) (lBs (vw ν) (ν 15 k))).2.2.2))) M w hA hl (m_lays l D cI cZ cJ b (mset (mset (mset (mset (mset (mset ν 0 (fun _ => 0)) 16 ((stX ν k).1)) 17 ((stX ν k).2.1)) 18 (iU ((stX ν k).2.2.1) k (fsR ν k))) 19 ((stX ν k).2.2.2.1)) 20 ((stX ν k).2.2.2.2)) (ν 15 k) (fsR ν k) hI (show SDs (vw (mset (mset (mset (mset (mset (mset ν 0 (fun _ => 0)) 16 ((stX ν k).1)) 17 ((stX ν k).2.1)) 18 (iU ((stX ν k).2.2.1) k (fsR ν k))) 19 ((stX ν k).2.2.2.1)) 20 ((stX ν k).2.2.2.2))) (ν 15 k) from hSD _ q15.1 q15.2) (by omega)) gX7_start_X7_lays rfl ⟨rfl, rfl, by decide, by decide⟩ ⟨Nat.zero_le _, Nat.zero_le _⟩ 2 ⟨rfl, by decide +kernel⟩ rfl [true, true, true, true, true, true, true, true, true, true, true, true, true, true, true, true, true, true, true, true, true] rfl rfl 0 rfl rfl rfl (Nat.le_of_ble_eq_true rfl) rfl dX7_start_103 (fun H locs w => ?_)
                    refine q_add M dX7_start_106 ?_
                    refine q_isn (lv' := [(2, .int (iI ((fsR ν k) + (lBs (vw ν) (ν 15 k))))), (0, .ref (b 0)), (3, .int (iI k))]) M dX7_start_107 rfl hl (by decide) rfl (fun ls hl => ?_)
                    refine q_inc (z := k) (lv' := [(3, .int (iI (k + 1))), (2, .int (iI ((fsR ν k) + (lBs (vw ν) (ν 15 k))))), (0, .ref (b 0))]) M dX7_start_108 hl (k := 2) rfl (by decide) rfl (fun ls hl => ?_)
                    refine q_go (tgt := 79) M dX7_start_111 (by decide) ?_
                    have es : stX ν (k + 1) = _ := itI_s _ _ hj.1
                    have ef : fsR ν (k + 1) = fsR ν k + lBs (vw ν) (ν 15 k) := sI_s _ hj.1
                    have w : wW D A zs.heap (WMod cI cZ b (mset (mset (mset (mset (mset (mset ν 0 (fun _ => 0)) 16 ((stX ν (k + 1)).1)) 17 ((stX ν (k + 1)).2.1)) 18 ((stX ν (k + 1)).2.2.1)) 19 ((stX ν (k + 1)).2.2.2.1)) 20 ((stX ν (k + 1)).2.2.2.2))) H locs := by rw [es]; exact w
                    have hl : lv_has ls 4 [(3, .int (iI (k + 1))), (2, .int (iI (fsR ν (k + 1)))), (0, .ref (b 0))] := by rw [ef]; exact hl
                    exact ih79 (k + 1) (by omega) (by omega) _ _ _ w (lv_sub hl [2, 1, 0] rfl)
              have es0 : stX ν 0 = (ν 16, ν 17, ν 18, ν 19, ν 20) := itI_0 _ _
              have ef0 : fsR ν 0 = 0 := sI_0 _
              have w : wW D A zs.heap (WMod cI cZ b (mset (mset (mset (mset (mset (mset ν 0 (fun _ => 0)) 16 ((stX ν 0).1)) 17 ((stX ν 0).2.1)) 18 ((stX ν 0).2.2.1)) 19 ((stX ν 0).2.2.2.1)) 20 ((stX ν 0).2.2.2.2))) H locs := by rw [es0]; exact w
              have hl : lv_has ls 4 [(3, .int (iI 0)), (2, .int (iI (fsR ν 0))), (0, .ref (b 0)), (1, .int (iI c))] := by rw [ef0]; exact hl
              exact lp79 10 0 (by omega) (by omega) _ _ _ w (lv_sub hl [2, 1, 0] rfl)
            · exact absurd (show canR ν k by rw [show k = ν 14 0 by omega]; exact hok) (hb.elim (fun h => absurd h.1 (by omega)) (fun h => h.2))
          · have hc01 : c = 0 ∨ c = 1 := hb.elim (fun h => Or.inr h.1) (fun h => Or.inl h.1)
            refine q_iln M dX7_start_35 (lv_at hl 1 rfl) ?_
            refine q_if_eq (tgt := 57) M dX7_start_36 (by decide) (by omega) (fun c36 => ?_) (fun c36 => ?_)
            · refine q_ic M dX7_start_57 ?_
              refine q_isn (lv' := [(1, .int (iI 0)), (0, .ref (b 0)), (2, .int (iI k))]) M dX7_start_58 rfl hl (by decide) rfl (fun ls hl => ?_)
              refine q_inc (z := k) (lv' := [(2, .int (iI (k + 1))), (1, .int (iI 0)), (0, .ref (b 0))]) M dX7_start_59 hl (k := 2) rfl (by decide) rfl (fun ls hl => ?_)
              refine q_go (tgt := 27) M dX7_start_62 (by decide) ?_
              exact ih27 (k + 1) 0 (by omega) (Or.inr ⟨rfl, by first | exact canR_g hj.1 (by omega) | exact canR_f (hb.elim (fun h => absurd h.1 (by omega)) (fun h => h.2))⟩) (by omega) _ _ _ w (lv_sub hl [2, 1, 0] rfl)
            · have q15 := hsl k hj.1 c32
              have q9 : 0 ≤ ν 9 (ν 15 k) ∧ ν 9 (ν 15 k) ≤ 8 := (hSD _ q15.1 q15.2).1
              refine q_aln M dX7_start_39 (lv_at hl 0 rfl) ?_
              refine q_get (v := .ref (b 9)) M w in7 0 9 rfl rfl (by decide) (by decide +kernel) rfl rfl dX7_start_40 ?_
              refine q_aln M dX7_start_43 (lv_at hl 0 rfl) ?_
              refine q_get (v := .ref (b 15)) M w in7 0 15 rfl rfl (by decide) (by decide +kernel) rfl rfl dX7_start_44 ?_
              refine q_iln M dX7_start_47 (lv_at hl 2 rfl) ?_
              refine q_iald (f := ν 15) M w 14 0 rfl rfl (by omega) dX7_start_48 ?_
              refine q_iald (f := ν 9) M w 9 0 rfl rfl (by omega) dX7_start_49 ?_
              refine q_if_le (tgt := 57) M dX7_start_50 (by decide) (by omega) (fun c50 => ?_) (fun c50 => ?_)
              · refine q_ic M dX7_start_57 ?_
                refine q_isn (lv' := [(1, .int (iI 0)), (0, .ref (b 0)), (2, .int (iI k))]) M dX7_start_58 rfl hl (by decide) rfl (fun ls hl => ?_)
                refine q_inc (z := k) (lv' := [(2, .int (iI (k + 1))), (1, .int (iI 0)), (0, .ref (b 0))]) M dX7_start_59 hl (k := 2) rfl (by decide) rfl (fun ls hl => ?_)
                refine q_go (tgt := 27) M dX7_start_62 (by decide) ?_
                exact ih27 (k + 1) 0 (by omega) (Or.inr ⟨rfl, by first | exact canR_g hj.1 (by omega) | exact canR_f (hb.elim (fun h => absurd h.1 (by omega)) (fun h => h.2))⟩) (by omega) _ _ _ w (lv_sub hl [2, 1, 0] rfl)
              · refine q_ic M dX7_start_53 ?_
                refine q_go (tgt := 58) M dX7_start_54 (by decide) ?_
                refine q_isn (lv' := [(1, .int (iI 1)), (0, .ref (b 0)), (2, .int (iI k))]) M dX7_start_58 rfl hl (by decide) rfl (fun ls hl => ?_)
                refine q_inc (z := k) (lv' := [(2, .int (iI (k + 1))), (1, .int (iI 1)), (0, .ref (b 0))]) M dX7_start_59 hl (k := 2) rfl (by decide) rfl (fun ls hl => ?_)
                refine q_go (tgt := 27) M dX7_start_62 (by decide) ?_
                exact ih27 (k + 1) 1 (by omega) (Or.inl ⟨rfl, canR_t (hb.elim (fun h => h.2) (fun h => absurd h.1 (by omega))) c50⟩) (by omega) _ _ _ w (lv_sub hl [2, 1, 0] rfl)
      exact lp27 10 0 0 (by omega) (Or.inr ⟨rfl, fun q => by have q1 := q.1; have q2 := q.2.1; omega⟩) (by omega) _ _ _ w (lv_sub hl [2, 1, 0] rfl)
    · refine q_ic M dX7_start_19 ?_
      refine q_go (tgt := 24) M dX7_start_20 (by decide) ?_
      refine q_isn (lv' := [(1, .int (iI 1)), (0, .ref (b 0))]) M dX7_start_24 rfl hl (by decide) rfl (fun ls hl => ?_)
      refine q_ic M dX7_start_25 ?_
      refine q_isn (lv' := [(2, .int (iI 0)), (1, .int (iI 1)), (0, .ref (b 0))]) M dX7_start_26 rfl hl (by decide) rfl (fun ls hl => ?_)
      have lp27 : ∀ (n27 : Nat) (k : Int) (c : Int), (0 ≤ k ∧ k ≤ ν 14 0) → ((c = 1 ∧ canR ν k) ∨ (c = 0 ∧ ¬ canR ν k)) → (9 - k : Int) < (n27 : Int) → ∀ (H : Heap) (locs : List Loc) (ls : Array Slot), wW D A zs.heap (WMod cI cZ b (mset ν 0 (fun _ => 0))) H locs → lv_has ls 4 [(0, .ref (b 0)), (1, .int (iI c)), (2, .int (iI k))] → W zp l ze rmX7_start zs zm zargs zbelow zmeth zc H locs 0 0 Q (F0 zm 27 ls []) := by
        intro n27
        induction n27 with
        | zero => intro k c hj hb hm H locs ls w hl; exfalso; omega
        | succ n27 ih27 =>
          intro k c hj hb hm27 H locs ls w hl
          refine q_iln M dX7_start_27 (lv_at hl 2 rfl) ?_
          refine q_aln M dX7_start_28 (lv_at hl 0 rfl) ?_
          refine q_get (v := .int (iI (ν 14 0))) M w in7 0 14 rfl rfl (by decide) (by decide +kernel) rfl rfl dX7_start_29 ?_
          refine q_icmp_ge (tgt := 65) M dX7_start_32 (by decide) (by omega) (fun c32 => ?_) (fun c32 => ?_)
          · have hc01 : c = 0 ∨ c = 1 := hb.elim (fun h => Or.inr h.1) (fun h => Or.inl h.1)
            refine q_iln M dX7_start_65 (lv_at hl 1 rfl) ?_
            refine q_if_ne (tgt := 75) M dX7_start_66 (by decide) (by omega) (fun c66 => ?_) (fun c66 => ?_)
            · refine q_ic M dX7_start_75 ?_
              refine q_isn (lv' := [(2, .int (iI 0)), (0, .ref (b 0)), (1, .int (iI c))]) M dX7_start_76 rfl hl (by decide) rfl (fun ls hl => ?_)
              refine q_ic M dX7_start_77 ?_
              refine q_isn (lv' := [(3, .int (iI 0)), (2, .int (iI 0)), (0, .ref (b 0)), (1, .int (iI c))]) M dX7_start_78 rfl hl (by decide) rfl (fun ls hl => ?_)
              have lp79 : ∀ (n79 : Nat) (k : Int), (0 ≤ k ∧ k ≤ ν 14 0) → (9 - k : Int) < (n79 : Int) → ∀ (H : Heap) (locs : List Loc) (ls : Array Slot), wW D A zs.heap (WMod cI cZ b (mset (mset (mset (mset (mset (mset ν 0 (fun _ => 0)) 16 ((stX ν k).1)) 17 ((stX ν k).2.1)) 18 ((stX ν k).2.2.1)) 19 ((stX ν k).2.2.2.1)) 20 ((stX ν k).2.2.2.2))) H locs → lv_has ls 4 [(0, .ref (b 0)), (2, .int (iI (fsR ν k))), (3, .int (iI k))] → W zp l ze rmX7_start zs zm zargs zbelow zmeth zc H locs 0 0 Q (F0 zm 79 ls []) := by
                intro n79
                induction n79 with
                | zero => intro k hj hm H locs ls w hl; exfalso; omega
                | succ n79 ih79 =>
                  intro k hj hm79 H locs ls w hl
                  refine q_iln M dX7_start_79 (lv_at hl 2 rfl) ?_
                  refine q_aln M dX7_start_80 (lv_at hl 0 rfl) ?_
                  refine q_get (v := .int (iI (ν 14 0))) M w in7 0 14 rfl rfl (by decide) (by decide +kernel) rfl rfl dX7_start_81 ?_
                  refine q_icmp_ge (tgt := 114) M dX7_start_84 (by decide) (by omega) (fun c84 => ?_) (fun c84 => ?_)
                  · have hkk : k = ν 14 0 := by omega
                    have w : wW D A zs.heap (WMod cI cZ b (mset (mset (mset (mset (mset (mset ν 0 (fun _ => 0)) 16 ((stX ν (ν 14 0)).1)) 17 ((stX ν (ν 14 0)).2.1)) 18 ((stX ν (ν 14 0)).2.2.1)) 19 ((stX ν (ν 14 0)).2.2.2.1)) 20 ((stX ν (ν 14 0)).2.2.2.2))) H locs := by rw [← hkk]; exact w
                    rw [hkk] at hl
                    have hl : lv_has ls 4 [(0, .ref (b 0)), (2, .int (iI (fsR ν (ν 14 0))))] := lv_sub hl [0, 1] rfl
                    refine q_aln M dX7_start_114 (lv_at hl 0 rfl) ?_
                    refine q_get (v := .ref (b 18)) M w in7 0 18 rfl rfl (by decide) (by decide +kernel) rfl rfl dX7_start_115 ?_
                    refine q_aln M dX7_start_118 (lv_at hl 0 rfl) ?_
                    refine q_get (v := .int (iI (ν 14 0))) M w in7 0 14 rfl rfl (by decide) (by decide +kernel) rfl rfl dX7_start_119 ?_
                    refine q_iln M dX7_start_122 (lv_at hl 1 rfl) ?_
                    refine q_iast (f := (stX ν (ν 14 0)).2.2.1) (ws2 := WMod cI cZ b (mset (mset (mset (mset (mset (mset ν 0 (fun _ => 0)) 16 ((stX ν (ν 14 0)).1)) 17 ((stX ν (ν 14 0)).2.1)) 18 (iU ((stX ν (ν 14 0)).2.2.1) (ν 14 0) (fsR ν (ν 14 0)))) 19 ((stX ν (ν 14 0)).2.2.2.1)) 20 ((stX ν (ν 14 0)).2.2.2.2))) M w 17 0 rfl rfl (by omega) rfl dX7_start_123 (fun H locs w => ?_)
                    refine q_ic M dX7_start_124 ?_
                    refine q_isn (lv' := [(3, .int (iI 0)), (0, .ref (b 0)), (2, .int (iI (fsR ν (ν 14 0))))]) M dX7_start_125 rfl hl (by decide) rfl (fun ls hl => ?_)
                    have lp126 : ∀ (n126 : Nat) (e : Int), (0 ≤ e ∧ e ≤ 8) → (8 - e : Int) < (n126 : Int) → ∀ (H : Heap) (locs : List Loc) (ls : Array Slot), wW D A zs.heap (WMod cI cZ b (mset (mset (mset (mset (mset (mset (mset ν 0 (fun _ => 0)) 16 ((stX ν (ν 14 0)).1)) 17 ((stX ν (ν 14 0)).2.1)) 18 (iU (stX ν (ν 14 0)).2.2.1 (ν 14 0) (fsR ν (ν 14 0)))) 19 ((stX ν (ν 14 0)).2.2.2.1)) 20 ((stX ν (ν 14 0)).2.2.2.2)) 25 (zF (ν 25) e))) H locs → lv_has ls 4 [(0, .ref (b 0)), (2, .int (iI (fsR ν (ν 14 0)))), (3, .int (iI e))] → W zp l ze rmX7_start zs zm zargs zbelow zmeth zc H locs 0 0 Q (F0 zm 126 ls []) := by
                      intro n126
                      induction n126 with
                      | zero => intro e he hm H locs ls w hl; exfalso; omega
                      | succ n126 ih126 =>
                        intro e he hm126 H locs ls w hl
                        refine q_iln M dX7_start_126 (lv_at hl 2 rfl) ?_
                        refine q_bp M dX7_start_127 (by decide +kernel) ?_
                        refine q_icmp_ge (tgt := 145) M dX7_start_129 (by decide) (by omega) (fun c129 => ?_) (fun c129 => ?_)
                        · rw [show e = 8 by omega] at w
                          have w : wW D A zs.heap (WMod cI cZ b (mset (mset (mset (mset (mset (mset (mset ν 0 (fun _ => 0)) 16 ((stX ν (ν 14 0)).1)) 17 ((stX ν (ν 14 0)).2.1)) 18 (iU (stX ν (ν 14 0)).2.2.1 (ν 14 0) (fsR ν (ν 14 0)))) 19 ((stX ν (ν 14 0)).2.2.2.1)) 20 ((stX ν (ν 14 0)).2.2.2.2)) 25 (fun _ => 0))) H locs := WMod_c25 (ν := (mset (mset (mset (mset (mset (mset ν 0 (fun _ => 0)) 16 ((stX ν (ν 14 0)).1)) 17 ((stX ν (ν 14 0)).2.1)) 18 (iU (stX ν (ν 14 0)).2.2.1 (ν 14 0) (fsR ν (ν 14 0)))) 19 ((stX ν (ν 14 0)).2.2.2.1)) 20 ((stX ν (ν 14 0)).2.2.2.2))) w (fun i h1 h2 => if_pos ⟨h1, h2⟩)
                          refine q_aln M dX7_start_145 (lv_at hl 0 rfl) ?_
                          refine q_ic M dX7_start_146 ?_
                          refine q_put (ws2 := WMod cI cZ b (mset (mset (mset (mset (mset (mset (mset (mset ν 0 (fun _ => 0)) 16 ((stX ν (ν 14 0)).1)) 17 ((stX ν (ν 14 0)).2.1)) 18 (iU (stX ν (ν 14 0)).2.2.1 (ν 14 0) (fsR ν (ν 14 0)))) 19 ((stX ν (ν 14 0)).2.2.2.1)) 20 ((stX ν (ν 14 0)).2.2.2.2)) 25 (fun _ => 0)) 26 (fun _ => (-1)))) M w in7 0 26 tyX7 tyX7_ok nmX7 rfl rfl (by decide) (by decide +kernel) rfl rfl rfl rfl (Nat.le_of_ble_eq_true rfl) rfl dX7_start_147 (fun H locs w => ?_)
                          refine q_aln M dX7_start_150 (lv_at hl 0 rfl) ?_
                          refine q_ic M dX7_start_151 ?_
                          refine q_put (ws2 := WMod cI cZ b (mset (mset (mset (mset (mset (mset (mset (mset (mset ν 0 (fun _ => 0)) 16 ((stX ν (ν 14 0)).1)) 17 ((stX ν (ν 14 0)).2.1)) 18 (iU (stX ν (ν 14 0)).2.2.1 (ν 14 0) (fsR ν (ν 14 0)))) 19 ((stX ν (ν 14 0)).2.2.2.1)) 20 ((stX ν (ν 14 0)).2.2.2.2)) 25 (fun _ => 0)) 26 (fun _ => (-1))) 27 (fun _ => 0))) M w in7 0 27 tyX7 tyX7_ok nmX7 rfl rfl (by decide) (by decide +kernel) rfl rfl rfl rfl (Nat.le_of_ble_eq_true rfl) rfl dX7_start_152 (fun H locs w => ?_)
                          refine q_aln M dX7_start_155 (lv_at hl 0 rfl) ?_
                          refine q_ic M dX7_start_156 ?_
                          refine q_put (ws2 := WMod cI cZ b (mset (mset (mset (mset (mset (mset (mset (mset (mset (mset ν 0 (fun _ => 0)) 16 ((stX ν (ν 14 0)).1)) 17 ((stX ν (ν 14 0)).2.1)) 18 (iU (stX ν (ν 14 0)).2.2.1 (ν 14 0) (fsR ν (ν 14 0)))) 19 ((stX ν (ν 14 0)).2.2.2.1)) 20 ((stX ν (ν 14 0)).2.2.2.2)) 22 (fun _ => 0)) 25 (fun _ => 0)) 26 (fun _ => (-1))) 27 (fun _ => 0))) M w in7 0 22 tyX7 tyX7_ok nmX7 rfl rfl (by decide) (by decide +kernel) rfl rfl rfl rfl (Nat.le_of_ble_eq_true rfl) rfl dX7_start_157 (fun H locs w => ?_)
                          refine q_aln M dX7_start_160 (lv_at hl 0 rfl) ?_
                          refine q_ic M dX7_start_161 ?_
                          refine q_put (ws2 := WMod cI cZ b (mset (mset (mset (mset (mset (mset (mset (mset (mset (mset (mset ν 0 (fun _ => 0)) 16 ((stX ν (ν 14 0)).1)) 17 ((stX ν (ν 14 0)).2.1)) 18 (iU (stX ν (ν 14 0)).2.2.1 (ν 14 0) (fsR ν (ν 14 0)))) 19 ((stX ν (ν 14 0)).2.2.2.1)) 20 ((stX ν (ν 14 0)).2.2.2.2)) 22 (fun _ => 0)) 23 (fun _ => 0)) 25 (fun _ => 0)) 26 (fun _ => (-1))) 27 (fun _ => 0))) M w in7 0 23 tyX7 tyX7_ok nmX7 rfl rfl (by decide) (by decide +kernel) rfl rfl rfl rfl (Nat.le_of_ble_eq_true rfl) rfl dX7_start_162 (fun H locs w => ?_)
                          refine q_aln M dX7_start_165 (lv_at hl 0 rfl) ?_
                          refine q_ic M dX7_start_166 ?_
                          refine q_put (ws2 := WMod cI cZ b (mset (mset (mset (mset (mset (mset (mset (mset (mset (mset (mset (mset ν 0 (fun _ => 0)) 16 ((stX ν (ν 14 0)).1)) 17 ((stX ν (ν 14 0)).2.1)) 18 (iU (stX ν (ν 14 0)).2.2.1 (ν 14 0) (fsR ν (ν 14 0)))) 19 ((stX ν (ν 14 0)).2.2.2.1)) 20 ((stX ν (ν 14 0)).2.2.2.2)) 22 (fun _ => 0)) 23 (fun _ => 0)) 24 (fun _ => 0)) 25 (fun _ => 0)) 26 (fun _ => (-1))) 27 (fun _ => 0))) M w in7 0 24 tyX7 tyX7_ok nmX7 rfl rfl (by decide) (by decide +kernel) rfl rfl rfl rfl (Nat.le_of_ble_eq_true rfl) rfl dX7_start_167 (fun H locs w => ?_)
                          refine q_aln M dX7_start_170 (lv_at hl 0 rfl) ?_
                          refine q_ic M dX7_start_171 ?_
                          refine q_put (ws2 := WMod cI cZ b (mset (mset (mset (mset (mset (mset (mset (mset (mset (mset (mset (mset (mset ν 0 (fun _ => 0)) 16 ((stX ν (ν 14 0)).1)) 17 ((stX ν (ν 14 0)).2.1)) 18 (iU (stX ν (ν 14 0)).2.2.1 (ν 14 0) (fsR ν (ν 14 0)))) 19 ((stX ν (ν 14 0)).2.2.2.1)) 20 ((stX ν (ν 14 0)).2.2.2.2)) 21 (fun _ => 1)) 22 (fun _ => 0)) 23 (fun _ => 0)) 24 (fun _ => 0)) 25 (fun _ => 0)) 26 (fun _ => (-1))) 27 (fun _ => 0))) M w in7 0 21 tyX7 tyX7_ok nmX7 rfl rfl (by decide) (by decide +kernel) rfl rfl (q_nz2 (by omega)) (q_fz (by omega)) (Nat.le_of_ble_eq_true rfl) rfl dX7_start_172 (fun H locs w => ?_)
                          refine q_iln M dX7_start_175 (lv_at hl 1 rfl) ?_
                          exact kret _ _ _ _ _ dX7_start_176 w rfl
                        · refine q_aln M dX7_start_132 (lv_at hl 0 rfl) ?_
                          refine q_get (v := .ref (b 25)) M w in7 0 25 rfl rfl (by decide) (by decide +kernel) rfl rfl dX7_start_133 ?_
                          refine q_iln M dX7_start_136 (lv_at hl 2 rfl) ?_
                          refine q_ic M dX7_start_137 ?_
                          refine q_iast (f := zF (ν 25) e) (ws2 := WMod cI cZ b (mset (mset (mset (mset (mset (mset (mset ν 0 (fun _ => 0)) 16 ((stX ν (ν 14 0)).1)) 17 ((stX ν (ν 14 0)).2.1)) 18 (iU (stX ν (ν 14 0)).2.2.1 (ν 14 0) (fsR ν (ν 14 0)))) 19 ((stX ν (ν 14 0)).2.2.2.1)) 20 ((stX ν (ν 14 0)).2.2.2.2)) 25 (iU (zF (ν 25) e) e 0))) M w 20 0 rfl rfl (by omega) rfl dX7_start_138 (fun H locs w => ?_)
                          refine q_inc (z := e) (lv' := [(3, .int (iI (e + 1))), (0, .ref (b 0)), (2, .int (iI (fsR ν (ν 14 0))))]) M dX7_start_139 hl (k := 2) rfl (by decide) rfl (fun ls hl => ?_)
                          refine q_go (tgt := 126) M dX7_start_142 (by decide) ?_
                          rw [zF_s _ he.1] at w
                          exact ih126 (e + 1) (by omega) (by omega) _ _ _ w (lv_sub hl [1, 2, 0] rfl)
                    have w : wW D A zs.heap (WMod cI cZ b (mset (mset (mset (mset (mset (mset (mset ν 0 (fun _ => 0)) 16 ((stX ν (ν 14 0)).1)) 17 ((stX ν (ν 14 0)).2.1)) 18 (iU ((stX ν (ν 14 0)).2.2.1) (ν 14 0) (fsR ν (ν 14 0)))) 19 ((stX ν (ν 14 0)).2.2.2.1)) 20 ((stX ν (ν 14 0)).2.2.2.2)) 25 (zF (ν 25) 0))) H locs := by rw [zF_0]; exact w
                    exact lp126 9 0 (by omega) (by omega) _ _ _ w (lv_sub hl [1, 2, 0] rfl)
                  · have q15 := hsl k hj.1 c84
                    have qf := fsR_bd ν hj.1
                    refine q_aln M dX7_start_87 (lv_at hl 0 rfl) ?_
                    refine q_get (v := .ref (b 18)) M w in7 0 18 rfl rfl (by decide) (by decide +kernel) rfl rfl dX7_start_88 ?_
                    refine q_iln M dX7_start_91 (lv_at hl 2 rfl) ?_
                    refine q_iln M dX7_start_92 (lv_at hl 1 rfl) ?_
                    refine q_iast (f := (stX ν k).2.2.1) (ws2 := WMod cI cZ b (mset (mset (mset (mset (mset (mset ν 0 (fun _ => 0)) 16 ((stX ν k).1)) 17 ((stX ν k).2.1)) 18 (iU ((stX ν k).2.2.1) k (fsR ν k))) 19 ((stX ν k).2.2.2.1)) 20 ((stX ν k).2.2.2.2))) M w 17 0 rfl rfl (by omega) rfl dX7_start_93 (fun H locs w => ?_)
                    refine q_iln M dX7_start_94 (lv_at hl 1 rfl) ?_
                    refine q_aln M dX7_start_95 (lv_at hl 0 rfl) ?_
                    refine q_aln M dX7_start_96 (lv_at hl 0 rfl) ?_
                    refine q_get (v := .ref (b 15)) M w in7 0 15 rfl rfl (by decide) (by decide +kernel) rfl rfl dX7_start_97 ?_
                    refine q_iln M dX7_start_100 (lv_at hl 2 rfl) ?_
                    refine q_iald (f := ν 15) M w 14 0 rfl rfl (by omega) dX7_start_101 ?_
                    refine q_iln M dX7_start_102 (lv_at hl 1 rfl) ?_
                    refine qc_iV (As := [.int (iI ((ν 15) k)), .int (iI (fsR ν k))]) (rest := [.int (iI (fsR ν k))]) (wc := WMod cI cZ b (mset (mset (mset (mset (mset (mset ν 0 (fun _ => 0)) 16 ((stX ν k).1)) 17 ((stX ν k).2.1)) 18 (iU ((stX ν k).2.2.1) k (fsR ν k))) 19 ((stX ν k).2.2.2.1)) 20 ((stX ν k).2.2.2.2))) (wc2 := WMod cI cZ b (lyW (mset (mset (mset (mset (mset (mset ν 0 (fun _ => 0)) 16 ((stX ν k).1)) 17 ((stX ν k).2.1)) 18 (iU ((stX ν k).2.2.1) k (fsR ν k))) 19 ((stX ν k).2.2.2.1)) 20 ((stX ν k).2.2.2.2)) (ν 15 k) (fsR ν k))) (ws2 := WMod cI cZ b (mset (mset (mset (mset (mset (mset ν 0 (fun _ => 0)) 16 (cpF (stX ν k).1 (bP (vw ν) (ν 15 k)) (fsR ν k) (lBs (vw ν) (ν 15 k)))) 17 (cpF (stX ν k).2.1 (fB (vw ν) (ν 15 k)) (fsR ν k) (lBs (vw ν) (ν 15 k)))) 18 (iU (stX ν k).2.2.1 k (fsR ν k))) 19 (dnE (vw ν) (ν 15 k) (lBs (vw ν) (ν 15 k)))) 20 ((ly (vw ν) (ν 15 k) (lBs (vw ν) (ν 15 k))).2.2.2))) M w hA hl (m_lays l D cI cZ cJ b (mset (mset (mset (mset (mset (mset ν 0 (fun _ => 0)) 16 ((stX ν k).1)) 17 ((stX ν k).2.1)) 18 (iU ((stX ν k).2.2.1) k (fsR ν k))) 19 ((stX ν k).2.2.2.1)) 20 ((stX ν k).2.2.2.2)) (ν 15 k) (fsR ν k) hI (show SDs (vw (mset (mset (mset (mset (mset (mset ν 0 (fun _ => 0)) 16 ((stX ν k).1)) 17 ((stX ν k).2.1)) 18 (iU ((stX ν k).2.2.1) k (fsR ν k))) 19 ((stX ν k).2.2.2.1)) 20 ((stX ν k).2.2.2.2))) (ν 15 k) from hSD _ q15.1 q15.2) (by omega)) gX7_start_X7_lays rfl ⟨rfl, rfl, by decide, by decide⟩ ⟨Nat.zero_le _, Nat.zero_le _⟩ 2 ⟨rfl, by decide +kernel⟩ rfl [true, true, true, true, true, true, true, true, true, true, true, true, true, true, true, true, true, true, true, true, true] rfl rfl 0 rfl rfl rfl (Nat.le_of_ble_eq_true rfl) rfl dX7_start_103 (fun H locs w => ?_)
                    refine q_add M dX7_start_106 ?_
                    refine q_isn (lv' := [(2, .int (iI ((fsR ν k) + (lBs (vw ν) (ν 15 k))))), (0, .ref (b 0)), (3, .int (iI k))]) M dX7_start_107 rfl hl (by decide) rfl (fun ls hl => ?_)
                    refine q_inc (z := k) (lv' := [(3, .int (iI (k + 1))), (2, .int (iI ((fsR ν k) + (lBs (vw ν) (ν 15 k))))), (0, .ref (b 0))]) M dX7_start_108 hl (k := 2) rfl (by decide) rfl (fun ls hl => ?_)
                    refine q_go (tgt := 79) M dX7_start_111 (by decide) ?_
                    have es : stX ν (k + 1) = _ := itI_s _ _ hj.1
                    have ef : fsR ν (k + 1) = fsR ν k + lBs (vw ν) (ν 15 k) := sI_s _ hj.1
                    have w : wW D A zs.heap (WMod cI cZ b (mset (mset (mset (mset (mset (mset ν 0 (fun _ => 0)) 16 ((stX ν (k + 1)).1)) 17 ((stX ν (k + 1)).2.1)) 18 ((stX ν (k + 1)).2.2.1)) 19 ((stX ν (k + 1)).2.2.2.1)) 20 ((stX ν (k + 1)).2.2.2.2))) H locs := by rw [es]; exact w
                    have hl : lv_has ls 4 [(3, .int (iI (k + 1))), (2, .int (iI (fsR ν (k + 1)))), (0, .ref (b 0))] := by rw [ef]; exact hl
                    exact ih79 (k + 1) (by omega) (by omega) _ _ _ w (lv_sub hl [2, 1, 0] rfl)
              have es0 : stX ν 0 = (ν 16, ν 17, ν 18, ν 19, ν 20) := itI_0 _ _
              have ef0 : fsR ν 0 = 0 := sI_0 _
              have w : wW D A zs.heap (WMod cI cZ b (mset (mset (mset (mset (mset (mset ν 0 (fun _ => 0)) 16 ((stX ν 0).1)) 17 ((stX ν 0).2.1)) 18 ((stX ν 0).2.2.1)) 19 ((stX ν 0).2.2.2.1)) 20 ((stX ν 0).2.2.2.2))) H locs := by rw [es0]; exact w
              have hl : lv_has ls 4 [(3, .int (iI 0)), (2, .int (iI (fsR ν 0))), (0, .ref (b 0)), (1, .int (iI c))] := by rw [ef0]; exact hl
              exact lp79 10 0 (by omega) (by omega) _ _ _ w (lv_sub hl [2, 1, 0] rfl)
            · exact absurd (show canR ν k by rw [show k = ν 14 0 by omega]; exact hok) (hb.elim (fun h => absurd h.1 (by omega)) (fun h => h.2))
          · have hc01 : c = 0 ∨ c = 1 := hb.elim (fun h => Or.inr h.1) (fun h => Or.inl h.1)
            refine q_iln M dX7_start_35 (lv_at hl 1 rfl) ?_
            refine q_if_eq (tgt := 57) M dX7_start_36 (by decide) (by omega) (fun c36 => ?_) (fun c36 => ?_)
            · refine q_ic M dX7_start_57 ?_
              refine q_isn (lv' := [(1, .int (iI 0)), (0, .ref (b 0)), (2, .int (iI k))]) M dX7_start_58 rfl hl (by decide) rfl (fun ls hl => ?_)
              refine q_inc (z := k) (lv' := [(2, .int (iI (k + 1))), (1, .int (iI 0)), (0, .ref (b 0))]) M dX7_start_59 hl (k := 2) rfl (by decide) rfl (fun ls hl => ?_)
              refine q_go (tgt := 27) M dX7_start_62 (by decide) ?_
              exact ih27 (k + 1) 0 (by omega) (Or.inr ⟨rfl, by first | exact canR_g hj.1 (by omega) | exact canR_f (hb.elim (fun h => absurd h.1 (by omega)) (fun h => h.2))⟩) (by omega) _ _ _ w (lv_sub hl [2, 1, 0] rfl)
            · have q15 := hsl k hj.1 c32
              have q9 : 0 ≤ ν 9 (ν 15 k) ∧ ν 9 (ν 15 k) ≤ 8 := (hSD _ q15.1 q15.2).1
              refine q_aln M dX7_start_39 (lv_at hl 0 rfl) ?_
              refine q_get (v := .ref (b 9)) M w in7 0 9 rfl rfl (by decide) (by decide +kernel) rfl rfl dX7_start_40 ?_
              refine q_aln M dX7_start_43 (lv_at hl 0 rfl) ?_
              refine q_get (v := .ref (b 15)) M w in7 0 15 rfl rfl (by decide) (by decide +kernel) rfl rfl dX7_start_44 ?_
              refine q_iln M dX7_start_47 (lv_at hl 2 rfl) ?_
              refine q_iald (f := ν 15) M w 14 0 rfl rfl (by omega) dX7_start_48 ?_
              refine q_iald (f := ν 9) M w 9 0 rfl rfl (by omega) dX7_start_49 ?_
              refine q_if_le (tgt := 57) M dX7_start_50 (by decide) (by omega) (fun c50 => ?_) (fun c50 => ?_)
              · refine q_ic M dX7_start_57 ?_
                refine q_isn (lv' := [(1, .int (iI 0)), (0, .ref (b 0)), (2, .int (iI k))]) M dX7_start_58 rfl hl (by decide) rfl (fun ls hl => ?_)
                refine q_inc (z := k) (lv' := [(2, .int (iI (k + 1))), (1, .int (iI 0)), (0, .ref (b 0))]) M dX7_start_59 hl (k := 2) rfl (by decide) rfl (fun ls hl => ?_)
                refine q_go (tgt := 27) M dX7_start_62 (by decide) ?_
                exact ih27 (k + 1) 0 (by omega) (Or.inr ⟨rfl, by first | exact canR_g hj.1 (by omega) | exact canR_f (hb.elim (fun h => absurd h.1 (by omega)) (fun h => h.2))⟩) (by omega) _ _ _ w (lv_sub hl [2, 1, 0] rfl)
              · refine q_ic M dX7_start_53 ?_
                refine q_go (tgt := 58) M dX7_start_54 (by decide) ?_
                refine q_isn (lv' := [(1, .int (iI 1)), (0, .ref (b 0)), (2, .int (iI k))]) M dX7_start_58 rfl hl (by decide) rfl (fun ls hl => ?_)
                refine q_inc (z := k) (lv' := [(2, .int (iI (k + 1))), (1, .int (iI 1)), (0, .ref (b 0))]) M dX7_start_59 hl (k := 2) rfl (by decide) rfl (fun ls hl => ?_)
                refine q_go (tgt := 27) M dX7_start_62 (by decide) ?_
                exact ih27 (k + 1) 1 (by omega) (Or.inl ⟨rfl, canR_t (hb.elim (fun h => h.2) (fun h => absurd h.1 (by omega))) c50⟩) (by omega) _ _ _ w (lv_sub hl [2, 1, 0] rfl)
      exact lp27 10 0 1 (by omega) (Or.inl ⟨rfl, by omega, by omega, fun j h1 h2 => by omega⟩) (by omega) _ _ _ w (lv_sub hl [2, 1, 0] rfl)

/-- what next uses are read off: the bars of the set, its place -/
def NX (ν : Nat → Int → Int) : Prop := IP (vw ν) ∧ (∀ i, 0 ≤ i → i < ν 18 (ν 14 0) → (0 ≤ ν 16 i ∧ ν 16 i < 12) ∧ 0 ≤ ν 17 i ∧ ν 17 i ≤ 1) ∧ (0 ≤ ν 18 (ν 14 0) ∧ ν 18 (ν 14 0) ≤ 512) ∧ (0 ≤ ν 14 0 ∧ ν 14 0 ≤ 8) ∧ (0 ≤ ν 23 0 ∧ ν 23 0 ≤ 512) ∧ 0 ≤ ν 24 0 ∧ ν 24 0 < 192
/-- place p: step p % 16 of the bar that is p / 16 ahead -/
def nL (ν : Nat → Int → Int) (p : Int) : Int := 192 * (p / 16) + tOf (vw ν) (cB ν (ν 23 0 + p / 16)) (p % 16) - ν 24 0
def nC (ν : Nat → Int → Int) (s p : Int) : Prop := ν 23 0 + p / 16 < ν 18 (ν 14 0) ∧ 0 < nL ν p ∧ ∃ t, 0 ≤ t ∧ t < 4 ∧ sA (vw ν) (cB ν (ν 23 0 + p / 16)) t (p % 16) = s
noncomputable def nW (ν : Nat → Int → Int) (s k : Int) : Int := itI (fun i a => @ite Int (nC ν s (63 - i)) (Classical.propDecidable _) (nL ν (63 - i)) a) (-1) k
noncomputable def nF (ν : Nat → Int → Int) (s : Int) : Int := nW ν s 64
noncomputable def nU (ν : Nat → Int → Int) : Int → Int := fun s => if nF ν s = -1 then 768 else nF ν s
theorem nW_s (ν : Nat → Int → Int) (s : Int) {p : Int} (hp : 0 ≤ p ∧ p < 64) : (nC ν s p → nW ν s (64 - p) = nL ν p) ∧ (¬ nC ν s p → nW ν s (64 - p) = nW ν s (63 - p)) := by
  have e : nW ν s (64 - p) = @ite Int (nC ν s (63 - (63 - p))) (Classical.propDecidable _) (nL ν (63 - (63 - p))) (nW ν s (63 - p)) := by
    rw [show 64 - p = (63 - p) + 1 by omega]
    exact itI_s _ _ (by omega)
  rw [show 63 - (63 - p) = p by omega] at e
  refine ⟨fun h => ?_, fun h => ?_⟩
  · rw [e, if_pos h]
  · rw [e, if_neg h]
theorem nW_0 (ν : Nat → Int → Int) (s : Int) : nW ν s 0 = -1 := itI_0 _ _
theorem nW_e {ν : Nat → Int → Int} {s h : Int} (hh : 0 ≤ h ∧ h ≤ 4) (hx : ν 18 (ν 14 0) ≤ ν 23 0 + h) : nW ν s (64 - 16 * h) = -1 := by
  refine (itI_ind (fun i (a : Int) => i ≤ 64 - 16 * h → a = -1) (fun _ => rfl) (fun i a hi ih hq => ?_) (i := 64 - 16 * h) (by omega)) (Int.le_refl _)
  rw [if_neg (fun q => by have := q.1; omega)]
  exact ih (by omega)
theorem nF_bd {ν : Nat → Int → Int} (hN : NX ν) (s : Int) : nF ν s = -1 ∨ 0 < nF ν s ∧ nF ν s ≤ 762 := by
  refine (itI_ind (fun i (a : Int) => i ≤ 64 → a = -1 ∨ 0 < a ∧ a ≤ 762) (fun _ => Or.inl rfl) (fun i a hi ih hq => ?_) (i := 64) (by omega)) (Int.le_refl _)
  by_cases c : nC ν s (63 - i)
  · rw [if_pos c]
    have h1 := c.2.1
    have h2 := tOf_bd hN.1 (cB ν (ν 23 0 + (63 - i) / 16)) ((63 - i) % 16)
    have h3 := hN.2.2.2.2.2
    unfold nL at h1 ⊢
    omega
  · rw [if_neg c]
    exact ih (by omega)
theorem nU_bd {ν : Nat → Int → Int} (hN : NX ν) (s : Int) : 0 < nU ν s ∧ nU ν s ≤ 768 := by
  have := nF_bd hN s
  unfold nU
  split <;> omega
theorem nU_c {ν : Nat → Int → Int} (hN : NX ν) (s : Int) : (nF ν s = -1 ∧ nU ν s = 768) ∨ (nF ν s ≠ -1 ∧ nU ν s = nF ν s ∧ 0 < nF ν s ∧ nF ν s ≤ 762) := by
  have := nF_bd hN s
  unfold nU
  split <;> omega
def fr2 (v : Int) : Int := if v = 768 then 1073741824 else v
theorem fr2_c (v : Int) : (v = 768 ∧ fr2 v = 1073741824) ∨ (v ≠ 768 ∧ fr2 v = v) := by unfold fr2; split <;> omega

set_option maxHeartbeats 4000000 in
set_option maxRecDepth 100000 in
/-- next -/
theorem m_next (l : Launch) (D : va_G) (cI cZ cJ : ClassId) (b : Nat → Nat) (ν : Nat → Int → Int) (s : Int) (hs : -2147483648 ≤ s ∧ s < 2147483648) (hN : NX ν) : Ci l D (tY cI cZ cJ) yX7_next wsX7_next rmX7_next [.ref (b 0), .int (iI s)] (WMod cI cZ b ν) (nF ν s) (WMod cI cZ b ν) := by
  obtain ⟨hI, hbar, hfp, h14, hnow, hdue⟩ := id hN
  refine qi_of (by decide +kernel) rfl (Nat.le_of_ble_eq_true rfl) ?_
  intro zp ze zs zm zargs zbelow zmeth zc A Q ls M hA w hl kret
  have hl : lv_has ls 6 [(0, .ref (b 0)), (1, .int (iI s))] := hl
  have in7 : ∀ w ∈ u_ws RX7 TX7 31, w ∈ wsX7_next := by decide +kernel
  refine q_aln M dX7_next_0 (lv_at hl 0 rfl) ?_
  refine q_get (v := .int (iI (ν 23 0))) M w in7 0 23 rfl rfl (by decide) (by decide +kernel) rfl rfl dX7_next_1 ?_
  refine q_isn (lv' := [(2, .int (iI (ν 23 0))), (0, .ref (b 0)), (1, .int (iI s))]) M dX7_next_4 rfl hl (by decide) rfl (fun ls hl => ?_)
  have lp5 : ∀ (n5 : Nat) (x : Int), (ν 23 0 ≤ x ∧ x ≤ ν 23 0 + 4) → (nW ν s (64 - (16 * (x - ν 23 0))) = nF ν s) → (ν 23 0 + 4 - x : Int) < (n5 : Int) → ∀ (H : Heap) (locs : List Loc) (ls : Array Slot), wW D A zs.heap (WMod cI cZ b ν) H locs → lv_has ls 6 [(0, .ref (b 0)), (1, .int (iI s)), (2, .int (iI x))] → W zp l ze rmX7_next zs zm zargs zbelow zmeth zc H locs 0 0 Q (F0 zm 5 ls []) := by
    intro n5
    induction n5 with
    | zero => intro x hj hR hm H locs ls w hl; exfalso; omega
    | succ n5 ih5 =>
      intro x hj hR hm5 H locs ls w hl
      refine q_iln M dX7_next_5 (lv_at hl 2 rfl) ?_
      refine q_aln M dX7_next_6 (lv_at hl 0 rfl) ?_
      refine q_get (v := .int (iI (ν 23 0))) M w in7 0 23 rfl rfl (by decide) (by decide +kernel) rfl rfl dX7_next_7 ?_
      refine q_ic M dX7_next_10 ?_
      refine q_add M dX7_next_11 ?_
      refine q_icmp_gt (tgt := 107) M dX7_next_12 (by decide) (by omega) (fun c12 => ?_) (fun c12 => ?_)
      · refine q_ic M dX7_next_107 ?_
        exact kret _ _ _ _ _ dX7_next_108 w (by first | exact hR.symm.trans (nW_e (by omega) (by omega)) |>.symm | (rw [← hR, show 64 - 16 * (x - ν 23 0) = 0 by omega, nW_0]))
      · refine q_iln M dX7_next_15 (lv_at hl 2 rfl) ?_
        refine q_aln M dX7_next_16 (lv_at hl 0 rfl) ?_
        refine q_get (v := .ref (b 18)) M w in7 0 18 rfl rfl (by decide) (by decide +kernel) rfl rfl dX7_next_17 ?_
        refine q_aln M dX7_next_20 (lv_at hl 0 rfl) ?_
        refine q_get (v := .int (iI (ν 14 0))) M w in7 0 14 rfl rfl (by decide) (by decide +kernel) rfl rfl dX7_next_21 ?_
        refine q_iald (f := ν 18) M w 17 0 rfl rfl (by omega) dX7_next_24 ?_
        refine q_icmp_ge (tgt := 107) M dX7_next_25 (by decide) (by omega) (fun c25 => ?_) (fun c25 => ?_)
        · refine q_ic M dX7_next_107 ?_
          exact kret _ _ _ _ _ dX7_next_108 w (by first | exact hR.symm.trans (nW_e (by omega) (by omega)) |>.symm | (rw [← hR, show 64 - 16 * (x - ν 23 0) = 0 by omega, nW_0]))
        · have q16 := hbar x (by omega) (by omega)
          refine q_ic M dX7_next_28 ?_
          refine q_isn (lv' := [(3, .int (iI 0)), (0, .ref (b 0)), (1, .int (iI s)), (2, .int (iI x))]) M dX7_next_29 rfl hl (by decide) rfl (fun ls hl => ?_)
          have lp30 : ∀ (n30 : Nat) (y : Int), (0 ≤ y ∧ y ≤ 16) → (nW ν s (64 - ((16 * (x - ν 23 0)) + y)) = nF ν s) → (16 - y : Int) < (n30 : Int) → ∀ (H : Heap) (locs : List Loc) (ls : Array Slot), wW D A zs.heap (WMod cI cZ b ν) H locs → lv_has ls 6 [(0, .ref (b 0)), (1, .int (iI s)), (2, .int (iI x)), (3, .int (iI y))] → W zp l ze rmX7_next zs zm zargs zbelow zmeth zc H locs 0 0 Q (F0 zm 30 ls []) := by
            intro n30
            induction n30 with
            | zero => intro y hy hR2 hm H locs ls w hl; exfalso; omega
            | succ n30 ih30 =>
              intro y hy hR2 hm30 H locs ls w hl
              refine q_iln M dX7_next_30 (lv_at hl 3 rfl) ?_
              refine q_bp M dX7_next_31 (by decide +kernel) ?_
              refine q_icmp_ge (tgt := 101) M dX7_next_33 (by decide) (by omega) (fun c33 => ?_) (fun c33 => ?_)
              · refine q_inc (z := x) (lv' := [(2, .int (iI (x + 1))), (0, .ref (b 0)), (1, .int (iI s)), (3, .int (iI y))]) M dX7_next_101 hl (k := 2) rfl (by decide) rfl (fun ls hl => ?_)
                refine q_go (tgt := 5) M dX7_next_104 (by decide) ?_
                exact ih5 (x + 1) (by omega) ((congrArg (nW ν s) (by omega)).trans hR2) (by omega) _ _ _ w (lv_sub hl [1, 2, 0] rfl)
              · refine q_sp M dX7_next_36 (by decide +kernel) ?_
                refine q_iln M dX7_next_39 (lv_at hl 2 rfl) ?_
                refine q_aln M dX7_next_40 (lv_at hl 0 rfl) ?_
                refine q_get (v := .int (iI (ν 23 0))) M w in7 0 23 rfl rfl (by decide) (by decide +kernel) rfl rfl dX7_next_41 ?_
                refine q_sub M dX7_next_44 ?_
                refine q_mul M dX7_next_45 ?_
                refine q_aln M dX7_next_46 (lv_at hl 0 rfl) ?_
                refine q_iln M dX7_next_47 (lv_at hl 2 rfl) ?_
                refine q_iln M dX7_next_48 (lv_at hl 3 rfl) ?_
                refine qc_iV (As := [.int (iI x), .int (iI y)]) (rest := [.int (iI (192 * (x - (ν 23 0))))]) (wc := WMod cI cZ b ν) (wc2 := WMod cI cZ b ν) (ws2 := WMod cI cZ b ν) M w hA hl (m_begins l D cI cZ cJ b ν x y hN.1 q16.1 q16.2 (by omega)) gX7_next_X7_begins rfl ⟨rfl, rfl, by decide, by decide⟩ ⟨Nat.zero_le _, Nat.zero_le _⟩ 2 ⟨rfl, by decide +kernel⟩ rfl [true, true, true, true, true, true, true, true, true, true, true, true, true, true, true, true, true, true, true, true, true] rfl rfl 0 rfl rfl rfl (Nat.le_of_ble_eq_true rfl) rfl dX7_next_49 (fun H locs w => ?_)
                have qt := tOf_bd hI (cB ν x) y
                refine q_add M dX7_next_52 ?_
                refine q_aln M dX7_next_53 (lv_at hl 0 rfl) ?_
                refine q_get (v := .int (iI (ν 24 0))) M w in7 0 24 rfl rfl (by decide) (by decide +kernel) rfl rfl dX7_next_54 ?_
                refine q_sub M dX7_next_57 ?_
                refine q_is (lv' := [(4, .int (iI (((192 * (x - (ν 23 0))) + (tOf (vw ν) (cB ν x) y)) - (ν 24 0)))), (0, .ref (b 0)), (1, .int (iI s)), (2, .int (iI x)), (3, .int (iI y))]) M dX7_next_58 hl (by decide) rfl (fun ls hl => ?_)
                have eL : nL ν ((16 * (x - ν 23 0)) + y) = 192 * (x - ν 23 0) + tOf (vw ν) (cB ν x) y - ν 24 0 := by unfold nL; rw [show ((16 * (x - ν 23 0)) + y) / 16 = x - ν 23 0 by omega, show ((16 * (x - ν 23 0)) + y) % 16 = y by omega, show ν 23 0 + (x - ν 23 0) = x by omega]
                refine q_ic M dX7_next_60 ?_
                refine q_is (lv' := [(5, .int (iI 0)), (4, .int (iI (((192 * (x - (ν 23 0))) + (tOf (vw ν) (cB ν x) y)) - (ν 24 0)))), (0, .ref (b 0)), (1, .int (iI s)), (2, .int (iI x)), (3, .int (iI y))]) M dX7_next_61 hl (by decide) rfl (fun ls hl => ?_)
                have lp63 : ∀ (n63 : Nat) (t : Int), (0 ≤ t ∧ t ≤ 4) → (∀ t1, 0 ≤ t1 → t1 < t → ¬ (0 < 192 * (x - ν 23 0) + tOf (vw ν) (cB ν x) y - ν 24 0 ∧ sA (vw ν) (cB ν x) t1 y = s)) → (4 - t : Int) < (n63 : Int) → ∀ (H : Heap) (locs : List Loc) (ls : Array Slot), wW D A zs.heap (WMod cI cZ b ν) H locs → lv_has ls 6 [(0, .ref (b 0)), (1, .int (iI s)), (2, .int (iI x)), (3, .int (iI y)), (4, .int (iI (192 * (x - ν 23 0) + tOf (vw ν) (cB ν x) y - ν 24 0))), (5, .int (iI t))] → W zp l ze rmX7_next zs zm zargs zbelow zmeth zc H locs 0 0 Q (F0 zm 63 ls []) := by
                  intro n63
                  induction n63 with
                  | zero => intro t ht hno hm H locs ls w hl; exfalso; omega
                  | succ n63 ih63 =>
                    intro t ht hno hm63 H locs ls w hl
                    refine q_il M dX7_next_63 (lv_at hl 5 rfl) ?_
                    refine q_ic M dX7_next_65 ?_
                    refine q_icmp_ge (tgt := 95) M dX7_next_66 (by decide) (by omega) (fun c66 => ?_) (fun c66 => ?_)
                    · have hcn : ¬ nC ν s ((16 * (x - ν 23 0)) + y) := fun q => by
                        obtain ⟨q1, q2, t1, q3, q4, q5⟩ := q
                        rw [eL] at q2
                        rw [show ((16 * (x - ν 23 0)) + y) / 16 = x - ν 23 0 by omega, show ((16 * (x - ν 23 0)) + y) % 16 = y by omega, show ν 23 0 + (x - ν 23 0) = x by omega] at q5
                        exact hno t1 q3 (by omega) ⟨q2, q5⟩
                      have hR3 := (nW_s ν s (p := (16 * (x - ν 23 0)) + y) (by omega)).2 hcn
                      refine q_inc (z := y) (lv' := [(3, .int (iI (y + 1))), (0, .ref (b 0)), (1, .int (iI s)), (2, .int (iI x)), (4, .int (iI (192 * (x - ν 23 0) + tOf (vw ν) (cB ν x) y - ν 24 0))), (5, .int (iI t))]) M dX7_next_95 hl (k := 3) rfl (by decide) rfl (fun ls hl => ?_)
                      refine q_go (tgt := 30) M dX7_next_98 (by decide) ?_
                      exact ih30 (y + 1) (by omega) ((congrArg (nW ν s) (by omega)).trans (hR3.symm.trans hR2)) (by omega) _ _ _ w (lv_sub hl [1, 2, 3, 0] rfl)
                    · refine q_il M dX7_next_69 (lv_at hl 4 rfl) ?_
                      refine q_if_le (tgt := 89) M dX7_next_71 (by decide) (by omega) (fun c71 => ?_) (fun c71 => ?_)
                      · refine q_inc (z := t) (lv' := [(5, .int (iI (t + 1))), (0, .ref (b 0)), (1, .int (iI s)), (2, .int (iI x)), (3, .int (iI y)), (4, .int (iI (192 * (x - ν 23 0) + tOf (vw ν) (cB ν x) y - ν 24 0)))]) M dX7_next_89 hl (k := 5) rfl (by decide) rfl (fun ls hl => ?_)
                        refine q_go (tgt := 63) M dX7_next_92 (by decide) ?_
                        exact ih63 (t + 1) (by omega) (fun t1 h1 h2 q => (Classical.em (t1 = t)).elim (fun e => by rw [e] at q; have a1 := q.1; have a2 := q.2; omega) (fun e => hno t1 h1 (by omega) q)) (by omega) _ _ _ w (lv_sub hl [1, 2, 3, 4, 5, 0] rfl)
                      · refine q_aln M dX7_next_74 (lv_at hl 0 rfl) ?_
                        refine q_iln M dX7_next_75 (lv_at hl 2 rfl) ?_
                        refine q_il M dX7_next_76 (lv_at hl 5 rfl) ?_
                        refine q_iln M dX7_next_78 (lv_at hl 3 rfl) ?_
                        refine qc_iV (As := [.int (iI x), .int (iI t), .int (iI y)]) (rest := []) (wc := WMod cI cZ b ν) (wc2 := WMod cI cZ b ν) (ws2 := WMod cI cZ b ν) M w hA hl (m_sampleAt l D cI cZ cJ b ν x t y q16.1 q16.2 (by omega)) gX7_next_X7_sampleAt rfl ⟨rfl, rfl, by decide, by decide⟩ ⟨Nat.zero_le _, Nat.zero_le _⟩ 3 ⟨rfl, by decide +kernel⟩ rfl [true, true, true, true, true, true, true, true, true, true, true, true, true, true, true, true, true, true, true, true, true] rfl rfl 0 rfl rfl rfl (Nat.le_of_ble_eq_true rfl) rfl dX7_next_79 (fun H locs w => ?_)
                        have qs := sA_bd hI (cB ν x) t y
                        refine q_iln M dX7_next_82 (lv_at hl 1 rfl) ?_
                        refine q_icmp_ne (tgt := 89) M dX7_next_83 (by decide) (by omega) (fun c83 => ?_) (fun c83 => ?_)
                        · refine q_inc (z := t) (lv' := [(5, .int (iI (t + 1))), (0, .ref (b 0)), (1, .int (iI s)), (2, .int (iI x)), (3, .int (iI y)), (4, .int (iI (192 * (x - ν 23 0) + tOf (vw ν) (cB ν x) y - ν 24 0)))]) M dX7_next_89 hl (k := 5) rfl (by decide) rfl (fun ls hl => ?_)
                          refine q_go (tgt := 63) M dX7_next_92 (by decide) ?_
                          exact ih63 (t + 1) (by omega) (fun t1 h1 h2 q => (Classical.em (t1 = t)).elim (fun e => by rw [e] at q; have a1 := q.1; have a2 := q.2; omega) (fun e => hno t1 h1 (by omega) q)) (by omega) _ _ _ w (lv_sub hl [1, 2, 3, 4, 5, 0] rfl)
                        · have hcc : nC ν s ((16 * (x - ν 23 0)) + y) := ⟨by omega, by rw [eL]; omega, t, ht.1, by omega, by rw [show ((16 * (x - ν 23 0)) + y) / 16 = x - ν 23 0 by omega, show ((16 * (x - ν 23 0)) + y) % 16 = y by omega, show ν 23 0 + (x - ν 23 0) = x by omega]; exact c83⟩
                          refine q_il M dX7_next_86 (lv_at hl 4 rfl) ?_
                          exact kret _ _ _ _ _ dX7_next_88 w (by rw [← hR2, (nW_s ν s (p := (16 * (x - ν 23 0)) + y) (by omega)).1 hcc, eL])
                exact lp63 5 0 (by omega) (fun t1 h1 h2 => by omega) (by omega) _ _ _ w (lv_sub hl [2, 3, 4, 5, 1, 0] rfl)
          exact lp30 17 0 (by omega) ((congrArg (nW ν s) (by omega)).trans hR) (by omega) _ _ _ w (lv_sub hl [1, 2, 3, 0] rfl)
  exact lp5 9 (ν 23 0) (by omega) (congrArg (nW ν s) (show 64 - 16 * (ν 23 0 - ν 23 0) = 64 by omega)) (by omega) _ _ _ w (lv_sub hl [1, 2, 0] rfl)
