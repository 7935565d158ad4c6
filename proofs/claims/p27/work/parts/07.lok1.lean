/-! LOOKAHEAD -/
noncomputable def nSt (μ : Nat → Int → Int) (c s t : Int) (g : Int → Int) (k : Int) : Int → Int := itI (fun j h => if sA μ c j s = -1 then h else iU h (sA μ c j s) t) g k
noncomputable def nBr (μ : Nat → Int → Int) (c f : Int) (g : Int → Int) (k : Int) : Int → Int := itI (fun i h => nSt μ c (15 - i) (f + tOf μ c (15 - i)) h 4) g k
def kU (v t : Int) : Int := if v = 768 then 768 else v - t
def kp (g : Int → Int) (t : Int) (U : Int → Int) : Int → Int := cpF U (fun s => kU (g s) t) (t * 8) 8
/-- the due bar, from its last tick back: (next uses, what comes) -/
noncomputable def nDu (μ : Nat → Int → Int) (c : Int) (u : (Int → Int) × (Int → Int)) (k : Int) : (Int → Int) × (Int → Int) :=
  itI (fun i h => (kp h.2 (191 - i) h.1, if sTa μ c (191 - i) = -1 then h.2 else nSt μ c (sTa μ c (191 - i)) (191 - i) h.2 4)) u k
theorem nSt_bd {μ : Nat → Int → Int} {c s t : Int} {g : Int → Int} (hg : ∀ i, 0 ≤ g i ∧ g i ≤ 768) (ht : 0 ≤ t ∧ t ≤ 768) {k : Int} (hk : 0 ≤ k) : ∀ i, 0 ≤ nSt μ c s t g k i ∧ nSt μ c s t g k i ≤ 768 := by
  refine itI_ind (fun _ (h : Int → Int) => ∀ i, 0 ≤ h i ∧ h i ≤ 768) hg (fun j h hj ih i => ?_) hk
  split
  · exact ih i
  · unfold iU
    split
    · exact ht
    · exact ih i
theorem nBr_bd {μ : Nat → Int → Int} (hI : IP μ) {c f : Int} {g : Int → Int} (hg : ∀ i, 0 ≤ g i ∧ g i ≤ 768) (hf : 0 ≤ f ∧ f ≤ 576) {k : Int} (hk : 0 ≤ k ∧ k ≤ 16) : ∀ i, 0 ≤ nBr μ c f g k i ∧ nBr μ c f g k i ≤ 768 := by
  refine (itI_ind (fun n (h : Int → Int) => n ≤ 16 → ∀ i, 0 ≤ h i ∧ h i ≤ 768) (fun _ => hg) (fun j h hj ih hn => ?_) hk.1) hk.2
  have := tOf_bd hI c (15 - j)
  exact nSt_bd (ih (by omega)) (by omega) (by omega)
theorem nDu_bd {μ : Nat → Int → Int} {c : Int} {u : (Int → Int) × (Int → Int)} (hg : ∀ i, 0 ≤ u.2 i ∧ u.2 i ≤ 768) {k : Int} (hk : 0 ≤ k ∧ k ≤ 192) : ∀ i, 0 ≤ (nDu μ c u k).2 i ∧ (nDu μ c u k).2 i ≤ 768 := by
  refine (itI_ind (fun n (h : (Int → Int) × (Int → Int)) => n ≤ 192 → ∀ i, 0 ≤ h.2 i ∧ h.2 i ≤ 768) (fun _ => hg) (fun j h hj ih hn => ?_) hk.1) hk.2
  dsimp only
  split
  · exact ih (by omega)
  · exact nSt_bd (ih (by omega)) (by omega) (by omega)
theorem sTa_cs (μ : Nat → Int → Int) (c t : Int) : sTa μ c t = -1 ∨ sTa μ c t = t / 12 := by unfold sTa; split <;> omega

set_option maxHeartbeats 4000000 in
set_option maxRecDepth 100000 in
/-- Lookahead.useAfter -/
theorem k_useAfter (l : Launch) (D : va_G) (cI cZ cJ : ClassId) (a : Nat → Nat) (μ : Nat → Int → Int) (U g : Int → Int) (t s : Int) (hc : (0 ≤ t ∧ t < 192) ∧ 0 ≤ s ∧ s < 8) : Ci l D (tY cI cZ cJ) yX0_useAfter wsX0_useAfter rmX0_useAfter [.ref (a 4), .int (iI t), .int (iI s)] (WLk0 cI a μ U g) (U (t * 8 + s)) (WLk0 cI a μ U g) := by
  refine qi_of (by decide +kernel) rfl (Nat.le_of_ble_eq_true rfl) ?_
  intro zp ze zs zm zargs zbelow zmeth zc A Q ls M hA w hl kret
  have hl : lv_has ls 3 [(0, .ref (a 4)), (1, .int (iI t)), (2, .int (iI s))] := hl
  have in0 : ∀ w ∈ u_ws RX0 TX0 3, w ∈ wsX0_useAfter := by decide +kernel
  refine q_aln M dX0_useAfter_0 (lv_at hl 0 rfl) ?_
  refine q_get (v := .ref (a 48)) M w in0 0 1 rfl rfl (by decide) (by decide +kernel) rfl rfl dX0_useAfter_1 ?_
  refine q_iln M dX0_useAfter_4 (lv_at hl 1 rfl) ?_
  refine q_bp M dX0_useAfter_5 (by decide +kernel) ?_
  refine q_mul M dX0_useAfter_7 ?_
  refine q_iln M dX0_useAfter_8 (lv_at hl 2 rfl) ?_
  refine q_add M dX0_useAfter_9 ?_
  refine qc_iV (As := [.int (iI ((t * 8) + s))]) (rest := []) (wc := WRow cI (a 48) (a 49) 1536 U) (wc2 := WRow cI (a 48) (a 49) 1536 U) (ws2 := WLk0 cI a μ U g) M w hA hl (k_get l D cI cZ cJ _ _ _ _ ((t * 8) + s) (by omega)) gX0_useAfter_X3_get rfl ⟨rfl, rfl, by decide, by decide⟩ ⟨Nat.zero_le _, Nat.zero_le _⟩ 1 ⟨rfl, by decide +kernel⟩ rfl [false, true, true] rfl rfl 1 rfl rfl rfl (Nat.le_of_ble_eq_true rfl) rfl dX0_useAfter_10 (fun H locs w => ?_)
  exact kret _ _ _ _ _ dX0_useAfter_13 w rfl

set_option maxHeartbeats 4000000 in
set_option maxRecDepth 100000 in
/-- Lookahead.forget -/
theorem k_forget (l : Launch) (D : va_G) (cI cZ cJ : ClassId) (a : Nat → Nat) (μ : Nat → Int → Int) (U g : Int → Int) : Cv l D (tY cI cZ cJ) yX0_forget wsX0_forget rmX0_forget [.ref (a 4)] (WLk0 cI a μ U g) (WLk0 cI a μ U (fun _ => 768)) := by
  refine qv_of (by decide +kernel) rfl (Nat.le_of_ble_eq_true rfl) ?_
  intro zp ze zs zm zargs zbelow zmeth zc A Q ls M hA w hl kret
  have hl : lv_has ls 1 [(0, .ref (a 4))] := hl
  have in0 : ∀ w ∈ u_ws RX0 TX0 3, w ∈ wsX0_forget := by decide +kernel
  refine q_aln M dX0_forget_0 (lv_at hl 0 rfl) ?_
  refine q_get (v := .ref (a 50)) M w in0 0 2 rfl rfl (by decide) (by decide +kernel) rfl rfl dX0_forget_1 ?_
  refine q_sp M dX0_forget_4 (by decide +kernel) ?_
  refine qc_vV (As := [.int (iI 768)]) (rest := []) (wc := WRow cI (a 50) (a 51) 8 g) (wc2 := WRow cI (a 50) (a 51) 8 (fun _ => 768)) (ws2 := WLk0 cI a μ U (fun _ => 768)) M w hA hl (k_setAll l D cI cZ cJ _ _ _ _ 768 (by omega)) gX0_forget_X3_setAll rfl ⟨rfl, rfl, by decide, by decide⟩ ⟨Nat.zero_le _, Nat.zero_le _⟩ 1 ⟨rfl, by decide +kernel⟩ rfl [false, false, false, true, true] rfl rfl 3 rfl rfl rfl (Nat.le_of_ble_eq_true rfl) rfl dX0_forget_7 (fun H locs w => ?_)
  exact kret _ _ _ _ dX0_forget_10 w

set_option maxHeartbeats 4000000 in
set_option maxRecDepth 100000 in
/-- Lookahead.noteStep -/
theorem k_noteStep (l : Launch) (D : va_G) (cI cZ cJ : ClassId) (a : Nat → Nat) (μ : Nat → Int → Int) (U g : Int → Int) (c s t : Int) (hI : IP μ) (hc : (0 ≤ c ∧ c < 120) ∧ 0 ≤ s ∧ s < 16) : Cv l D (tY cI cZ cJ) yX0_noteStep wsX0_noteStep rmX0_noteStep [.ref (a 4), .int (iI c), .int (iI s), .int (iI t)] (WLok cI a μ U g) (WLok cI a μ U (nSt μ c s t g 4)) := by
  refine qv_of (by decide +kernel) rfl (Nat.le_of_ble_eq_true rfl) ?_
  intro zp ze zs zm zargs zbelow zmeth zc A Q ls M hA w hl kret
  have hl : lv_has ls 6 [(0, .ref (a 4)), (1, .int (iI c)), (2, .int (iI s)), (3, .int (iI t))] := hl
  have in0 : ∀ w ∈ u_ws RX0 TX0 3, w ∈ wsX0_noteStep := by decide +kernel
  refine q_ic M dX0_noteStep_0 ?_
  refine q_is (lv' := [(4, .int (iI 0)), (0, .ref (a 4)), (1, .int (iI c)), (2, .int (iI s)), (3, .int (iI t))]) M dX0_noteStep_1 hl (by decide) rfl (fun ls hl => ?_)
  have lp3 : ∀ (n3 : Nat) (j : Int), (0 ≤ j ∧ j ≤ 4) → (4 - j : Int) < (n3 : Int) → ∀ (H : Heap) (locs : List Loc) (ls : Array Slot), wW D A zs.heap (WLok cI a μ U (nSt μ c s t g j)) H locs → lv_has ls 6 [(0, .ref (a 4)), (1, .int (iI c)), (2, .int (iI s)), (3, .int (iI t)), (4, .int (iI j))] → W zp l ze rmX0_noteStep zs zm zargs zbelow zmeth zc H locs 0 0 Q (F0 zm 3 ls []) := by
    intro n3
    induction n3 with
    | zero => intro j hj hm H locs ls w hl; exfalso; omega
    | succ n3 ih3 =>
      intro j hj hm3 H locs ls w hl
      refine q_il M dX0_noteStep_3 (lv_at hl 4 rfl) ?_
      refine q_ic M dX0_noteStep_5 ?_
      refine q_icmp_ge (tgt := 45) M dX0_noteStep_6 (by decide) (by omega) (fun c6 => ?_) (fun c6 => ?_)
      · rw [show j = 4 by omega] at w
        exact kret _ _ _ _ dX0_noteStep_45 w
      · refine q_aln M dX0_noteStep_9 (lv_at hl 0 rfl) ?_
        refine q_get (v := .ref (a 1)) M w in0 15 0 rfl rfl (by decide) (by decide +kernel) rfl rfl dX0_noteStep_10 ?_
        refine q_iln M dX0_noteStep_13 (lv_at hl 1 rfl) ?_
        refine q_il M dX0_noteStep_14 (lv_at hl 4 rfl) ?_
        refine q_iln M dX0_noteStep_16 (lv_at hl 2 rfl) ?_
        refine qc_iV (As := [.int (iI c), .int (iI j), .int (iI s)]) (rest := []) (wc := WPat cI a μ) (wc2 := WPat cI a μ) (ws2 := WLok cI a μ U (nSt μ c s t g j)) M w hA hl (k_sampleAt l D cI cZ cJ a μ c j s hI (by omega)) gX0_noteStep_X2_sampleAt rfl ⟨rfl, rfl, by decide, by decide⟩ ⟨Nat.zero_le _, Nat.zero_le _⟩ 3 ⟨rfl, by decide +kernel⟩ rfl [true, true, true, true, true, true, true, true, true, true, true, true, true, true, true] rfl rfl 2 rfl rfl rfl (Nat.le_of_ble_eq_true rfl) rfl dX0_noteStep_17 (fun H locs w => ?_)
        have q4 := sA_bd hI c j s
        refine q_is (lv' := [(5, .int (iI (sA μ c j s))), (0, .ref (a 4)), (1, .int (iI c)), (2, .int (iI s)), (3, .int (iI t)), (4, .int (iI j))]) M dX0_noteStep_20 hl (by decide) rfl (fun ls hl => ?_)
        refine q_il M dX0_noteStep_22 (lv_at hl 0 rfl) ?_
        refine q_ic M dX0_noteStep_24 ?_
        refine q_icmp_eq (tgt := 39) M dX0_noteStep_25 (by decide) (by omega) (fun c25 => ?_) (fun c25 => ?_)
        · have ew : nSt μ c s t g j = nSt μ c s t g (j + 1) := by unfold nSt; rw [itI_s _ _ hj.1]; simp [c25]
          have w : wW D A zs.heap (WLok cI a μ U (nSt μ c s t g (j + 1))) H locs := by rw [← ew]; exact w
          refine q_inc (z := j) (lv' := [(4, .int (iI (j + 1))), (5, .int (iI (sA μ c j s))), (0, .ref (a 4)), (1, .int (iI c)), (2, .int (iI s)), (3, .int (iI t))]) M dX0_noteStep_39 hl (k := 5) rfl (by decide) rfl (fun ls hl => ?_)
          refine q_go (tgt := 3) M dX0_noteStep_42 (by decide) ?_
          exact ih3 (j + 1) (by omega) (by omega) _ _ _ w (lv_sub hl [2, 3, 4, 5, 0] rfl)
        · refine q_aln M dX0_noteStep_28 (lv_at hl 1 rfl) ?_
          refine q_get (v := .ref (a 50)) M w in0 15 2 rfl rfl (by decide) (by decide +kernel) rfl rfl dX0_noteStep_29 ?_
          refine q_il M dX0_noteStep_32 (lv_at hl 0 rfl) ?_
          refine q_iln M dX0_noteStep_34 (lv_at hl 4 rfl) ?_
          refine qc_iV (As := [.int (iI (sA μ c j s)), .int (iI t)]) (rest := []) (wc := WRow cI (a 50) (a 51) 8 (nSt μ c s t g j)) (wc2 := WRow cI (a 50) (a 51) 8 (iU (nSt μ c s t g j) (sA μ c j s) t)) (ws2 := WLok cI a μ U (iU (nSt μ c s t g j) (sA μ c j s) t)) M w hA hl (k_replace l D cI cZ cJ _ _ _ _ (sA μ c j s) t (by omega)) gX0_noteStep_X3_replace rfl ⟨rfl, rfl, by decide, by decide⟩ ⟨Nat.zero_le _, Nat.zero_le _⟩ 2 ⟨rfl, by decide +kernel⟩ rfl [false, false, false, false, false, false, false, false, false, false, false, false, false, false, false, false, false, false, true, true] rfl rfl 18 rfl rfl rfl (Nat.le_of_ble_eq_true rfl) rfl dX0_noteStep_35 (fun H locs w => ?_)
          refine q_pop M dX0_noteStep_38 rfl ?_
          have ew : iU (nSt μ c s t g j) (sA μ c j s) t = nSt μ c s t g (j + 1) := by unfold nSt; rw [itI_s _ _ hj.1]; simp [c25]
          have w : wW D A zs.heap (WLok cI a μ U (nSt μ c s t g (j + 1))) H locs := by rw [← ew]; exact w
          refine q_inc (z := j) (lv' := [(4, .int (iI (j + 1))), (5, .int (iI (sA μ c j s))), (0, .ref (a 4)), (1, .int (iI c)), (2, .int (iI s)), (3, .int (iI t))]) M dX0_noteStep_39 hl (k := 5) rfl (by decide) rfl (fun ls hl => ?_)
          refine q_go (tgt := 3) M dX0_noteStep_42 (by decide) ?_
          exact ih3 (j + 1) (by omega) (by omega) _ _ _ w (lv_sub hl [2, 3, 4, 5, 0] rfl)
  have ew : g = nSt μ c s t g 0 := by unfold nSt; rw [itI_0]
  have w : wW D A zs.heap (WLok cI a μ U (nSt μ c s t g 0)) zs.heap [] := by rw [← ew]; exact w
  exact lp3 5 0 (by omega) (by omega) _ _ _ w (lv_sub hl [1, 2, 3, 4, 0] rfl)
