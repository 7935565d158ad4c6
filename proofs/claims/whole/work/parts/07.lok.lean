/-! LOOKAHEAD -/
noncomputable def nSt (μ : Nat → Int → Int) (c s t : Int) (g : Int → Int) (k : Int) : Int → Int := itI (fun j h => if sA μ c j s = -1 then h else iU h (sA μ c j s) t) g k
noncomputable def nBr (μ : Nat → Int → Int) (c f : Int) (g : Int → Int) (k : Int) : Int → Int := itI (fun i h => nSt μ c (15 - i) (f + tOf μ c (15 - i)) h 4) g k
def kU (v t : Int) : Int := if v = 768 then 768 else v - t
def kp (g : Int → Int) (t : Int) (U : Int → Int) : Int → Int := cpF U (fun s => kU (g s) t) (t * 8) 8
/-- the due bar, from its last tick back: (next uses, what comes) -/
noncomputable def nDu (μ : Nat → Int → Int) (c : Int) (u : (Int → Int) × (Int → Int)) (k : Int) : (Int → Int) × (Int → Int) :=
  itI (fun i h => (kp h.2 (191 - i) h.1, if sTa μ c (191 - i) = -1 then h.2 else nSt μ c (sTa μ c (191 - i)) (191 - i) h.2 4)) u k
theorem nSt_bd {μ : Nat → Int → Int} {c s t : Int} {g : Int → Int} (hg : ∀ i, 0 ≤ g i ∧ g i ≤ 768) (ht : 0 ≤ t ∧ t ≤ 768) {k : Int} (hk : 0 ≤ k) : ∀ i, 0 ≤ nSt μ c s t g k i ∧ nSt μ c s t g k i ≤ 768 := by
  refine itI_ind (fun _ (h : Int → Int) => ∀ i, 0 ≤ h i ∧ h i ≤ 768) hg (fun j h hj ih i => ?_) hk
  split
  · exact ih i
  · unfold iU
    split
    · exact ht
    · exact ih i
theorem nBr_bd {μ : Nat → Int → Int} (hI : IP μ) {c f : Int} {g : Int → Int} (hg : ∀ i, 0 ≤ g i ∧ g i ≤ 768) (hf : 0 ≤ f ∧ f ≤ 576) {k : Int} (hk : 0 ≤ k ∧ k ≤ 16) : ∀ i, 0 ≤ nBr μ c f g k i ∧ nBr μ c f g k i ≤ 768 := by
  refine (itI_ind (fun n (h : Int → Int) => n ≤ 16 → ∀ i, 0 ≤ h i ∧ h i ≤ 768) (fun _ => hg) (fun j h hj ih hn => ?_) hk.1) hk.2
  have := tOf_bd hI c (15 - j)
  exact nSt_bd (ih (by omega)) (by omega) (by omega)
theorem nDu_bd {μ : Nat → Int → Int} {c : Int} {u : (Int → Int) × (Int → Int)} (hg : ∀ i, 0 ≤ u.2 i ∧ u.2 i ≤ 768) {k : Int} (hk : 0 ≤ k ∧ k ≤ 192) : ∀ i, 0 ≤ (nDu μ c u k).2 i ∧ (nDu μ c u k).2 i ≤ 768 := by
  refine (itI_ind (fun n (h : (Int → Int) × (Int → Int)) => n ≤ 192 → ∀ i, 0 ≤ h.2 i ∧ h.2 i ≤ 768) (fun _ => hg) (fun j h hj ih hn => ?_) hk.1) hk.2
  dsimp only
  split
  · exact ih (by omega)
  · exact nSt_bd (ih (by omega)) (by omega) (by omega)
theorem sTa_cs (μ : Nat → Int → Int) (c t : Int) : sTa μ c t = -1 ∨ sTa μ c t = t / 12 := by unfold sTa; split <;> omega

set_option maxHeartbeats 4000000 in
set_option maxRecDepth 100000 in
/-- Lookahead.useAfter -/
theorem k_useAfter (l : Launch) (D : va_G) (cI cZ cJ : ClassId) (a : Nat → Nat) (μ : Nat → Int → Int) (t s : Int) (hc : (0 ≤ t ∧ t < 192) ∧ 0 ≤ s ∧ s < 8) : Ci l D (tY cI cZ cJ) yX0_useAfter wsX0_useAfter rmX0_useAfter [.ref (a 4), .int (iI t), .int (iI s)] (WLk0 cI a μ) (μ 19 (t * 8 + s)) (WLk0 cI a μ) := by
  refine qi_of (by decide +kernel) rfl (Nat.le_of_ble_eq_true rfl) ?_
  intro zp ze zs zm zargs zbelow zmeth zc A Q ls M hA w hl kret
  have hl : lv_has ls 3 [(0, .ref (a 4)), (1, .int (iI t)), (2, .int (iI s))] := hl
  have in0 : ∀ w ∈ u_ws RX0 TX0 3, w ∈ wsX0_useAfter := by decide +kernel
  refine q_aln M dX0_useAfter_0 (lv_at hl 0 rfl) ?_
  refine q_get (v := .ref (a 48)) M w in0 0 1 rfl rfl (by decide) (by decide +kernel) rfl rfl dX0_useAfter_1 ?_
  refine q_iln M dX0_useAfter_4 (lv_at hl 1 rfl) ?_
  refine q_bp M dX0_useAfter_5 (by decide +kernel) ?_
  refine q_mul M dX0_useAfter_7 ?_
  refine q_iln M dX0_useAfter_8 (lv_at hl 2 rfl) ?_
  refine q_add M dX0_useAfter_9 ?_
  refine qc_iV (As := [.int (iI ((t * 8) + s))]) (rest := []) (wc := WRow cI (a 48) (a 49) 1536 (μ 19)) (wc2 := WRow cI (a 48) (a 49) 1536 (μ 19)) (ws2 := WLk0 cI a μ) M w hA hl (k_get l D cI cZ cJ _ _ _ _ ((t * 8) + s) (by omega)) gX0_useAfter_X3_get rfl ⟨rfl, rfl, by decide, by decide⟩ ⟨Nat.zero_le _, Nat.zero_le _⟩ 1 ⟨rfl, by decide +kernel⟩ rfl [1, 2] rfl rfl rfl 1 rfl rfl rfl (Nat.le_of_ble_eq_true rfl) rfl dX0_useAfter_10 (fun H locs w => ?_)
  exact kret _ _ _ _ _ dX0_useAfter_13 w rfl

set_option maxHeartbeats 4000000 in
set_option maxRecDepth 100000 in
/-- Lookahead.forget -/
theorem k_forget (l : Launch) (D : va_G) (cI cZ cJ : ClassId) (a : Nat → Nat) (μ : Nat → Int → Int) : Cv l D (tY cI cZ cJ) yX0_forget wsX0_forget rmX0_forget [.ref (a 4)] (WLk0 cI a μ) (WLk0 cI a (mset μ 20 (fun _ => 768))) := by
  refine qv_of (by decide +kernel) rfl (Nat.le_of_ble_eq_true rfl) ?_
  intro zp ze zs zm zargs zbelow zmeth zc A Q ls M hA w hl kret
  have hl : lv_has ls 1 [(0, .ref (a 4))] := hl
  have in0 : ∀ w ∈ u_ws RX0 TX0 3, w ∈ wsX0_forget := by decide +kernel
  refine q_aln M dX0_forget_0 (lv_at hl 0 rfl) ?_
  refine q_get (v := .ref (a 50)) M w in0 0 2 rfl rfl (by decide) (by decide +kernel) rfl rfl dX0_forget_1 ?_
  refine q_sp M dX0_forget_4 (by decide +kernel) ?_
  refine qc_vV (As := [.int (iI 768)]) (rest := []) (wc := WRow cI (a 50) (a 51) 8 (μ 20)) (wc2 := WRow cI (a 50) (a 51) 8 (fun _ => 768)) (ws2 := WLk0 cI a (mset μ 20 (fun _ => 768))) M w hA hl (k_setAll l D cI cZ cJ _ _ _ _ 768 (by omega)) gX0_forget_X3_setAll rfl ⟨rfl, rfl, by decide, by decide⟩ ⟨Nat.zero_le _, Nat.zero_le _⟩ 1 ⟨rfl, by decide +kernel⟩ rfl [3, 4] rfl rfl rfl 3 rfl rfl rfl (Nat.le_of_ble_eq_true rfl) rfl dX0_forget_7 (fun H locs w => ?_)
  exact kret _ _ _ _ dX0_forget_10 w

set_option maxHeartbeats 4000000 in
set_option maxRecDepth 100000 in
/-- Lookahead.noteStep -/
theorem k_noteStep (l : Launch) (D : va_G) (cI cZ cJ : ClassId) (a : Nat → Nat) (μ : Nat → Int → Int) (c s t : Int) (hI : IP μ) (hc : (0 ≤ c ∧ c < 120) ∧ 0 ≤ s ∧ s < 16) : Cv l D (tY cI cZ cJ) yX0_noteStep wsX0_noteStep rmX0_noteStep [.ref (a 4), .int (iI c), .int (iI s), .int (iI t)] (WLok cI a μ) (WLok cI a (mset μ 20 (nSt μ c s t (μ 20) 4))) := by
  refine qv_of (by decide +kernel) rfl (Nat.le_of_ble_eq_true rfl) ?_
  intro zp ze zs zm zargs zbelow zmeth zc A Q ls M hA w hl kret
  have hl : lv_has ls 6 [(0, .ref (a 4)), (1, .int (iI c)), (2, .int (iI s)), (3, .int (iI t))] := hl
  have in0 : ∀ w ∈ u_ws RX0 TX0 3, w ∈ wsX0_noteStep := by decide +kernel
  refine q_ic M dX0_noteStep_0 ?_
  refine q_is (lv' := [(4, .int (iI 0)), (0, .ref (a 4)), (1, .int (iI c)), (2, .int (iI s)), (3, .int (iI t))]) M dX0_noteStep_1 hl (by decide) rfl (fun ls hl => ?_)
  have lp3 : ∀ (n3 : Nat) (j : Int), (0 ≤ j ∧ j ≤ 4) → (4 - j : Int) < (n3 : Int) → ∀ (H : Heap) (locs : List Loc) (ls : Array Slot), wW D A zs.heap (WLok cI a (mset μ 20 (nSt μ c s t (μ 20) j))) H locs → lv_has ls 6 [(0, .ref (a 4)), (1, .int (iI c)), (2, .int (iI s)), (3, .int (iI t)), (4, .int (iI j))] → W zp l ze rmX0_noteStep zs zm zargs zbelow zmeth zc H locs 0 0 Q (F0 zm 3 ls []) := by
    intro n3
    induction n3 with
    | zero => intro j hj hm H locs ls w hl; exfalso; omega
    | succ n3 ih3 =>
      intro j hj hm3 H locs ls w hl
      refine q_il M dX0_noteStep_3 (lv_at hl 4 rfl) ?_
      refine q_ic M dX0_noteStep_5 ?_
      refine q_icmp_ge (tgt := 45) M dX0_noteStep_6 (by decide) (by omega) (fun c6 => ?_) (fun c6 => ?_)
      · rw [show j = 4 by omega] at w
        exact kret _ _ _ _ dX0_noteStep_45 w
      · refine q_aln M dX0_noteStep_9 (lv_at hl 0 rfl) ?_
        refine q_get (v := .ref (a 1)) M w in0 0 0 rfl rfl (by decide) (by decide +kernel) rfl rfl dX0_noteStep_10 ?_
        refine q_iln M dX0_noteStep_13 (lv_at hl 1 rfl) ?_
        refine q_il M dX0_noteStep_14 (lv_at hl 4 rfl) ?_
        refine q_iln M dX0_noteStep_16 (lv_at hl 2 rfl) ?_
        refine qc_iV (As := [.int (iI c), .int (iI j), .int (iI s)]) (rest := []) (wc := WPat cI a (mset μ 20 (nSt μ c s t (μ 20) j))) (wc2 := WPat cI a (mset μ 20 (nSt μ c s t (μ 20) j))) (ws2 := WLok cI a (mset μ 20 (nSt μ c s t (μ 20) j))) M w hA hl (k_sampleAt l D cI cZ cJ a (mset μ 20 (nSt μ c s t (μ 20) j)) c j s hI (by omega)) gX0_noteStep_X2_sampleAt rfl ⟨rfl, rfl, by decide, by decide⟩ ⟨Nat.zero_le _, Nat.zero_le _⟩ 3 ⟨rfl, by decide +kernel⟩ rfl [5, 6, 7, 8, 9, 10, 11, 12, 13, 14, 15, 16, 17, 18, 19] rfl rfl rfl 5 rfl rfl rfl (Nat.le_of_ble_eq_true rfl) rfl dX0_noteStep_17 (fun H locs w => ?_)
        have q4 := sA_bd hI c j s
        refine q_is (lv' := [(5, .int (iI (sA μ c j s))), (0, .ref (a 4)), (1, .int (iI c)), (2, .int (iI s)), (3, .int (iI t)), (4, .int (iI j))]) M dX0_noteStep_20 hl (by decide) rfl (fun ls hl => ?_)
        refine q_il M dX0_noteStep_22 (lv_at hl 0 rfl) ?_
        refine q_ic M dX0_noteStep_24 ?_
        refine q_icmp_eq (tgt := 39) M dX0_noteStep_25 (by decide) (by omega) (fun c25 => ?_) (fun c25 => ?_)
        · have ew : nSt μ c s t (μ 20) j = nSt μ c s t (μ 20) (j + 1) := by unfold nSt; rw [itI_s _ _ hj.1]; simp [c25]
          have w : wW D A zs.heap (WLok cI a (mset μ 20 (nSt μ c s t (μ 20) (j + 1)))) H locs := by rw [← ew]; exact w
          refine q_inc (z := j) (lv' := [(4, .int (iI (j + 1))), (5, .int (iI (sA μ c j s))), (0, .ref (a 4)), (1, .int (iI c)), (2, .int (iI s)), (3, .int (iI t))]) M dX0_noteStep_39 hl (k := 5) rfl (by decide) rfl (fun ls hl => ?_)
          refine q_go (tgt := 3) M dX0_noteStep_42 (by decide) ?_
          exact ih3 (j + 1) (by omega) (by omega) _ _ _ w (lv_sub hl [2, 3, 4, 5, 0] rfl)
        · refine q_aln M dX0_noteStep_28 (lv_at hl 1 rfl) ?_
          refine q_get (v := .ref (a 50)) M w in0 0 2 rfl rfl (by decide) (by decide +kernel) rfl rfl dX0_noteStep_29 ?_
          refine q_il M dX0_noteStep_32 (lv_at hl 0 rfl) ?_
          refine q_iln M dX0_noteStep_34 (lv_at hl 4 rfl) ?_
          refine qc_iV (As := [.int (iI (sA μ c j s)), .int (iI t)]) (rest := []) (wc := WRow cI (a 50) (a 51) 8 (nSt μ c s t (μ 20) j)) (wc2 := WRow cI (a 50) (a 51) 8 (iU (nSt μ c s t (μ 20) j) (sA μ c j s) t)) (ws2 := WLok cI a (mset μ 20 (iU (nSt μ c s t (μ 20) j) (sA μ c j s) t))) M w hA hl (k_replace l D cI cZ cJ _ _ _ _ (sA μ c j s) t (by omega)) gX0_noteStep_X3_replace rfl ⟨rfl, rfl, by decide, by decide⟩ ⟨Nat.zero_le _, Nat.zero_le _⟩ 2 ⟨rfl, by decide +kernel⟩ rfl [3, 4] rfl rfl rfl 3 rfl rfl rfl (Nat.le_of_ble_eq_true rfl) rfl dX0_noteStep_35 (fun H locs w => ?_)
          refine q_pop M dX0_noteStep_38 rfl ?_
          have ew : iU (nSt μ c s t (μ 20) j) (sA μ c j s) t = nSt μ c s t (μ 20) (j + 1) := by unfold nSt; rw [itI_s _ _ hj.1]; simp [c25]
          have w : wW D A zs.heap (WLok cI a (mset μ 20 (nSt μ c s t (μ 20) (j + 1)))) H locs := by rw [← ew]; exact w
          refine q_inc (z := j) (lv' := [(4, .int (iI (j + 1))), (5, .int (iI (sA μ c j s))), (0, .ref (a 4)), (1, .int (iI c)), (2, .int (iI s)), (3, .int (iI t))]) M dX0_noteStep_39 hl (k := 5) rfl (by decide) rfl (fun ls hl => ?_)
          refine q_go (tgt := 3) M dX0_noteStep_42 (by decide) ?_
          exact ih3 (j + 1) (by omega) (by omega) _ _ _ w (lv_sub hl [2, 3, 4, 5, 0] rfl)
  have ew : μ 20 = nSt μ c s t (μ 20) 0 := by unfold nSt; rw [itI_0]
  have w : wW D A zs.heap (WLok cI a (mset μ 20 (nSt μ c s t (μ 20) 0))) zs.heap [] := by rw [← ew]; exact w
  exact lp3 5 0 (by omega) (by omega) _ _ _ w (lv_sub hl [1, 2, 3, 4, 0] rfl)

set_option maxHeartbeats 4000000 in
set_option maxRecDepth 100000 in
/-- Lookahead.noteBar -/
theorem k_noteBar (l : Launch) (D : va_G) (cI cZ cJ : ClassId) (a : Nat → Nat) (μ : Nat → Int → Int) (c f : Int) (hI : IP μ) (hc : 0 ≤ c ∧ c < 120) : Cv l D (tY cI cZ cJ) yX0_noteBar wsX0_noteBar rmX0_noteBar [.ref (a 4), .int (iI c), .int (iI f)] (WLok cI a μ) (WLok cI a (mset μ 20 (nBr μ c f (μ 20) 16))) := by
  refine qv_of (by decide +kernel) rfl (Nat.le_of_ble_eq_true rfl) ?_
  intro zp ze zs zm zargs zbelow zmeth zc A Q ls M hA w hl kret
  have hl : lv_has ls 4 [(0, .ref (a 4)), (1, .int (iI c)), (2, .int (iI f))] := hl
  have in0 : ∀ w ∈ u_ws RX0 TX0 3, w ∈ wsX0_noteBar := by decide +kernel
  refine q_bp M dX0_noteBar_0 (by decide +kernel) ?_
  refine q_isn (lv' := [(3, .int (iI 15)), (0, .ref (a 4)), (1, .int (iI c)), (2, .int (iI f))]) M dX0_noteBar_2 rfl hl (by decide) rfl (fun ls hl => ?_)
  have lp3 : ∀ (n3 : Nat) (x : Int), (-1 ≤ x ∧ x ≤ 15) → (x + 1 : Int) < (n3 : Int) → ∀ (H : Heap) (locs : List Loc) (ls : Array Slot), wW D A zs.heap (WLok cI a (mset μ 20 (nBr μ c f (μ 20) (15 - x)))) H locs → lv_has ls 4 [(0, .ref (a 4)), (1, .int (iI c)), (2, .int (iI f)), (3, .int (iI x))] → W zp l ze rmX0_noteBar zs zm zargs zbelow zmeth zc H locs 0 0 Q (F0 zm 3 ls []) := by
    intro n3
    induction n3 with
    | zero => intro x hj hm H locs ls w hl; exfalso; omega
    | succ n3 ih3 =>
      intro x hj hm3 H locs ls w hl
      refine q_iln M dX0_noteBar_3 (lv_at hl 3 rfl) ?_
      refine q_if_lt (tgt := 30) M dX0_noteBar_4 (by decide) (by omega) (fun c4 => ?_) (fun c4 => ?_)
      · rw [show 15 - x = 16 by omega] at w
        exact kret _ _ _ _ dX0_noteBar_30 w
      · refine q_aln M dX0_noteBar_7 (lv_at hl 0 rfl) ?_
        refine q_iln M dX0_noteBar_8 (lv_at hl 1 rfl) ?_
        refine q_iln M dX0_noteBar_9 (lv_at hl 3 rfl) ?_
        refine q_iln M dX0_noteBar_10 (lv_at hl 2 rfl) ?_
        refine q_aln M dX0_noteBar_11 (lv_at hl 0 rfl) ?_
        refine q_get (v := .ref (a 1)) M w in0 0 0 rfl rfl (by decide) (by decide +kernel) rfl rfl dX0_noteBar_12 ?_
        refine q_iln M dX0_noteBar_15 (lv_at hl 1 rfl) ?_
        refine q_iln M dX0_noteBar_16 (lv_at hl 3 rfl) ?_
        refine qc_iV (As := [.int (iI c), .int (iI x)]) (rest := [.int (iI f), .int (iI x), .int (iI c), .ref (a 4)]) (wc := WPat cI a (mset μ 20 (nBr μ c f (μ 20) (15 - x)))) (wc2 := WPat cI a (mset μ 20 (nBr μ c f (μ 20) (15 - x)))) (ws2 := WLok cI a (mset μ 20 (nBr μ c f (μ 20) (15 - x)))) M w hA hl (k_tickOf l D cI cZ cJ a (mset μ 20 (nBr μ c f (μ 20) (15 - x))) c x hI (by omega)) gX0_noteBar_X2_tickOf rfl ⟨rfl, rfl, by decide, by decide⟩ ⟨Nat.zero_le _, Nat.zero_le _⟩ 2 ⟨rfl, by decide +kernel⟩ rfl [5, 6, 7, 8, 9, 10, 11, 12, 13, 14, 15, 16, 17, 18, 19] rfl rfl rfl 5 rfl rfl rfl (Nat.le_of_ble_eq_true rfl) rfl dX0_noteBar_17 (fun H locs w => ?_)
        refine q_add M dX0_noteBar_20 ?_
        refine qc_vV (As := [.int (iI c), .int (iI x), .int (iI (f + (tOf μ c x)))]) (rest := []) (wc := WLok cI a (mset μ 20 (nBr μ c f (μ 20) (15 - x)))) (wc2 := WLok cI a (mset μ 20 (nSt μ c x (f + (tOf μ c x)) (nBr μ c f (μ 20) (15 - x)) 4))) (ws2 := WLok cI a (mset μ 20 (nSt μ c x (f + (tOf μ c x)) (nBr μ c f (μ 20) (15 - x)) 4))) M w hA hl (k_noteStep l D cI cZ cJ a (mset μ 20 (nBr μ c f (μ 20) (15 - x))) c x (f + (tOf μ c x)) hI (by omega)) gX0_noteBar_X0_noteStep rfl ⟨rfl, rfl, by decide, by decide⟩ ⟨Nat.zero_le _, Nat.zero_le _⟩ 3 ⟨rfl, by decide +kernel⟩ rfl [0, 1, 2, 3, 4, 5, 6, 7, 8, 9, 10, 11, 12, 13, 14, 15, 16, 17, 18, 19] rfl rfl rfl 0 rfl rfl rfl (Nat.le_of_ble_eq_true rfl) rfl dX0_noteBar_21 (fun H locs w => ?_)
        have ew : nSt μ c x (f + (tOf μ c x)) (nBr μ c f (μ 20) (15 - x)) 4 = nBr μ c f (μ 20) (15 - x + 1) := by unfold nBr; rw [itI_s _ _ (by omega), show 15 - (15 - x) = x by omega]
        have w : wW D A zs.heap (WLok cI a (mset μ 20 (nBr μ c f (μ 20) (15 - x + 1)))) H locs := by rw [← ew]; exact w
        refine q_inc (z := x) (lv' := [(3, .int (iI (x + (-1)))), (0, .ref (a 4)), (1, .int (iI c)), (2, .int (iI f))]) M dX0_noteBar_24 hl (k := 3) rfl (by decide) rfl (fun ls hl => ?_)
        refine q_go (tgt := 3) M dX0_noteBar_27 (by decide) ?_
        rw [show 15 - x + 1 = 15 - (x + (-1)) by omega] at w
        exact ih3 (x + (-1)) (by omega) (by omega) _ _ _ w (lv_sub hl [1, 2, 3, 0] rfl)
  have ew : μ 20 = nBr μ c f (μ 20) (15 - 15) := by unfold nBr; rw [show (15 : Int) - 15 = 0 from rfl, itI_0]
  have w : wW D A zs.heap (WLok cI a (mset μ 20 (nBr μ c f (μ 20) (15 - 15)))) zs.heap [] := by rw [← ew]; exact w
  exact lp3 17 15 (by omega) (by omega) _ _ _ w (lv_sub hl [1, 2, 3, 0] rfl)

set_option maxHeartbeats 4000000 in
set_option maxRecDepth 100000 in
/-- Lookahead.keepUses -/
theorem k_keepUses (l : Launch) (D : va_G) (cI cZ cJ : ClassId) (a : Nat → Nat) (μ : Nat → Int → Int) (t : Int) (hc : 0 ≤ t ∧ t < 192) (hC : ∀ i, 0 ≤ μ 20 i ∧ μ 20 i ≤ 768) : Cv l D (tY cI cZ cJ) yX0_keepUses wsX0_keepUses rmX0_keepUses [.ref (a 4), .int (iI t)] (WLk0 cI a μ) (WLk0 cI a (mset μ 19 (kp (μ 20) t (μ 19)))) := by
  refine qv_of (by decide +kernel) rfl (Nat.le_of_ble_eq_true rfl) ?_
  intro zp ze zs zm zargs zbelow zmeth zc A Q ls M hA w hl kret
  have hl : lv_has ls 4 [(0, .ref (a 4)), (1, .int (iI t))] := hl
  have in0 : ∀ w ∈ u_ws RX0 TX0 3, w ∈ wsX0_keepUses := by decide +kernel
  refine q_ic M dX0_keepUses_0 ?_
  refine q_isn (lv' := [(2, .int (iI 0)), (0, .ref (a 4)), (1, .int (iI t))]) M dX0_keepUses_1 rfl hl (by decide) rfl (fun ls hl => ?_)
  have lp2 : ∀ (n2 : Nat) (x : Int), (0 ≤ x ∧ x ≤ 8) → (8 - x : Int) < (n2 : Int) → ∀ (H : Heap) (locs : List Loc) (ls : Array Slot), wW D A zs.heap (WLk0 cI a (mset μ 19 (cpF (μ 19) (fun s => kU (μ 20 s) t) (t * 8) x))) H locs → lv_has ls 4 [(0, .ref (a 4)), (1, .int (iI t)), (2, .int (iI x))] → W zp l ze rmX0_keepUses zs zm zargs zbelow zmeth zc H locs 0 0 Q (F0 zm 2 ls []) := by
    intro n2
    induction n2 with
    | zero => intro x hj hm H locs ls w hl; exfalso; omega
    | succ n2 ih2 =>
      intro x hj hm2 H locs ls w hl
      refine q_iln M dX0_keepUses_2 (lv_at hl 2 rfl) ?_
      refine q_bp M dX0_keepUses_3 (by decide +kernel) ?_
      refine q_icmp_ge (tgt := 53) M dX0_keepUses_5 (by decide) (by omega) (fun c5 => ?_) (fun c5 => ?_)
      · rw [show x = 8 by omega] at w
        exact kret _ _ _ _ dX0_keepUses_53 w
      · refine q_aln M dX0_keepUses_8 (lv_at hl 0 rfl) ?_
        refine q_get (v := .ref (a 50)) M w in0 0 2 rfl rfl (by decide) (by decide +kernel) rfl rfl dX0_keepUses_9 ?_
        refine q_iln M dX0_keepUses_12 (lv_at hl 2 rfl) ?_
        refine qc_iV (As := [.int (iI x)]) (rest := []) (wc := WRow cI (a 50) (a 51) 8 (μ 20)) (wc2 := WRow cI (a 50) (a 51) 8 (μ 20)) (ws2 := WLk0 cI a (mset μ 19 (cpF (μ 19) (fun s => kU (μ 20 s) t) (t * 8) x))) M w hA hl (k_get l D cI cZ cJ _ _ _ _ x (by omega)) gX0_keepUses_X3_get rfl ⟨rfl, rfl, by decide, by decide⟩ ⟨Nat.zero_le _, Nat.zero_le _⟩ 1 ⟨rfl, by decide +kernel⟩ rfl [3, 4] rfl rfl rfl 3 rfl rfl rfl (Nat.le_of_ble_eq_true rfl) rfl dX0_keepUses_13 (fun H locs w => ?_)
        refine q_isn (lv' := [(3, .int (iI ((μ 20) x))), (0, .ref (a 4)), (1, .int (iI t)), (2, .int (iI x))]) M dX0_keepUses_16 rfl hl (by decide) rfl (fun ls hl => ?_)
        have q4 := hC x
        refine q_aln M dX0_keepUses_17 (lv_at hl 1 rfl) ?_
        refine q_get (v := .ref (a 48)) M w in0 0 1 rfl rfl (by decide) (by decide +kernel) rfl rfl dX0_keepUses_18 ?_
        refine q_iln M dX0_keepUses_21 (lv_at hl 2 rfl) ?_
        refine q_bp M dX0_keepUses_22 (by decide +kernel) ?_
        refine q_mul M dX0_keepUses_24 ?_
        refine q_iln M dX0_keepUses_25 (lv_at hl 3 rfl) ?_
        refine q_add M dX0_keepUses_26 ?_
        refine q_iln M dX0_keepUses_27 (lv_at hl 0 rfl) ?_
        refine q_sp M dX0_keepUses_28 (by decide +kernel) ?_
        refine q_icmp_ne (tgt := 40) M dX0_keepUses_31 (by decide) (by omega) (fun c31 => ?_) (fun c31 => ?_)
        · refine q_iln M dX0_keepUses_40 (lv_at hl 0 rfl) ?_
          refine q_iln M dX0_keepUses_41 (lv_at hl 2 rfl) ?_
          refine q_sub M dX0_keepUses_42 ?_
          refine qc_iV (As := [.int (iI ((t * 8) + x)), .int (iI (((μ 20) x) - t))]) (rest := []) (wc := WRow cI (a 48) (a 49) 1536 (cpF (μ 19) (fun s => kU (μ 20 s) t) (t * 8) x)) (wc2 := WRow cI (a 48) (a 49) 1536 (iU (cpF (μ 19) (fun s => kU (μ 20 s) t) (t * 8) x) ((t * 8) + x) (((μ 20) x) - t))) (ws2 := WLk0 cI a (mset μ 19 (iU (cpF (μ 19) (fun s => kU (μ 20 s) t) (t * 8) x) ((t * 8) + x) (((μ 20) x) - t)))) M w hA hl (k_replace l D cI cZ cJ _ _ _ _ ((t * 8) + x) (((μ 20) x) - t) (by omega)) gX0_keepUses_X3_replace rfl ⟨rfl, rfl, by decide, by decide⟩ ⟨Nat.zero_le _, Nat.zero_le _⟩ 2 ⟨rfl, by decide +kernel⟩ rfl [1, 2] rfl rfl rfl 1 rfl rfl rfl (Nat.le_of_ble_eq_true rfl) rfl dX0_keepUses_43 (fun H locs w => ?_)
          refine q_pop M dX0_keepUses_46 rfl ?_
          have ew : iU (cpF (μ 19) (fun s => kU (μ 20 s) t) (t * 8) x) ((t * 8) + x) (((μ 20) x) - t) = cpF (μ 19) (fun s => kU (μ 20 s) t) (t * 8) (x + 1) := by rw [← cpF_s _ _ _ hj.1]; congr 1; unfold kU; split <;> omega
          have w : wW D A zs.heap (WLk0 cI a (mset μ 19 (cpF (μ 19) (fun s => kU (μ 20 s) t) (t * 8) (x + 1)))) H locs := by rw [← ew]; exact w
          refine q_inc (z := x) (lv' := [(2, .int (iI (x + 1))), (3, .int (iI ((μ 20) x))), (0, .ref (a 4)), (1, .int (iI t))]) M dX0_keepUses_47 hl (k := 3) rfl (by decide) rfl (fun ls hl => ?_)
          refine q_go (tgt := 2) M dX0_keepUses_50 (by decide) ?_
          exact ih2 (x + 1) (by omega) (by omega) _ _ _ w (lv_sub hl [2, 3, 0] rfl)
        · refine q_sp M dX0_keepUses_34 (by decide +kernel) ?_
          refine q_go (tgt := 43) M dX0_keepUses_37 (by decide) ?_
          refine qc_iV (As := [.int (iI ((t * 8) + x)), .int (iI 768)]) (rest := []) (wc := WRow cI (a 48) (a 49) 1536 (cpF (μ 19) (fun s => kU (μ 20 s) t) (t * 8) x)) (wc2 := WRow cI (a 48) (a 49) 1536 (iU (cpF (μ 19) (fun s => kU (μ 20 s) t) (t * 8) x) ((t * 8) + x) 768)) (ws2 := WLk0 cI a (mset μ 19 (iU (cpF (μ 19) (fun s => kU (μ 20 s) t) (t * 8) x) ((t * 8) + x) 768))) M w hA hl (k_replace l D cI cZ cJ _ _ _ _ ((t * 8) + x) 768 (by omega)) gX0_keepUses_X3_replace rfl ⟨rfl, rfl, by decide, by decide⟩ ⟨Nat.zero_le _, Nat.zero_le _⟩ 2 ⟨rfl, by decide +kernel⟩ rfl [1, 2] rfl rfl rfl 1 rfl rfl rfl (Nat.le_of_ble_eq_true rfl) rfl dX0_keepUses_43 (fun H locs w => ?_)
          refine q_pop M dX0_keepUses_46 rfl ?_
          have ew : iU (cpF (μ 19) (fun s => kU (μ 20 s) t) (t * 8) x) ((t * 8) + x) 768 = cpF (μ 19) (fun s => kU (μ 20 s) t) (t * 8) (x + 1) := by rw [← cpF_s _ _ _ hj.1]; congr 1; unfold kU; split <;> omega
          have w : wW D A zs.heap (WLk0 cI a (mset μ 19 (cpF (μ 19) (fun s => kU (μ 20 s) t) (t * 8) (x + 1)))) H locs := by rw [← ew]; exact w
          refine q_inc (z := x) (lv' := [(2, .int (iI (x + 1))), (3, .int (iI ((μ 20) x))), (0, .ref (a 4)), (1, .int (iI t))]) M dX0_keepUses_47 hl (k := 3) rfl (by decide) rfl (fun ls hl => ?_)
          refine q_go (tgt := 2) M dX0_keepUses_50 (by decide) ?_
          exact ih2 (x + 1) (by omega) (by omega) _ _ _ w (lv_sub hl [2, 3, 0] rfl)
  have w : wW D A zs.heap (WLk0 cI a (mset μ 19 (cpF (μ 19) (fun s => kU (μ 20 s) t) (t * 8) 0))) zs.heap [] := by rw [cpF_0]; exact w
  exact lp2 9 0 (by omega) (by omega) _ _ _ w (lv_sub hl [1, 2, 0] rfl)

set_option maxHeartbeats 4000000 in
set_option maxRecDepth 100000 in
/-- Lookahead.noteDueBar -/
theorem k_noteDueBar (l : Launch) (D : va_G) (cI cZ cJ : ClassId) (a : Nat → Nat) (μ : Nat → Int → Int) (c : Int) (hI : IP μ) (hc : 0 ≤ c ∧ c < 120) (hC : ∀ i, 0 ≤ μ 20 i ∧ μ 20 i ≤ 768) : Cv l D (tY cI cZ cJ) yX0_noteDueBar wsX0_noteDueBar rmX0_noteDueBar [.ref (a 4), .int (iI c)] (WLok cI a μ) (WLok cI a (mset (mset μ 19 ((nDu μ c (μ 19, μ 20) 192).1)) 20 ((nDu μ c (μ 19, μ 20) 192).2))) := by
  refine qv_of (by decide +kernel) rfl (Nat.le_of_ble_eq_true rfl) ?_
  intro zp ze zs zm zargs zbelow zmeth zc A Q ls M hA w hl kret
  have hl : lv_has ls 4 [(0, .ref (a 4)), (1, .int (iI c))] := hl
  have in0 : ∀ w ∈ u_ws RX0 TX0 3, w ∈ wsX0_noteDueBar := by decide +kernel
  refine q_sp M dX0_noteDueBar_0 (by decide +kernel) ?_
  refine q_isn (lv' := [(2, .int (iI 191)), (0, .ref (a 4)), (1, .int (iI c))]) M dX0_noteDueBar_3 rfl hl (by decide) rfl (fun ls hl => ?_)
  have lp4 : ∀ (n4 : Nat) (x : Int), (-1 ≤ x ∧ x ≤ 191) → (x + 1 : Int) < (n4 : Int) → ∀ (H : Heap) (locs : List Loc) (ls : Array Slot), wW D A zs.heap (WLok cI a (mset (mset μ 19 ((nDu μ c (μ 19, μ 20) (191 - x)).1)) 20 ((nDu μ c (μ 19, μ 20) (191 - x)).2))) H locs → lv_has ls 4 [(0, .ref (a 4)), (1, .int (iI c)), (2, .int (iI x))] → W zp l ze rmX0_noteDueBar zs zm zargs zbelow zmeth zc H locs 0 0 Q (F0 zm 4 ls []) := by
    intro n4
    induction n4 with
    | zero => intro x hj hm H locs ls w hl; exfalso; omega
    | succ n4 ih4 =>
      intro x hj hm4 H locs ls w hl
      refine q_iln M dX0_noteDueBar_4 (lv_at hl 2 rfl) ?_
      refine q_if_lt (tgt := 41) M dX0_noteDueBar_5 (by decide) (by omega) (fun c5 => ?_) (fun c5 => ?_)
      · rw [show 191 - x = 192 by omega] at w
        exact kret _ _ _ _ dX0_noteDueBar_41 w
      · refine q_aln M dX0_noteDueBar_8 (lv_at hl 0 rfl) ?_
        refine q_iln M dX0_noteDueBar_9 (lv_at hl 2 rfl) ?_
        refine qc_vV (As := [.int (iI x)]) (rest := []) (wc := WLk0 cI a (mset (mset μ 19 ((nDu μ c (μ 19, μ 20) (191 - x)).1)) 20 ((nDu μ c (μ 19, μ 20) (191 - x)).2))) (wc2 := WLk0 cI a (mset (mset μ 19 (kp ((nDu μ c (μ 19, μ 20) (191 - x)).2) x ((nDu μ c (μ 19, μ 20) (191 - x)).1))) 20 ((nDu μ c (μ 19, μ 20) (191 - x)).2))) (ws2 := WLok cI a (mset (mset μ 19 (kp ((nDu μ c (μ 19, μ 20) (191 - x)).2) x ((nDu μ c (μ 19, μ 20) (191 - x)).1))) 20 ((nDu μ c (μ 19, μ 20) (191 - x)).2))) M w hA hl (k_keepUses l D cI cZ cJ a (mset (mset μ 19 ((nDu μ c (μ 19, μ 20) (191 - x)).1)) 20 ((nDu μ c (μ 19, μ 20) (191 - x)).2)) x (by omega) (nDu_bd (u := (μ 19, μ 20)) hC (by omega))) gX0_noteDueBar_X0_keepUses rfl ⟨rfl, rfl, by decide, by decide⟩ ⟨Nat.zero_le _, Nat.zero_le _⟩ 1 ⟨rfl, by decide +kernel⟩ rfl [0, 1, 2, 3, 4] rfl rfl rfl 0 rfl rfl rfl (Nat.le_of_ble_eq_true rfl) rfl dX0_noteDueBar_10 (fun H locs w => ?_)
        refine q_aln M dX0_noteDueBar_13 (lv_at hl 0 rfl) ?_
        refine q_get (v := .ref (a 1)) M w in0 0 0 rfl rfl (by decide) (by decide +kernel) rfl rfl dX0_noteDueBar_14 ?_
        refine q_iln M dX0_noteDueBar_17 (lv_at hl 1 rfl) ?_
        refine q_iln M dX0_noteDueBar_18 (lv_at hl 2 rfl) ?_
        refine qc_iV (As := [.int (iI c), .int (iI x)]) (rest := []) (wc := WPat cI a (mset (mset μ 19 (kp ((nDu μ c (μ 19, μ 20) (191 - x)).2) x ((nDu μ c (μ 19, μ 20) (191 - x)).1))) 20 ((nDu μ c (μ 19, μ 20) (191 - x)).2))) (wc2 := WPat cI a (mset (mset μ 19 (kp ((nDu μ c (μ 19, μ 20) (191 - x)).2) x ((nDu μ c (μ 19, μ 20) (191 - x)).1))) 20 ((nDu μ c (μ 19, μ 20) (191 - x)).2))) (ws2 := WLok cI a (mset (mset μ 19 (kp ((nDu μ c (μ 19, μ 20) (191 - x)).2) x ((nDu μ c (μ 19, μ 20) (191 - x)).1))) 20 ((nDu μ c (μ 19, μ 20) (191 - x)).2))) M w hA hl (k_stepAt l D cI cZ cJ a (mset (mset μ 19 (kp ((nDu μ c (μ 19, μ 20) (191 - x)).2) x ((nDu μ c (μ 19, μ 20) (191 - x)).1))) 20 ((nDu μ c (μ 19, μ 20) (191 - x)).2)) c x hI (by omega)) gX0_noteDueBar_X2_stepAt rfl ⟨rfl, rfl, by decide, by decide⟩ ⟨Nat.zero_le _, Nat.zero_le _⟩ 2 ⟨rfl, by decide +kernel⟩ rfl [5, 6, 7, 8, 9, 10, 11, 12, 13, 14, 15, 16, 17, 18, 19] rfl rfl rfl 5 rfl rfl rfl (Nat.le_of_ble_eq_true rfl) rfl dX0_noteDueBar_19 (fun H locs w => ?_)
        have q4 := sTa_cs μ c x
        refine q_isn (lv' := [(3, .int (iI (sTa μ c x))), (0, .ref (a 4)), (1, .int (iI c)), (2, .int (iI x))]) M dX0_noteDueBar_22 rfl hl (by decide) rfl (fun ls hl => ?_)
        refine q_iln M dX0_noteDueBar_23 (lv_at hl 0 rfl) ?_
        refine q_ic M dX0_noteDueBar_24 ?_
        refine q_icmp_eq (tgt := 35) M dX0_noteDueBar_25 (by decide) (by omega) (fun c25 => ?_) (fun c25 => ?_)
        · have ed := itI_s (fun i h => (kp h.2 (191 - i) h.1, if sTa μ c (191 - i) = -1 then h.2 else nSt μ c (sTa μ c (191 - i)) (191 - i) h.2 4)) (μ 19, μ 20) (i := 191 - x) (by omega)
          rw [show 191 - (191 - x) = x by omega] at ed
          have e1 : kp ((nDu μ c (μ 19, μ 20) (191 - x)).2) x ((nDu μ c (μ 19, μ 20) (191 - x)).1) = (nDu μ c (μ 19, μ 20) (191 - x + 1)).1 := (congrArg Prod.fst ed).symm
          have e2 : (nDu μ c (μ 19, μ 20) (191 - x)).2 = (nDu μ c (μ 19, μ 20) (191 - x + 1)).2 := by refine Eq.trans ?_ (congrArg Prod.snd ed).symm; dsimp only; simp [c25]; try rfl
          have w : wW D A zs.heap (WLok cI a (mset (mset μ 19 ((nDu μ c (μ 19, μ 20) (191 - x + 1)).1)) 20 ((nDu μ c (μ 19, μ 20) (191 - x + 1)).2))) H locs := by rw [← e1, ← e2]; exact w
          refine q_inc (z := x) (lv' := [(2, .int (iI (x + (-1)))), (3, .int (iI (sTa μ c x))), (0, .ref (a 4)), (1, .int (iI c))]) M dX0_noteDueBar_35 hl (k := 3) rfl (by decide) rfl (fun ls hl => ?_)
          refine q_go (tgt := 4) M dX0_noteDueBar_38 (by decide) ?_
          rw [show 191 - x + 1 = 191 - (x + (-1)) by omega] at w
          exact ih4 (x + (-1)) (by omega) (by omega) _ _ _ w (lv_sub hl [2, 3, 0] rfl)
        · refine q_aln M dX0_noteDueBar_28 (lv_at hl 1 rfl) ?_
          refine q_iln M dX0_noteDueBar_29 (lv_at hl 2 rfl) ?_
          refine q_iln M dX0_noteDueBar_30 (lv_at hl 0 rfl) ?_
          refine q_iln M dX0_noteDueBar_31 (lv_at hl 3 rfl) ?_
          refine qc_vV (As := [.int (iI c), .int (iI (sTa μ c x)), .int (iI x)]) (rest := []) (wc := WLok cI a (mset (mset μ 19 (kp ((nDu μ c (μ 19, μ 20) (191 - x)).2) x ((nDu μ c (μ 19, μ 20) (191 - x)).1))) 20 ((nDu μ c (μ 19, μ 20) (191 - x)).2))) (wc2 := WLok cI a (mset (mset μ 19 (kp ((nDu μ c (μ 19, μ 20) (191 - x)).2) x ((nDu μ c (μ 19, μ 20) (191 - x)).1))) 20 (nSt μ c (sTa μ c x) x ((nDu μ c (μ 19, μ 20) (191 - x)).2) 4))) (ws2 := WLok cI a (mset (mset μ 19 (kp ((nDu μ c (μ 19, μ 20) (191 - x)).2) x ((nDu μ c (μ 19, μ 20) (191 - x)).1))) 20 (nSt μ c (sTa μ c x) x ((nDu μ c (μ 19, μ 20) (191 - x)).2) 4))) M w hA hl (k_noteStep l D cI cZ cJ a (mset (mset μ 19 (kp ((nDu μ c (μ 19, μ 20) (191 - x)).2) x ((nDu μ c (μ 19, μ 20) (191 - x)).1))) 20 ((nDu μ c (μ 19, μ 20) (191 - x)).2)) c (sTa μ c x) x hI (by omega)) gX0_noteDueBar_X0_noteStep rfl ⟨rfl, rfl, by decide, by decide⟩ ⟨Nat.zero_le _, Nat.zero_le _⟩ 3 ⟨rfl, by decide +kernel⟩ rfl [0, 1, 2, 3, 4, 5, 6, 7, 8, 9, 10, 11, 12, 13, 14, 15, 16, 17, 18, 19] rfl rfl rfl 0 rfl rfl rfl (Nat.le_of_ble_eq_true rfl) rfl dX0_noteDueBar_32 (fun H locs w => ?_)
          have ed := itI_s (fun i h => (kp h.2 (191 - i) h.1, if sTa μ c (191 - i) = -1 then h.2 else nSt μ c (sTa μ c (191 - i)) (191 - i) h.2 4)) (μ 19, μ 20) (i := 191 - x) (by omega)
          rw [show 191 - (191 - x) = x by omega] at ed
          have e1 : kp ((nDu μ c (μ 19, μ 20) (191 - x)).2) x ((nDu μ c (μ 19, μ 20) (191 - x)).1) = (nDu μ c (μ 19, μ 20) (191 - x + 1)).1 := (congrArg Prod.fst ed).symm
          have e2 : nSt μ c (sTa μ c x) x ((nDu μ c (μ 19, μ 20) (191 - x)).2) 4 = (nDu μ c (μ 19, μ 20) (191 - x + 1)).2 := by refine Eq.trans ?_ (congrArg Prod.snd ed).symm; dsimp only; simp [c25]; try rfl
          have w : wW D A zs.heap (WLok cI a (mset (mset μ 19 ((nDu μ c (μ 19, μ 20) (191 - x + 1)).1)) 20 ((nDu μ c (μ 19, μ 20) (191 - x + 1)).2))) H locs := by rw [← e1, ← e2]; exact w
          refine q_inc (z := x) (lv' := [(2, .int (iI (x + (-1)))), (3, .int (iI (sTa μ c x))), (0, .ref (a 4)), (1, .int (iI c))]) M dX0_noteDueBar_35 hl (k := 3) rfl (by decide) rfl (fun ls hl => ?_)
          refine q_go (tgt := 4) M dX0_noteDueBar_38 (by decide) ?_
          rw [show 191 - x + 1 = 191 - (x + (-1)) by omega] at w
          exact ih4 (x + (-1)) (by omega) (by omega) _ _ _ w (lv_sub hl [2, 3, 0] rfl)
  have e0 : nDu μ c (μ 19, μ 20) (191 - 191) = (μ 19, μ 20) := by unfold nDu; rw [show (191 : Int) - 191 = 0 from rfl, itI_0]
  have w : wW D A zs.heap (WLok cI a (mset (mset μ 19 ((nDu μ c (μ 19, μ 20) (191 - 191)).1)) 20 ((nDu μ c (μ 19, μ 20) (191 - 191)).2))) zs.heap [] := by rw [e0]; exact w
  exact lp4 193 191 (by omega) (by omega) _ _ _ w (lv_sub hl [1, 2, 0] rfl)
