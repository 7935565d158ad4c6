/-! THE REFERENCE: bars -/
def mN (j : Nat) : Int := if j = 1 then 8 else if j = 2 then 8 else if j = 3 then 768 else if j = 4 then 192 else if j = 5 then 12 else if j = 6 then 12 else if j = 7 then 12 else if j = 8 then 96 else if j = 9 then 6 else if j = 10 then 48 else if j = 11 then 48 else if j = 12 then 48 else if j = 13 then 48 else if j = 15 then 8 else if j = 16 then 576 else if j = 17 then 576 else if j = 18 then 9 else if j = 19 then 8 else if j = 20 then 12 else if j = 25 then 8 else 1
theorem at_cong {D : va_G} {H : Heap} {x n : Nat} {cA : ClassId} {f g : Int → Int} (h : ∀ j : Int, 0 ≤ j → j < n → f j = g j) (h0 : va_at D vwCl (x, .inl (cA, n, .inl (iF f))) H) : va_at D vwCl (x, .inl (cA, n, .inl (iF g))) H := by
  have h1 : H[x]? = some (vp_cell cA (n, .inl (iF f))) := h0
  show H[x]? = some (vp_cell cA (n, .inl (iF g)))
  rw [← cell_cong h]
  exact h1
theorem WMod_cong {D : va_G} {A : Nat → Prop} {H0 H : Heap} {locs : List Loc} {cI cZ : ClassId} {b : Nat → Nat} {ν ν2 : Nat → Int → Int} (w : wW D A H0 (WMod cI cZ b ν) H locs) (h : ∀ (j : Nat) (i : Int), 0 ≤ i → i < mN j → ν j i = ν2 j i) : wW D A H0 (WMod cI cZ b ν2) H locs := by
  have e0 : ν 0 0 = ν2 0 0 := h 0 0 (by decide) (by decide)
  have e14 : ν 14 0 = ν2 14 0 := h 14 0 (by decide) (by decide)
  have e21 : ν 21 0 = ν2 21 0 := h 21 0 (by decide) (by decide)
  have e22 : ν 22 0 = ν2 22 0 := h 22 0 (by decide) (by decide)
  have e23 : ν 23 0 = ν2 23 0 := h 23 0 (by decide) (by decide)
  have e24 : ν 24 0 = ν2 24 0 := h 24 0 (by decide) (by decide)
  have e26 : ν 26 0 = ν2 26 0 := h 26 0 (by decide) (by decide)
  have e27 : ν 27 0 = ν2 27 0 := h 27 0 (by decide) (by decide)
  have e28 : ν 28 0 = ν2 28 0 := h 28 0 (by decide) (by decide)
  have e29 : ν 29 0 = ν2 29 0 := h 29 0 (by decide) (by decide)
  have e30 : ν 30 0 = ν2 30 0 := h 30 0 (by decide) (by decide)
  refine wW_cong w fun k q hk => ?_
  match k, hk with
  | 0, hk =>
    cases hk
    refine ⟨_, rfl, rfl, fun h0 => ?_⟩
    rw [← e0, ← e14, ← e21, ← e22, ← e23, ← e24, ← e26, ← e27, ← e28, ← e29, ← e30]
    exact h0
  | 1, hk =>
    cases hk
    exact ⟨_, rfl, rfl, at_cong (fun i h1 h2 => h 1 i h1 h2)⟩
  | 2, hk =>
    cases hk
    exact ⟨_, rfl, rfl, at_cong (fun i h1 h2 => h 2 i h1 h2)⟩
  | 3, hk =>
    cases hk
    exact ⟨_, rfl, rfl, at_cong (fun i h1 h2 => h 3 i h1 h2)⟩
  | 4, hk =>
    cases hk
    exact ⟨_, rfl, rfl, at_cong (fun i h1 h2 => h 4 i h1 h2)⟩
  | 5, hk =>
    cases hk
    exact ⟨_, rfl, rfl, at_cong (fun i h1 h2 => h 5 i h1 h2)⟩
  | 6, hk =>
    cases hk
    exact ⟨_, rfl, rfl, at_cong (fun i h1 h2 => h 6 i h1 h2)⟩
  | 7, hk =>
    cases hk
    exact ⟨_, rfl, rfl, at_cong (fun i h1 h2 => h 7 i h1 h2)⟩
  | 8, hk =>
    cases hk
    exact ⟨_, rfl, rfl, at_cong (fun i h1 h2 => h 8 i h1 h2)⟩
  | 9, hk =>
    cases hk
    exact ⟨_, rfl, rfl, at_cong (fun i h1 h2 => h 9 i h1 h2)⟩
  | 10, hk =>
    cases hk
    exact ⟨_, rfl, rfl, at_cong (fun i h1 h2 => h 10 i h1 h2)⟩
  | 11, hk =>
    cases hk
    exact ⟨_, rfl, rfl, at_cong (fun i h1 h2 => h 11 i h1 h2)⟩
  | 12, hk =>
    cases hk
    exact ⟨_, rfl, rfl, at_cong (fun i h1 h2 => h 12 i h1 h2)⟩
  | 13, hk =>
    cases hk
    exact ⟨_, rfl, rfl, at_cong (fun i h1 h2 => h 13 i h1 h2)⟩
  | 14, hk =>
    cases hk
    exact ⟨_, rfl, rfl, at_cong (fun i h1 h2 => h 15 i h1 h2)⟩
  | 15, hk =>
    cases hk
    exact ⟨_, rfl, rfl, at_cong (fun i h1 h2 => h 16 i h1 h2)⟩
  | 16, hk =>
    cases hk
    exact ⟨_, rfl, rfl, at_cong (fun i h1 h2 => h 17 i h1 h2)⟩
  | 17, hk =>
    cases hk
    exact ⟨_, rfl, rfl, at_cong (fun i h1 h2 => h 18 i h1 h2)⟩
  | 18, hk =>
    cases hk
    exact ⟨_, rfl, rfl, at_cong (fun i h1 h2 => h 19 i h1 h2)⟩
  | 19, hk =>
    cases hk
    exact ⟨_, rfl, rfl, at_cong (fun i h1 h2 => h 20 i h1 h2)⟩
  | 20, hk =>
    cases hk
    exact ⟨_, rfl, rfl, at_cong (fun i h1 h2 => h 25 i h1 h2)⟩
  | k + 21, hk => cases hk
/-- the reference's rows, as the class's -/
def vw (ν : Nat → Int → Int) : Nat → Int → Int := fun k => ν (k + 1)
def cB (ν : Nat → Int → Int) (i : Int) : Int := 10 * ν 16 i + ν 17 i
theorem cB_d {ν : Nat → Int → Int} {i : Int} (h : 0 ≤ ν 17 i ∧ ν 17 i ≤ 1) : cB ν i / 10 = ν 16 i := by unfold cB; omega
theorem cB_m {ν : Nat → Int → Int} {i : Int} (h : 0 ≤ ν 17 i ∧ ν 17 i ≤ 1) : cB ν i % 10 = ν 17 i := by unfold cB; omega
def zF (g : Int → Int) (e : Int) : Int → Int := fun j => if 0 ≤ j ∧ j < e then 0 else g j
theorem zF_0 (g : Int → Int) : zF g 0 = g := by funext j; unfold zF; rw [if_neg (by omega)]
theorem zF_s (g : Int → Int) {e : Int} (he : 0 ≤ e) : iU (zF g e) e 0 = zF g (e + 1) := by
  funext j
  unfold iU zF
  by_cases q : j = e
  · rw [if_pos q, if_pos (by omega)]
  · rw [if_neg q]
    by_cases q2 : 0 ≤ j ∧ j < e
    · rw [if_pos q2, if_pos (by omega)]
    · rw [if_neg q2, if_neg (by omega)]
noncomputable def fB (m : Nat → Int → Int) (s : Int) : Int → Int := fun b => if 0 < m 5 (bP m s b) ∧ bT m s b % m 5 (bP m s b) = 0 then 1 else 0
theorem fB_bd (m : Nat → Int → Int) (s b : Int) : 0 ≤ fB m s b ∧ fB m s b ≤ 1 := by unfold fB; split <;> omega
noncomputable def eE (m : Nat → Int → Int) (s k : Int) : Int := if (ly m s k).2.1 = 0 then (ly m s k).1 else lvE (sT m s) (sG m s) (ly m s k).2.2.1 (ly m s k).1
noncomputable def dnE (m : Nat → Int → Int) (s k : Int) : Int → Int := if (ly m s k).2.1 = 0 then (ly m s k).2.2.1 else lvD (sT m s) (ly m s k).2.2.1 (ly m s k).1
noncomputable def lyW (ν : Nat → Int → Int) (s q : Int) : Nat → Int → Int := mset (mset (mset (mset ν 16 (cpF (ν 16) (bP (vw ν) s) q (lBs (vw ν) s))) 17 (cpF (ν 17) (fB (vw ν) s) q (lBs (vw ν) s))) 19 (dnE (vw ν) s (lBs (vw ν) s))) 20 (ly (vw ν) s (lBs (vw ν) s)).2.2.2
theorem ly_turn (m : Nat → Int → Int) (s : Int) {j : Int} (hj : 0 ≤ j) : (ly m s (j + 1)).2.2.2 = iU (ly m s j).2.2.2 (bP m s j) ((ly m s j).2.2.2 (bP m s j) + 1) := by
  have e : ly m s (j + 1) = lsF (sP m s) (sR m s) (sG m s) (sT m s) (ly m s j) := lay_s _ _ _ _ hj
  rw [e]
  unfold lsF
  by_cases q : sR m s (ly m s j).1 ≤ (ly m s j).2.1 + 1
  · rw [if_pos q]; rfl
  · rw [if_neg q]; rfl
theorem ly_next (m : Nat → Int → Int) (s : Int) {j : Int} (hj : 0 ≤ j) : (sR m s (ly m s j).1 ≤ (ly m s j).2.1 + 1 → (ly m s (j + 1)).1 = lvE (sT m s) (sG m s) (ly m s j).2.2.1 (ly m s j).1 ∧ (ly m s (j + 1)).2.1 = 0 ∧ (ly m s (j + 1)).2.2.1 = lvD (sT m s) (ly m s j).2.2.1 (ly m s j).1) ∧ (¬ sR m s (ly m s j).1 ≤ (ly m s j).2.1 + 1 → (ly m s (j + 1)).1 = (ly m s j).1 ∧ (ly m s (j + 1)).2.1 = (ly m s j).2.1 + 1 ∧ (ly m s (j + 1)).2.2.1 = (ly m s j).2.2.1) := by
  have e : ly m s (j + 1) = lsF (sP m s) (sR m s) (sG m s) (sT m s) (ly m s j) := lay_s _ _ _ _ hj
  rw [e]
  unfold lsF
  by_cases q : sR m s (ly m s j).1 ≤ (ly m s j).2.1 + 1
  · rw [if_pos q]
    exact ⟨fun _ => ⟨rfl, rfl, rfl⟩, fun h => absurd q h⟩
  · rw [if_neg q]
    exact ⟨fun h => absurd h q, fun _ => ⟨rfl, rfl, rfl⟩⟩
theorem swz (s x : Int) : s % 2 * x = if s % 2 = 1 then x else 0 := by
  rcases Int.emod_two_eq s with h | h
  · rw [h, Int.zero_mul, if_neg (by omega)]
  · rw [h, Int.one_mul, if_pos rfl]
theorem lvE_bd {n : Int} {P R G T : Int → Int} (hS : SD n P R G T) {e : Int} (he : 0 ≤ e ∧ e < n) {d : Int → Int} (hd : 0 ≤ d e) : 0 ≤ lvE T G d e ∧ lvE T G d e ≤ n := by
  obtain ⟨q1, q2, q3, q4⟩ := hS.2 e he.1 he.2
  unfold lvE
  split
  · omega
  · have := q4 (by omega); omega

set_option maxHeartbeats 4000000 in
set_option maxRecDepth 100000 in
/-- begins -/
theorem m_begins (l : Launch) (D : va_G) (cI cZ cJ : ClassId) (b : Nat → Nat) (ν : Nat → Int → Int) (i s : Int) (hI : IP (vw ν)) (h16 : 0 ≤ ν 16 i ∧ ν 16 i < 12) (h17 : 0 ≤ ν 17 i ∧ ν 17 i ≤ 1) (hc : (0 ≤ i ∧ i < 576) ∧ 0 ≤ s ∧ s < 16) : Ci l D (tY cI cZ cJ) yX7_begins wsX7_begins rmX7_begins [.ref (b 0), .int (iI i), .int (iI s)] (WMod cI cZ b ν) (tOf (vw ν) (cB ν i) s) (WMod cI cZ b ν) := by
  refine qi_of (by decide +kernel) rfl (Nat.le_of_ble_eq_true rfl) ?_
  intro zp ze zs zm zargs zbelow zmeth zc A Q ls M hA w hl kret
  have hl : lv_has ls 3 [(0, .ref (b 0)), (1, .int (iI i)), (2, .int (iI s))] := hl
  have in7 : ∀ w ∈ u_ws RX7 TX7 31, w ∈ wsX7_begins := by decide +kernel
  refine q_bp M dX7_begins_0 (by decide +kernel) ?_
  refine q_iln M dX7_begins_2 (lv_at hl 2 rfl) ?_
  refine q_mul M dX7_begins_3 ?_
  refine q_iln M dX7_begins_4 (lv_at hl 2 rfl) ?_
  refine q_ic M dX7_begins_5 ?_
  refine q_rem M dX7_begins_6 (by omega) ?_
  refine q_aln M dX7_begins_7 (lv_at hl 0 rfl) ?_
  refine q_get (v := .ref (b 5)) M w in7 0 5 rfl rfl (by decide) (by decide +kernel) rfl rfl dX7_begins_8 ?_
  refine q_aln M dX7_begins_11 (lv_at hl 0 rfl) ?_
  refine q_get (v := .ref (b 16)) M w in7 0 16 rfl rfl (by decide) (by decide +kernel) rfl rfl dX7_begins_12 ?_
  refine q_iln M dX7_begins_15 (lv_at hl 1 rfl) ?_
  refine q_iald (f := ν 16) M w 15 0 rfl rfl (by omega) dX7_begins_16 ?_
  refine q_iald (f := ν 5) M w 5 0 rfl rfl (by omega) dX7_begins_17 ?_
  have q5 : 0 ≤ ν 5 (ν 16 i) ∧ ν 5 (ν 16 i) ≤ 6 := hI.2.2.1 (ν 16 i)
  refine q_mul M dX7_begins_18 ?_
  refine q_top (y := if s % 2 = 1 then ν 5 (ν 16 i) else 0) (by exact swz s _) ?_
  refine q_add M dX7_begins_19 ?_
  exact kret _ _ _ _ _ dX7_begins_20 w (by have e := cB_d h17; unfold tOf; rw [e]; show 12 * s + (if s % 2 = 1 then ν 5 (ν 16 i) else 0) = s * 12 + (if s % 2 = 1 then ν 5 (ν 16 i) else 0); omega)

set_option maxHeartbeats 4000000 in
set_option maxRecDepth 100000 in
/-- sampleAt -/
theorem m_sampleAt (l : Launch) (D : va_G) (cI cZ cJ : ClassId) (b : Nat → Nat) (ν : Nat → Int → Int) (i t s : Int) (h16 : 0 ≤ ν 16 i ∧ ν 16 i < 12) (h17 : 0 ≤ ν 17 i ∧ ν 17 i ≤ 1) (hc : (0 ≤ i ∧ i < 576) ∧ (0 ≤ t ∧ t < 4) ∧ 0 ≤ s ∧ s < 16) : Ci l D (tY cI cZ cJ) yX7_sampleAt wsX7_sampleAt rmX7_sampleAt [.ref (b 0), .int (iI i), .int (iI t), .int (iI s)] (WMod cI cZ b ν) (sA (vw ν) (cB ν i) t s) (WMod cI cZ b ν) := by
  refine qi_of (by decide +kernel) rfl (Nat.le_of_ble_eq_true rfl) ?_
  intro zp ze zs zm zargs zbelow zmeth zc A Q ls M hA w hl kret
  have hl : lv_has ls 5 [(0, .ref (b 0)), (1, .int (iI i)), (2, .int (iI t)), (3, .int (iI s))] := hl
  have in7 : ∀ w ∈ u_ws RX7 TX7 31, w ∈ wsX7_sampleAt := by decide +kernel
  refine q_aln M dX7_sampleAt_0 (lv_at hl 0 rfl) ?_
  refine q_get (v := .ref (b 16)) M w in7 0 16 rfl rfl (by decide) (by decide +kernel) rfl rfl dX7_sampleAt_1 ?_
  refine q_iln M dX7_sampleAt_4 (lv_at hl 1 rfl) ?_
  refine q_iald (f := ν 16) M w 15 0 rfl rfl (by omega) dX7_sampleAt_5 ?_
  refine q_is (lv' := [(4, .int (iI ((ν 16) i))), (0, .ref (b 0)), (1, .int (iI i)), (2, .int (iI t)), (3, .int (iI s))]) M dX7_sampleAt_6 hl (by decide) rfl (fun ls hl => ?_)
  refine q_aln M dX7_sampleAt_8 (lv_at hl 1 rfl) ?_
  refine q_get (v := .ref (b 17)) M w in7 0 17 rfl rfl (by decide) (by decide +kernel) rfl rfl dX7_sampleAt_9 ?_
  refine q_iln M dX7_sampleAt_12 (lv_at hl 2 rfl) ?_
  refine q_zald (f := ν 17) M w 16 1 rfl rfl (by omega) dX7_sampleAt_13 ?_
  refine q_if_eq (tgt := 45) M dX7_sampleAt_14 (by decide) (by omega) (fun c14 => ?_) (fun c14 => ?_)
  · refine q_aln M dX7_sampleAt_45 (lv_at hl 1 rfl) ?_
    refine q_get (v := .ref (b 3)) M w in7 0 3 rfl rfl (by decide) (by decide +kernel) rfl rfl dX7_sampleAt_46 ?_
    refine q_bp M dX7_sampleAt_49 (by decide +kernel) ?_
    refine q_il M dX7_sampleAt_51 (lv_at hl 0 rfl) ?_
    refine q_mul M dX7_sampleAt_53 ?_
    refine q_bp M dX7_sampleAt_54 (by decide +kernel) ?_
    refine q_iln M dX7_sampleAt_56 (lv_at hl 3 rfl) ?_
    refine q_mul M dX7_sampleAt_57 ?_
    refine q_add M dX7_sampleAt_58 ?_
    refine q_iln M dX7_sampleAt_59 (lv_at hl 4 rfl) ?_
    refine q_add M dX7_sampleAt_60 ?_
    refine q_top (y := (ν 16 i * 4 + t) * 16 + s) (by omega) ?_
    refine q_iald (f := ν 3) M w 3 0 rfl rfl (by omega) dX7_sampleAt_61 ?_
    exact kret _ _ _ _ _ dX7_sampleAt_62 w (by have e1 := cB_d h17; have e2 := cB_m h17; unfold sA; rw [e1, e2]; exact (if_neg (fun q => by have q1 := q.1; have q2 := q.2; omega)).symm)
  · refine q_iln M dX7_sampleAt_17 (lv_at hl 4 rfl) ?_
    refine q_bp M dX7_sampleAt_18 (by decide +kernel) ?_
    refine q_icmp_le (tgt := 45) M dX7_sampleAt_20 (by decide) (by omega) (fun c20 => ?_) (fun c20 => ?_)
    · refine q_aln M dX7_sampleAt_45 (lv_at hl 1 rfl) ?_
      refine q_get (v := .ref (b 3)) M w in7 0 3 rfl rfl (by decide) (by decide +kernel) rfl rfl dX7_sampleAt_46 ?_
      refine q_bp M dX7_sampleAt_49 (by decide +kernel) ?_
      refine q_il M dX7_sampleAt_51 (lv_at hl 0 rfl) ?_
      refine q_mul M dX7_sampleAt_53 ?_
      refine q_bp M dX7_sampleAt_54 (by decide +kernel) ?_
      refine q_iln M dX7_sampleAt_56 (lv_at hl 3 rfl) ?_
      refine q_mul M dX7_sampleAt_57 ?_
      refine q_add M dX7_sampleAt_58 ?_
      refine q_iln M dX7_sampleAt_59 (lv_at hl 4 rfl) ?_
      refine q_add M dX7_sampleAt_60 ?_
      refine q_top (y := (ν 16 i * 4 + t) * 16 + s) (by omega) ?_
      refine q_iald (f := ν 3) M w 3 0 rfl rfl (by omega) dX7_sampleAt_61 ?_
      exact kret _ _ _ _ _ dX7_sampleAt_62 w (by have e1 := cB_d h17; have e2 := cB_m h17; unfold sA; rw [e1, e2]; exact (if_neg (fun q => by have q1 := q.1; have q2 := q.2; omega)).symm)
    · refine q_aln M dX7_sampleAt_23 (lv_at hl 1 rfl) ?_
      refine q_get (v := .ref (b 4)) M w in7 0 4 rfl rfl (by decide) (by decide +kernel) rfl rfl dX7_sampleAt_24 ?_
      refine q_bp M dX7_sampleAt_27 (by decide +kernel) ?_
      refine q_il M dX7_sampleAt_29 (lv_at hl 0 rfl) ?_
      refine q_mul M dX7_sampleAt_31 ?_
      refine q_ic M dX7_sampleAt_32 ?_
      refine q_iln M dX7_sampleAt_33 (lv_at hl 3 rfl) ?_
      refine q_mul M dX7_sampleAt_34 ?_
      refine q_add M dX7_sampleAt_35 ?_
      refine q_iln M dX7_sampleAt_36 (lv_at hl 4 rfl) ?_
      refine q_add M dX7_sampleAt_37 ?_
      refine q_bp M dX7_sampleAt_38 (by decide +kernel) ?_
      refine q_sub M dX7_sampleAt_40 ?_
      refine q_top (y := (ν 16 i * 4 + t) * 4 + s - 12) (by omega) ?_
      refine q_iald (f := ν 4) M w 4 0 rfl rfl (by omega) dX7_sampleAt_41 ?_
      refine q_go (tgt := 62) M dX7_sampleAt_42 (by decide) ?_
      exact kret _ _ _ _ _ dX7_sampleAt_62 w (by have e1 := cB_d h17; have e2 := cB_m h17; unfold sA; rw [e1, e2]; exact (if_pos ⟨by omega, by omega⟩).symm)

set_option maxHeartbeats 4000000 in
set_option maxRecDepth 100000 in
/-- freeze -/
theorem m_freeze (l : Launch) (D : va_G) (cI cZ cJ : ClassId) (b : Nat → Nat) (ν : Nat → Int → Int) (p x : Int) (hp : -2147483648 ≤ p ∧ p < 2147483648) (hx : 0 ≤ x ∧ x ≤ 1) (hI : IP (vw ν)) (hok : 0 ≤ p ∧ p ≤ 11) : Ci l D (tY cI cZ cJ) yX7_freeze wsX7_freeze rmX7_freeze [.ref (b 0), .int (iI p), .int (iI x)] (WMod cI cZ b ν) (ν 7 p) (WMod cI cZ b (mset (mset (mset ν 0 (fun _ => 0)) 7 (iU (ν 7) p x)) 8 (frz (vw ν) p x))) := by
  refine qz_of (by decide +kernel) rfl (Nat.le_of_ble_eq_true rfl) (by have q7 : 0 ≤ ν 7 p ∧ ν 7 p ≤ 1 := hI.2.2.2.2.1 p; omega) ?_
  intro zp ze zs zm zargs zbelow zmeth zc A Q ls M hA w hl kret
  have hl : lv_has ls 5 [(0, .ref (b 0)), (1, .int (iI p)), (2, .int (iI x))] := hl
  have in7 : ∀ w ∈ u_ws RX7 TX7 31, w ∈ wsX7_freeze := by decide +kernel
  refine q_aln M dX7_freeze_0 (lv_at hl 0 rfl) ?_
  refine q_iln M dX7_freeze_1 (lv_at hl 1 rfl) ?_
  refine qc_iS (As := [.int (iI p)]) (rest := [.ref (b 0)]) (wc := []) (wc2 := []) (ws2 := WMod cI cZ b ν) M w hA hl (m_isPattern l D cI cZ cJ p (by omega)) gX7_freeze_X7_isPattern rfl ⟨rfl, rfl, by decide, by decide⟩ ⟨Nat.zero_le _, Nat.zero_le _⟩ 1 (by decide +kernel) rfl [] rfl rfl rfl (Nat.le_of_ble_eq_true rfl) rfl dX7_freeze_2 (fun H locs w => ?_)
  have q2 := inF_c p 0 11
  refine q_if_eq (tgt := 12) M dX7_freeze_5 (by decide) (by omega) (fun c5 => ?_) (fun c5 => ?_)
  · exfalso; omega
  · refine q_ic M dX7_freeze_8 ?_
    refine q_go (tgt := 13) M dX7_freeze_9 (by decide) ?_
    refine q_put (ws2 := WMod cI cZ b (mset ν 0 (fun _ => 0))) M w in7 0 0 tyX7 tyX7_ok nmX7 rfl rfl (by decide) (by decide +kernel) rfl rfl rfl rfl (Nat.le_of_ble_eq_true rfl) rfl dX7_freeze_13 (fun H locs w => ?_)
    refine q_aln M dX7_freeze_16 (lv_at hl 0 rfl) ?_
    refine q_get (v := .int (iI 0)) M w in7 0 0 rfl rfl (by decide) (by decide +kernel) rfl rfl dX7_freeze_17 ?_
    refine q_if_le (tgt := 25) M dX7_freeze_20 (by decide) (by omega) (fun c20 => ?_) (fun c20 => ?_)
    · refine q_aln M dX7_freeze_25 (lv_at hl 0 rfl) ?_
      refine q_get (v := .ref (b 7)) M w in7 0 7 rfl rfl (by decide) (by decide +kernel) rfl rfl dX7_freeze_26 ?_
      refine q_iln M dX7_freeze_29 (lv_at hl 1 rfl) ?_
      refine q_zald (f := ν 7) M w 7 1 rfl rfl (by omega) dX7_freeze_30 ?_
      have q7 : 0 ≤ ν 7 p ∧ ν 7 p ≤ 1 := hI.2.2.2.2.1 p
      refine q_isn (lv' := [(3, .int (iI ((ν 7) p))), (0, .ref (b 0)), (1, .int (iI p)), (2, .int (iI x))]) M dX7_freeze_31 rfl hl (by decide) rfl (fun ls hl => ?_)
      refine q_ic M dX7_freeze_32 ?_
      refine q_is (lv' := [(4, .int (iI 0)), (3, .int (iI ((ν 7) p))), (0, .ref (b 0)), (1, .int (iI p)), (2, .int (iI x))]) M dX7_freeze_33 hl (by decide) rfl (fun ls hl => ?_)
      have lp35 : ∀ (n35 : Nat) (s : Int), (0 ≤ s ∧ s ≤ 8) → (s = 0 ∨ x = 1 ∧ ν 7 p = 0) → (9 - s : Int) < (n35 : Int) → ∀ (H : Heap) (locs : List Loc) (ls : Array Slot), wW D A zs.heap (WMod cI cZ b (mset (mset ν 0 (fun _ => 0)) 8 (cpF (ν 8) (ν 2) (p * 8) s))) H locs → lv_has ls 5 [(0, .ref (b 0)), (1, .int (iI p)), (2, .int (iI x)), (3, .int (iI (ν 7 p))), (4, .int (iI s))] → W zp l ze rmX7_freeze zs zm zargs zbelow zmeth zc H locs 0 0 Q (F0 zm 35 ls []) := by
        intro n35
        induction n35 with
        | zero => intro s hj hz hm H locs ls w hl; exfalso; omega
        | succ n35 ih35 =>
          intro s hj hz hm35 H locs ls w hl
          refine q_il M dX7_freeze_35 (lv_at hl 4 rfl) ?_
          refine q_bp M dX7_freeze_37 (by decide +kernel) ?_
          refine q_icmp_ge (tgt := 75) M dX7_freeze_39 (by decide) (by omega) (fun c39 => ?_) (fun c39 => ?_)
          · have ef : frz (vw ν) p x = cpF (ν 8) (ν 2) (p * 8) s := by
              by_cases q : x = 1 ∧ ν 7 p = 0
              · refine (if_pos q).trans ?_
                rw [show s = 8 by omega]; rfl
              · refine (if_neg q).trans ?_
                rw [show s = 0 by omega, cpF_0]; rfl
            have w : wW D A zs.heap (WMod cI cZ b (mset (mset ν 0 (fun _ => 0)) 8 (frz (vw ν) p x))) H locs := by rw [ef]; exact w
            refine q_aln M dX7_freeze_75 (lv_at hl 0 rfl) ?_
            refine q_get (v := .ref (b 7)) M w in7 0 7 rfl rfl (by decide) (by decide +kernel) rfl rfl dX7_freeze_76 ?_
            refine q_iln M dX7_freeze_79 (lv_at hl 1 rfl) ?_
            refine q_iln M dX7_freeze_80 (lv_at hl 2 rfl) ?_
            refine q_zast (f := ν 7) (ws2 := WMod cI cZ b (mset (mset (mset ν 0 (fun _ => 0)) 7 (iU (ν 7) p x)) 8 (frz (vw ν) p x))) M w 7 1 rfl rfl (by omega) (by omega) rfl dX7_freeze_81 (fun H locs w => ?_)
            refine q_iln M dX7_freeze_82 (lv_at hl 3 rfl) ?_
            exact kret _ _ _ _ _ dX7_freeze_83 w rfl
          · refine q_iln M dX7_freeze_42 (lv_at hl 2 rfl) ?_
            refine q_if_eq (tgt := 75) M dX7_freeze_43 (by decide) (by omega) (fun c43 => ?_) (fun c43 => ?_)
            · have ef : frz (vw ν) p x = cpF (ν 8) (ν 2) (p * 8) s := by
                by_cases q : x = 1 ∧ ν 7 p = 0
                · refine (if_pos q).trans ?_
                  rw [show s = 8 by omega]; rfl
                · refine (if_neg q).trans ?_
                  rw [show s = 0 by omega, cpF_0]; rfl
              have w : wW D A zs.heap (WMod cI cZ b (mset (mset ν 0 (fun _ => 0)) 8 (frz (vw ν) p x))) H locs := by rw [ef]; exact w
              refine q_aln M dX7_freeze_75 (lv_at hl 0 rfl) ?_
              refine q_get (v := .ref (b 7)) M w in7 0 7 rfl rfl (by decide) (by decide +kernel) rfl rfl dX7_freeze_76 ?_
              refine q_iln M dX7_freeze_79 (lv_at hl 1 rfl) ?_
              refine q_iln M dX7_freeze_80 (lv_at hl 2 rfl) ?_
              refine q_zast (f := ν 7) (ws2 := WMod cI cZ b (mset (mset (mset ν 0 (fun _ => 0)) 7 (iU (ν 7) p x)) 8 (frz (vw ν) p x))) M w 7 1 rfl rfl (by omega) (by omega) rfl dX7_freeze_81 (fun H locs w => ?_)
              refine q_iln M dX7_freeze_82 (lv_at hl 3 rfl) ?_
              exact kret _ _ _ _ _ dX7_freeze_83 w rfl
            · refine q_iln M dX7_freeze_46 (lv_at hl 3 rfl) ?_
              refine q_if_ne (tgt := 75) M dX7_freeze_47 (by decide) (by omega) (fun c47 => ?_) (fun c47 => ?_)
              · have ef : frz (vw ν) p x = cpF (ν 8) (ν 2) (p * 8) s := by
                  by_cases q : x = 1 ∧ ν 7 p = 0
                  · refine (if_pos q).trans ?_
                    rw [show s = 8 by omega]; rfl
                  · refine (if_neg q).trans ?_
                    rw [show s = 0 by omega, cpF_0]; rfl
                have w : wW D A zs.heap (WMod cI cZ b (mset (mset ν 0 (fun _ => 0)) 8 (frz (vw ν) p x))) H locs := by rw [ef]; exact w
                refine q_aln M dX7_freeze_75 (lv_at hl 0 rfl) ?_
                refine q_get (v := .ref (b 7)) M w in7 0 7 rfl rfl (by decide) (by decide +kernel) rfl rfl dX7_freeze_76 ?_
                refine q_iln M dX7_freeze_79 (lv_at hl 1 rfl) ?_
                refine q_iln M dX7_freeze_80 (lv_at hl 2 rfl) ?_
                refine q_zast (f := ν 7) (ws2 := WMod cI cZ b (mset (mset (mset ν 0 (fun _ => 0)) 7 (iU (ν 7) p x)) 8 (frz (vw ν) p x))) M w 7 1 rfl rfl (by omega) (by omega) rfl dX7_freeze_81 (fun H locs w => ?_)
                refine q_iln M dX7_freeze_82 (lv_at hl 3 rfl) ?_
                exact kret _ _ _ _ _ dX7_freeze_83 w rfl
              · refine q_aln M dX7_freeze_50 (lv_at hl 0 rfl) ?_
                refine q_get (v := .ref (b 8)) M w in7 0 8 rfl rfl (by decide) (by decide +kernel) rfl rfl dX7_freeze_51 ?_
                refine q_bp M dX7_freeze_54 (by decide +kernel) ?_
                refine q_iln M dX7_freeze_56 (lv_at hl 1 rfl) ?_
                refine q_mul M dX7_freeze_57 ?_
                refine q_il M dX7_freeze_58 (lv_at hl 4 rfl) ?_
                refine q_add M dX7_freeze_60 ?_
                refine q_top (y := p * 8 + s) (by omega) ?_
                refine q_aln M dX7_freeze_61 (lv_at hl 0 rfl) ?_
                refine q_get (v := .ref (b 2)) M w in7 0 2 rfl rfl (by decide) (by decide +kernel) rfl rfl dX7_freeze_62 ?_
                refine q_il M dX7_freeze_65 (lv_at hl 4 rfl) ?_
                refine q_iald (f := ν 2) M w 2 0 rfl rfl (by omega) dX7_freeze_67 ?_
                refine q_iast (f := cpF (ν 8) (ν 2) (p * 8) s) (ws2 := WMod cI cZ b (mset (mset ν 0 (fun _ => 0)) 8 (iU (cpF (ν 8) (ν 2) (p * 8) s) (p * 8 + s) ((ν 2) s)))) M w 8 0 rfl rfl (by omega) rfl dX7_freeze_68 (fun H locs w => ?_)
                refine q_inc (z := s) (lv' := [(4, .int (iI (s + 1))), (0, .ref (b 0)), (1, .int (iI p)), (2, .int (iI x)), (3, .int (iI (ν 7 p)))]) M dX7_freeze_69 hl (k := 4) rfl (by decide) rfl (fun ls hl => ?_)
                refine q_go (tgt := 35) M dX7_freeze_72 (by decide) ?_
                have e8 := cpF_s (ν 8) (ν 2) (p * 8) hj.1
                rw [e8] at w
                exact ih35 (s + 1) (by omega) (by omega) (by omega) _ _ _ w (lv_sub hl [1, 2, 3, 4, 0] rfl)
      have w : wW D A zs.heap (WMod cI cZ b (mset (mset ν 0 (fun _ => 0)) 8 (cpF (ν 8) (ν 2) (p * 8) 0))) H locs := by rw [cpF_0]; exact w
      exact lp35 10 0 (by omega) (by omega) (by omega) _ _ _ w (lv_sub hl [2, 3, 4, 1, 0] rfl)
    · exfalso; omega

set_option maxHeartbeats 4000000 in
set_option maxRecDepth 100000 in
/-- freeze -/
theorem m_freeze_x (l : Launch) (D : va_G) (cI cZ cJ : ClassId) (b : Nat → Nat) (ν : Nat → Int → Int) (p x : Int) (hp : -2147483648 ≤ p ∧ p < 2147483648) (hx : 0 ≤ x ∧ x ≤ 1) (hI : IP (vw ν)) (k : Int) (hk : ¬ (0 ≤ p ∧ p ≤ 11) ∧ k = 1) : Ci l D (tY cI cZ cJ) yX7_freeze wsX7_freeze rmX7_freeze [.ref (b 0), .int (iI p), .int (iI x)] (WMod cI cZ b ν) (0) (WMod cI cZ b (mset ν 0 (fun _ => k))) := by
  refine qz_of (by decide +kernel) rfl (Nat.le_of_ble_eq_true rfl) (Or.inl rfl) ?_
  intro zp ze zs zm zargs zbelow zmeth zc A Q ls M hA w hl kret
  have hl : lv_has ls 5 [(0, .ref (b 0)), (1, .int (iI p)), (2, .int (iI x))] := hl
  have in7 : ∀ w ∈ u_ws RX7 TX7 31, w ∈ wsX7_freeze := by decide +kernel
  refine q_aln M dX7_freeze_0 (lv_at hl 0 rfl) ?_
  refine q_iln M dX7_freeze_1 (lv_at hl 1 rfl) ?_
  refine qc_iS (As := [.int (iI p)]) (rest := [.ref (b 0)]) (wc := []) (wc2 := []) (ws2 := WMod cI cZ b ν) M w hA hl (m_isPattern l D cI cZ cJ p (by omega)) gX7_freeze_X7_isPattern rfl ⟨rfl, rfl, by decide, by decide⟩ ⟨Nat.zero_le _, Nat.zero_le _⟩ 1 (by decide +kernel) rfl [] rfl rfl rfl (Nat.le_of_ble_eq_true rfl) rfl dX7_freeze_2 (fun H locs w => ?_)
  have q2 := inF_c p 0 11
  refine q_if_eq (tgt := 12) M dX7_freeze_5 (by decide) (by omega) (fun c5 => ?_) (fun c5 => ?_)
  · refine q_ic M dX7_freeze_12 ?_
    refine q_put (ws2 := WMod cI cZ b (mset ν 0 (fun _ => 1))) M w in7 0 0 tyX7 tyX7_ok nmX7 rfl rfl (by decide) (by decide +kernel) rfl rfl rfl rfl (Nat.le_of_ble_eq_true rfl) rfl dX7_freeze_13 (fun H locs w => ?_)
    refine q_aln M dX7_freeze_16 (lv_at hl 0 rfl) ?_
    refine q_get (v := .int (iI 1)) M w in7 0 0 rfl rfl (by decide) (by decide +kernel) rfl rfl dX7_freeze_17 ?_
    refine q_if_le (tgt := 25) M dX7_freeze_20 (by decide) (by omega) (fun c20 => ?_) (fun c20 => ?_)
    · exfalso; omega
    · refine q_ic M dX7_freeze_23 ?_
      have hk1 : k = 1 := by omega
      subst hk1
      exact kret _ _ _ _ _ dX7_freeze_24 w rfl
  · exfalso; omega

theorem leave_E {m : Nat → Int → Int} {s k j n R : Int} (hi : (n < R → (ly m s j).1 = (ly m s k).1 ∧ (ly m s j).2.1 = n ∧ (ly m s j).2.2.1 = (ly m s k).2.2.1) ∧ (n = R → (ly m s j).1 = lvE (sT m s) (sG m s) (ly m s k).2.2.1 (ly m s k).1 ∧ (ly m s j).2.1 = 0 ∧ (ly m s j).2.2.1 = lvD (sT m s) (ly m s k).2.2.1 (ly m s k).1)) (hn : 0 < n ∧ n ≤ R) : eE m s j = lvE (sT m s) (sG m s) (ly m s k).2.2.1 (ly m s k).1 ∧ dnE m s j = lvD (sT m s) (ly m s k).2.2.1 (ly m s k).1 := by
  unfold eE dnE
  by_cases q : n = R
  · obtain ⟨a1, a2, a3⟩ := hi.2 q
    rw [if_pos a2, if_pos a2]
    exact ⟨a1, a3⟩
  · obtain ⟨a1, a2, a3⟩ := hi.1 (by omega)
    have h : ¬ (ly m s j).2.1 = 0 := by omega
    rw [if_neg h, if_neg h, a1, a3]
    exact ⟨rfl, rfl⟩

theorem msk2 {ν : Nat → Int → Int} {f g f2 g2 : Int → Int} {h16 h17 : Int → Int} {j : Nat} (z1 : j ≠ 19) (z2 : j ≠ 20) (i : Int) (e16 : h16 = ν 16 := by rfl) (e17 : h17 = ν 17 := by rfl) : mset (mset ν 19 f) 20 g j i = mset (mset (mset (mset ν 16 h16) 17 h17) 19 f2) 20 g2 j i := by
  have b1 : Nat.beq j 19 = false := by
    cases h : Nat.beq j 19
    · rfl
    · exact absurd (Nat.eq_of_beq_eq_true h) z1
  have b2 : Nat.beq j 20 = false := by
    cases h : Nat.beq j 20
    · rfl
    · exact absurd (Nat.eq_of_beq_eq_true h) z2
  unfold mset
  rw [b1, b2]
  show ν j i = cond (Nat.beq j 17) h17 (cond (Nat.beq j 16) h16 (ν j)) i
  cases h : Nat.beq j 17
  · cases h2 : Nat.beq j 16
    · rfl
    · rw [e16, Nat.eq_of_beq_eq_true h2]; rfl
  · rw [e17, Nat.eq_of_beq_eq_true h]; rfl

set_option maxHeartbeats 4000000 in
set_option maxRecDepth 100000 in
/-- lays -/
theorem m_lays (l : Launch) (D : va_G) (cI cZ cJ : ClassId) (b : Nat → Nat) (ν : Nat → Int → Int) (s q : Int) (hI : IP (vw ν)) (hS : SDs (vw ν) s) (hc : (0 ≤ s ∧ s < 6) ∧ 0 ≤ q ∧ q ≤ 512) : Ci l D (tY cI cZ cJ) yX7_lays wsX7_lays rmX7_lays [.ref (b 0), .int (iI s), .int (iI q)] (WMod cI cZ b ν) (lBs (vw ν) s) (WMod cI cZ b (lyW ν s q)) := by
  have o3 : 0 ≤ ν 9 s ∧ ν 9 s ≤ 8 := hS.1
  refine qi_of (by decide +kernel) rfl (Nat.le_of_ble_eq_true rfl) ?_
  intro zp ze zs zm zargs zbelow zmeth zc A Q ls M hA w hl kret
  have hl : lv_has ls 8 [(0, .ref (b 0)), (1, .int (iI s)), (2, .int (iI q))] := hl
  have in7 : ∀ w ∈ u_ws RX7 TX7 31, w ∈ wsX7_lays := by decide +kernel
  refine q_ic M dX7_lays_0 ?_
  refine q_isn (lv' := [(3, .int (iI 0)), (0, .ref (b 0)), (1, .int (iI s)), (2, .int (iI q))]) M dX7_lays_1 rfl hl (by decide) rfl (fun ls hl => ?_)
  have lp2 : ∀ (n2 : Nat) (e : Int), (0 ≤ e ∧ e ≤ 8) → (8 - e : Int) < (n2 : Int) → ∀ (H : Heap) (locs : List Loc) (ls : Array Slot), wW D A zs.heap (WMod cI cZ b (mset ν 19 (zF (ν 19) e))) H locs → lv_has ls 8 [(0, .ref (b 0)), (1, .int (iI s)), (2, .int (iI q)), (3, .int (iI e))] → W zp l ze rmX7_lays zs zm zargs zbelow zmeth zc H locs 0 0 Q (F0 zm 2 ls []) := by
    intro n2
    induction n2 with
    | zero => intro e hj hm H locs ls w hl; exfalso; omega
    | succ n2 ih2 =>
      intro e hj hm2 H locs ls w hl
      refine q_iln M dX7_lays_2 (lv_at hl 3 rfl) ?_
      refine q_bp M dX7_lays_3 (by decide +kernel) ?_
      refine q_icmp_ge (tgt := 21) M dX7_lays_5 (by decide) (by omega) (fun c5 => ?_) (fun c5 => ?_)
      · refine q_ic M dX7_lays_21 ?_
        refine q_isn (lv' := [(3, .int (iI 0)), (0, .ref (b 0)), (1, .int (iI s)), (2, .int (iI q))]) M dX7_lays_22 rfl hl (by decide) rfl (fun ls hl => ?_)
        have lp23 : ∀ (n23 : Nat) (f : Int), (0 ≤ f ∧ f ≤ 12) → (12 - f : Int) < (n23 : Int) → ∀ (H : Heap) (locs : List Loc) (ls : Array Slot), wW D A zs.heap (WMod cI cZ b (mset (mset ν 19 (zF (ν 19) 8)) 20 (zF (ν 20) f))) H locs → lv_has ls 8 [(0, .ref (b 0)), (1, .int (iI s)), (2, .int (iI q)), (3, .int (iI f))] → W zp l ze rmX7_lays zs zm zargs zbelow zmeth zc H locs 0 0 Q (F0 zm 23 ls []) := by
          intro n23
          induction n23 with
          | zero => intro f hf hm H locs ls w hl; exfalso; omega
          | succ n23 ih23 =>
            intro f hf hm23 H locs ls w hl
            refine q_iln M dX7_lays_23 (lv_at hl 3 rfl) ?_
            refine q_bp M dX7_lays_24 (by decide +kernel) ?_
            refine q_icmp_ge (tgt := 42) M dX7_lays_26 (by decide) (by omega) (fun c26 => ?_) (fun c26 => ?_)
            · refine q_ic M dX7_lays_42 ?_
              refine q_isn (lv' := [(3, .int (iI 0)), (0, .ref (b 0)), (1, .int (iI s)), (2, .int (iI q))]) M dX7_lays_43 rfl hl (by decide) rfl (fun ls hl => ?_)
              refine q_ic M dX7_lays_44 ?_
              refine q_is (lv' := [(4, .int (iI 0)), (3, .int (iI 0)), (0, .ref (b 0)), (1, .int (iI s)), (2, .int (iI q))]) M dX7_lays_45 hl (by decide) rfl (fun ls hl => ?_)
              have lp47 : ∀ (n47 : Nat) (k : Int), (0 ≤ k ∧ k ≤ 64) → (lsOK (ν 9 s) (sP (vw ν) s) (sR (vw ν) s) (sG (vw ν) s) (sT (vw ν) s) k) → (k = 64 ∨ (ly (vw ν) s k).2.1 = 0) → (0 ≤ eE (vw ν) s k ∧ eE (vw ν) s k ≤ ν 9 s) → (64 - k : Int) < (n47 : Int) → ∀ (H : Heap) (locs : List Loc) (ls : Array Slot), wW D A zs.heap (WMod cI cZ b (mset (mset (mset (mset ν 16 (cpF (ν 16) (bP (vw ν) s) q k)) 17 (cpF (ν 17) (fB (vw ν) s) q k)) 19 (dnE (vw ν) s k)) 20 ((ly (vw ν) s k).2.2.2))) H locs → lv_has ls 8 [(0, .ref (b 0)), (1, .int (iI s)), (2, .int (iI q)), (3, .int (iI k)), (4, .int (iI (eE (vw ν) s k)))] → W zp l ze rmX7_lays zs zm zargs zbelow zmeth zc H locs 0 0 Q (F0 zm 47 ls []) := by
                intro n47
                induction n47 with
                | zero => intro k hk hok0 hr hE hm H locs ls w hl; exfalso; omega
                | succ n47 ih47 =>
                  intro k hk hok0 hr hE hm47 H locs ls w hl
                  refine q_il M dX7_lays_47 (lv_at hl 4 rfl) ?_
                  refine q_aln M dX7_lays_49 (lv_at hl 0 rfl) ?_
                  refine q_get (v := .ref (b 9)) M w in7 0 9 rfl rfl (by decide) (by decide +kernel) rfl rfl dX7_lays_50 ?_
                  refine q_iln M dX7_lays_53 (lv_at hl 1 rfl) ?_
                  refine q_iald (f := ν 9) M w 9 0 rfl rfl (by omega) dX7_lays_54 ?_
                  refine q_icmp_ge (tgt := 220) M dX7_lays_55 (by decide) (by omega) (fun c55 => ?_) (fun c55 => ?_)
                  · have hx : k = 64 ∨ ν 9 s ≤ (ly (vw ν) s k).1 := by
                      rcases hr with z | z
                      · exact Or.inl z
                      · have z2 : eE (vw ν) s k = (ly (vw ν) s k).1 := if_pos z
                        omega
                    have eB : lBs (vw ν) s = k := lB_of hk hok0.2.2.2.2 hx
                    refine q_iln M dX7_lays_220 (lv_at hl 3 rfl) ?_
                    rw [← eB] at w
                    exact kret _ _ _ _ _ dX7_lays_221 w (by exact eB.symm)
                  · have hk64 : k < 64 ∨ k = 64 := by omega
                    refine q_iln M dX7_lays_58 (lv_at hl 3 rfl) ?_
                    refine q_bp M dX7_lays_59 (by decide +kernel) ?_
                    refine q_icmp_ge (tgt := 220) M dX7_lays_61 (by decide) (by omega) (fun c61 => ?_) (fun c61 => ?_)
                    · have hx : k = 64 ∨ ν 9 s ≤ (ly (vw ν) s k).1 := by
                        rcases hr with z | z
                        · exact Or.inl z
                        · have z2 : eE (vw ν) s k = (ly (vw ν) s k).1 := if_pos z
                          omega
                      have eB : lBs (vw ν) s = k := lB_of hk hok0.2.2.2.2 hx
                      refine q_iln M dX7_lays_220 (lv_at hl 3 rfl) ?_
                      rw [← eB] at w
                      exact kret _ _ _ _ _ dX7_lays_221 w (by exact eB.symm)
                    · have hr2 : (ly (vw ν) s k).2.1 = 0 := by omega
                      have g1 : eE (vw ν) s k = (ly (vw ν) s k).1 := if_pos hr2
                      have g2 : dnE (vw ν) s k = (ly (vw ν) s k).2.2.1 := if_pos hr2
                      rw [g1] at c55 hE
                      have w : wW D A zs.heap (WMod cI cZ b (mset (mset (mset (mset ν 16 (cpF (ν 16) (bP (vw ν) s) q k)) 17 (cpF (ν 17) (fB (vw ν) s) q k)) 19 ((ly (vw ν) s k).2.2.1)) 20 ((ly (vw ν) s k).2.2.2))) H locs := by rw [g2] at w; exact w
                      have hl : lv_has ls 8 [(0, .ref (b 0)), (1, .int (iI s)), (2, .int (iI q)), (3, .int (iI k)), (4, .int (iI ((ly (vw ν) s k).1)))] := by rw [g1] at hl; exact hl
                      obtain ⟨q1, q2, q3, q4⟩ := hS.2 (ly (vw ν) s k).1 hE.1 (by show (ly (vw ν) s k).1 < ν 9 s; omega)
                      have q1 : 0 ≤ ν 10 (s * 8 + (ly (vw ν) s k).1) ∧ ν 10 (s * 8 + (ly (vw ν) s k).1) < 12 := q1
                      have q2 : 1 ≤ ν 11 (s * 8 + (ly (vw ν) s k).1) ∧ ν 11 (s * 8 + (ly (vw ν) s k).1) ≤ 4 := q2
                      have q3 : 0 ≤ ν 13 (s * 8 + (ly (vw ν) s k).1) ∧ ν 13 (s * 8 + (ly (vw ν) s k).1) ≤ 3 := q3
                      have q8 : 0 ≤ (ly (vw ν) s k).2.2.1 (ly (vw ν) s k).1 ∧ (ly (vw ν) s k).2.2.1 (ly (vw ν) s k).1 ≤ k := hok0.2.2.1 _
                      refine q_bp M dX7_lays_64 (by decide +kernel) ?_
                      refine q_iln M dX7_lays_66 (lv_at hl 1 rfl) ?_
                      refine q_mul M dX7_lays_67 ?_
                      refine q_il M dX7_lays_68 (lv_at hl 4 rfl) ?_
                      refine q_add M dX7_lays_70 ?_
                      refine q_top (y := s * 8 + (ly (vw ν) s k).1) (by omega) ?_
                      refine q_is (lv' := [(5, .int (iI (s * 8 + (ly (vw ν) s k).1))), (0, .ref (b 0)), (1, .int (iI s)), (2, .int (iI q)), (3, .int (iI k)), (4, .int (iI ((ly (vw ν) s k).1)))]) M dX7_lays_71 hl (by decide) rfl (fun ls hl => ?_)
                      refine q_aln M dX7_lays_73 (lv_at hl 1 rfl) ?_
                      refine q_get (v := .ref (b 10)) M w in7 0 10 rfl rfl (by decide) (by decide +kernel) rfl rfl dX7_lays_74 ?_
                      refine q_il M dX7_lays_77 (lv_at hl 0 rfl) ?_
                      refine q_iald (f := ν 10) M w 10 0 rfl rfl (by omega) dX7_lays_79 ?_
                      refine q_is (lv' := [(6, .int (iI ((ν 10) (s * 8 + (ly (vw ν) s k).1)))), (5, .int (iI (s * 8 + (ly (vw ν) s k).1))), (0, .ref (b 0)), (1, .int (iI s)), (2, .int (iI q)), (3, .int (iI k)), (4, .int (iI ((ly (vw ν) s k).1)))]) M dX7_lays_80 hl (by decide) rfl (fun ls hl => ?_)
                      refine q_ic M dX7_lays_82 ?_
                      refine q_is (lv' := [(7, .int (iI 0)), (6, .int (iI ((ν 10) (s * 8 + (ly (vw ν) s k).1)))), (5, .int (iI (s * 8 + (ly (vw ν) s k).1))), (0, .ref (b 0)), (1, .int (iI s)), (2, .int (iI q)), (3, .int (iI k)), (4, .int (iI ((ly (vw ν) s k).1)))]) M dX7_lays_83 hl (by decide) rfl (fun ls hl => ?_)
                      have lp85 : ∀ (n85 : Nat) (j : Int) (n : Int), (0 ≤ j ∧ j ≤ 64) → (0 ≤ n ∧ n ≤ ν 11 (s * 8 + (ly (vw ν) s k).1)) → (j = k + n) → (lsOK (ν 9 s) (sP (vw ν) s) (sR (vw ν) s) (sG (vw ν) s) (sT (vw ν) s) j) → ((n < ν 11 (s * 8 + (ly (vw ν) s k).1) → (ly (vw ν) s j).1 = (ly (vw ν) s k).1 ∧ (ly (vw ν) s j).2.1 = n ∧ (ly (vw ν) s j).2.2.1 = (ly (vw ν) s k).2.2.1) ∧ (n = ν 11 (s * 8 + (ly (vw ν) s k).1) → (ly (vw ν) s j).1 = lvE (sT (vw ν) s) (sG (vw ν) s) (ly (vw ν) s k).2.2.1 (ly (vw ν) s k).1 ∧ (ly (vw ν) s j).2.1 = 0 ∧ (ly (vw ν) s j).2.2.1 = lvD (sT (vw ν) s) (ly (vw ν) s k).2.2.1 (ly (vw ν) s k).1)) → (64 - j : Int) < (n85 : Int) → ∀ (H : Heap) (locs : List Loc) (ls : Array Slot), wW D A zs.heap (WMod cI cZ b (mset (mset (mset (mset ν 16 (cpF (ν 16) (bP (vw ν) s) q j)) 17 (cpF (ν 17) (fB (vw ν) s) q j)) 19 ((ly (vw ν) s k).2.2.1)) 20 ((ly (vw ν) s j).2.2.2))) H locs → lv_has ls 8 [(0, .ref (b 0)), (1, .int (iI s)), (2, .int (iI q)), (3, .int (iI j)), (4, .int (iI ((ly (vw ν) s k).1))), (5, .int (iI (s * 8 + (ly (vw ν) s k).1))), (6, .int (iI (ν 10 (s * 8 + (ly (vw ν) s k).1)))), (7, .int (iI n))] → W zp l ze rmX7_lays zs zm zargs zbelow zmeth zc H locs 0 0 Q (F0 zm 85 ls []) := by
                        intro n85
                        induction n85 with
                        | zero => intro j n hj hn hjn hok hi hm H locs ls w hl; exfalso; omega
                        | succ n85 ih85 =>
                          intro j n hj hn hjn hok hi hm85 H locs ls w hl
                          refine q_il M dX7_lays_85 (lv_at hl 7 rfl) ?_
                          refine q_aln M dX7_lays_87 (lv_at hl 0 rfl) ?_
                          refine q_get (v := .ref (b 11)) M w in7 0 11 rfl rfl (by decide) (by decide +kernel) rfl rfl dX7_lays_88 ?_
                          refine q_il M dX7_lays_91 (lv_at hl 5 rfl) ?_
                          refine q_iald (f := ν 11) M w 11 0 rfl rfl (by omega) dX7_lays_93 ?_
                          refine q_icmp_ge (tgt := 174) M dX7_lays_94 (by decide) (by omega) (fun c94 => ?_) (fun c94 => ?_)
                          · have hkn : 0 < n ∧ n ≤ ν 11 (s * 8 + (ly (vw ν) s k).1) := by omega
                            refine q_aln M dX7_lays_174 (lv_at hl 0 rfl) ?_
                            refine q_get (v := .ref (b 19)) M w in7 0 19 rfl rfl (by decide) (by decide +kernel) rfl rfl dX7_lays_175 ?_
                            refine q_il M dX7_lays_178 (lv_at hl 4 rfl) ?_
                            refine q_iald (f := (ly (vw ν) s k).2.2.1) M w 18 0 rfl rfl (by omega) dX7_lays_180 ?_
                            refine q_aln M dX7_lays_181 (lv_at hl 0 rfl) ?_
                            refine q_get (v := .ref (b 13)) M w in7 0 13 rfl rfl (by decide) (by decide +kernel) rfl rfl dX7_lays_182 ?_
                            refine q_il M dX7_lays_185 (lv_at hl 5 rfl) ?_
                            refine q_iald (f := ν 13) M w 13 0 rfl rfl (by omega) dX7_lays_187 ?_
                            refine q_icmp_ge (tgt := 214) M dX7_lays_188 (by decide) (by omega) (fun c188 => ?_) (fun c188 => ?_)
                            · refine q_inc (z := (ly (vw ν) s k).1) (lv' := [(4, .int (iI (((ly (vw ν) s k).1) + 1))), (0, .ref (b 0)), (1, .int (iI s)), (2, .int (iI q)), (3, .int (iI j)), (5, .int (iI (s * 8 + (ly (vw ν) s k).1))), (6, .int (iI (ν 10 (s * 8 + (ly (vw ν) s k).1)))), (7, .int (iI n))]) M dX7_lays_214 hl (k := 4) rfl (by decide) rfl (fun ls hl => ?_)
                              have g1 : lvE (sT (vw ν) s) (sG (vw ν) s) (ly (vw ν) s k).2.2.1 (ly (vw ν) s k).1 = ((ly (vw ν) s k).1) + 1 := (if_pos (show (ν 13 (s * 8 + (ly (vw ν) s k).1) ≤ (ly (vw ν) s k).2.2.1 (ly (vw ν) s k).1) by omega))
                              have g2 : lvD (sT (vw ν) s) (ly (vw ν) s k).2.2.1 (ly (vw ν) s k).1 = (ly (vw ν) s k).2.2.1 := (if_pos (show (ν 13 (s * 8 + (ly (vw ν) s k).1) ≤ (ly (vw ν) s k).2.2.1 (ly (vw ν) s k).1) by omega))
                              have g3 := leave_E (m := (vw ν)) (s := s) hi hkn
                              have w : wW D A zs.heap (WMod cI cZ b (mset (mset (mset (mset ν 16 (cpF (ν 16) (bP (vw ν) s) q j)) 17 (cpF (ν 17) (fB (vw ν) s) q j)) 19 (dnE (vw ν) s j)) 20 ((ly (vw ν) s j).2.2.2))) H locs := by rw [g3.2, g2]; exact w
                              have hl : lv_has ls 8 [(4, .int (iI (eE (vw ν) s j))), (0, .ref (b 0)), (1, .int (iI s)), (2, .int (iI q)), (3, .int (iI j)), (5, .int (iI (s * 8 + (ly (vw ν) s k).1))), (6, .int (iI (ν 10 (s * 8 + (ly (vw ν) s k).1)))), (7, .int (iI n))] := by rw [g3.1, g1]; exact hl
                              have hE2 := lvE_bd hS (e := (ly (vw ν) s k).1) ⟨by omega, by show _ < ν 9 s; omega⟩ (d := (ly (vw ν) s k).2.2.1) (by omega)
                              rw [← g3.1] at hE2
                              refine q_go (tgt := 47) M dX7_lays_217 (by decide) ?_
                              exact ih47 j (by omega) hok ((Int.lt_or_eq_of_le hkn.2).elim (fun z => Or.inl (by omega)) (fun z => Or.inr (hi.2 z).2.1)) hE2 (by omega) _ _ _ w (lv_sub hl [1, 2, 3, 4, 0] rfl)
                            · refine q_aln M dX7_lays_191 (lv_at hl 0 rfl) ?_
                              refine q_get (v := .ref (b 19)) M w in7 0 19 rfl rfl (by decide) (by decide +kernel) rfl rfl dX7_lays_192 ?_
                              refine q_il M dX7_lays_195 (lv_at hl 4 rfl) ?_
                              refine q_dup2 M dX7_lays_197 rfl rfl ?_
                              refine q_iald (f := (ly (vw ν) s k).2.2.1) M w 18 0 rfl rfl (by omega) dX7_lays_198 ?_
                              refine q_ic M dX7_lays_199 ?_
                              refine q_add M dX7_lays_200 ?_
                              refine q_iast (f := (ly (vw ν) s k).2.2.1) (ws2 := WMod cI cZ b (mset (mset (mset (mset ν 16 (cpF (ν 16) (bP (vw ν) s) q j)) 17 (cpF (ν 17) (fB (vw ν) s) q j)) 19 (iU ((ly (vw ν) s k).2.2.1) ((ly (vw ν) s k).1) ((((ly (vw ν) s k).2.2.1) ((ly (vw ν) s k).1)) + 1))) 20 ((ly (vw ν) s j).2.2.2))) M w 18 0 rfl rfl (by omega) rfl dX7_lays_201 (fun H locs w => ?_)
                              refine q_aln M dX7_lays_202 (lv_at hl 0 rfl) ?_
                              refine q_get (v := .ref (b 12)) M w in7 0 12 rfl rfl (by decide) (by decide +kernel) rfl rfl dX7_lays_203 ?_
                              refine q_il M dX7_lays_206 (lv_at hl 5 rfl) ?_
                              refine q_iald (f := ν 12) M w 12 0 rfl rfl (by omega) dX7_lays_208 ?_
                              refine q_is (lv' := [(4, .int (iI ((ν 12) (s * 8 + (ly (vw ν) s k).1)))), (0, .ref (b 0)), (1, .int (iI s)), (2, .int (iI q)), (3, .int (iI j)), (5, .int (iI (s * 8 + (ly (vw ν) s k).1))), (6, .int (iI (ν 10 (s * 8 + (ly (vw ν) s k).1)))), (7, .int (iI n))]) M dX7_lays_209 hl (by decide) rfl (fun ls hl => ?_)
                              refine q_go (tgt := 217) M dX7_lays_211 (by decide) ?_
                              have g1 : lvE (sT (vw ν) s) (sG (vw ν) s) (ly (vw ν) s k).2.2.1 (ly (vw ν) s k).1 = (ν 12) (s * 8 + (ly (vw ν) s k).1) := (if_neg (show ¬ (ν 13 (s * 8 + (ly (vw ν) s k).1) ≤ (ly (vw ν) s k).2.2.1 (ly (vw ν) s k).1) by omega))
                              have g2 : lvD (sT (vw ν) s) (ly (vw ν) s k).2.2.1 (ly (vw ν) s k).1 = iU ((ly (vw ν) s k).2.2.1) (ly (vw ν) s k).1 ((ly (vw ν) s k).2.2.1 (ly (vw ν) s k).1 + 1) := (if_neg (show ¬ (ν 13 (s * 8 + (ly (vw ν) s k).1) ≤ (ly (vw ν) s k).2.2.1 (ly (vw ν) s k).1) by omega))
                              have g3 := leave_E (m := (vw ν)) (s := s) hi hkn
                              have w : wW D A zs.heap (WMod cI cZ b (mset (mset (mset (mset ν 16 (cpF (ν 16) (bP (vw ν) s) q j)) 17 (cpF (ν 17) (fB (vw ν) s) q j)) 19 (dnE (vw ν) s j)) 20 ((ly (vw ν) s j).2.2.2))) H locs := by rw [g3.2, g2]; exact w
                              have hl : lv_has ls 8 [(4, .int (iI (eE (vw ν) s j))), (0, .ref (b 0)), (1, .int (iI s)), (2, .int (iI q)), (3, .int (iI j)), (5, .int (iI (s * 8 + (ly (vw ν) s k).1))), (6, .int (iI (ν 10 (s * 8 + (ly (vw ν) s k).1)))), (7, .int (iI n))] := by rw [g3.1, g1]; exact hl
                              have hE2 := lvE_bd hS (e := (ly (vw ν) s k).1) ⟨by omega, by show _ < ν 9 s; omega⟩ (d := (ly (vw ν) s k).2.2.1) (by omega)
                              rw [← g3.1] at hE2
                              refine q_go (tgt := 47) M dX7_lays_217 (by decide) ?_
                              exact ih47 j (by omega) hok ((Int.lt_or_eq_of_le hkn.2).elim (fun z => Or.inl (by omega)) (fun z => Or.inr (hi.2 z).2.1)) hE2 (by omega) _ _ _ w (lv_sub hl [1, 2, 3, 4, 0] rfl)
                          · obtain ⟨a1, a2, a3⟩ := hi.1 (by omega)
                            have ep : bP (vw ν) s j = ν 10 (s * 8 + (ly (vw ν) s k).1) := by show ν 10 (s * 8 + (ly (vw ν) s j).1) = _; rw [a1]
                            refine q_iln M dX7_lays_97 (lv_at hl 3 rfl) ?_
                            refine q_bp M dX7_lays_98 (by decide +kernel) ?_
                            refine q_icmp_ge (tgt := 174) M dX7_lays_100 (by decide) (by omega) (fun c100 => ?_) (fun c100 => ?_)
                            · have hkn : 0 < n ∧ n ≤ ν 11 (s * 8 + (ly (vw ν) s k).1) := by omega
                              refine q_aln M dX7_lays_174 (lv_at hl 0 rfl) ?_
                              refine q_get (v := .ref (b 19)) M w in7 0 19 rfl rfl (by decide) (by decide +kernel) rfl rfl dX7_lays_175 ?_
                              refine q_il M dX7_lays_178 (lv_at hl 4 rfl) ?_
                              refine q_iald (f := (ly (vw ν) s k).2.2.1) M w 18 0 rfl rfl (by omega) dX7_lays_180 ?_
                              refine q_aln M dX7_lays_181 (lv_at hl 0 rfl) ?_
                              refine q_get (v := .ref (b 13)) M w in7 0 13 rfl rfl (by decide) (by decide +kernel) rfl rfl dX7_lays_182 ?_
                              refine q_il M dX7_lays_185 (lv_at hl 5 rfl) ?_
                              refine q_iald (f := ν 13) M w 13 0 rfl rfl (by omega) dX7_lays_187 ?_
                              refine q_icmp_ge (tgt := 214) M dX7_lays_188 (by decide) (by omega) (fun c188 => ?_) (fun c188 => ?_)
                              · refine q_inc (z := (ly (vw ν) s k).1) (lv' := [(4, .int (iI (((ly (vw ν) s k).1) + 1))), (0, .ref (b 0)), (1, .int (iI s)), (2, .int (iI q)), (3, .int (iI j)), (5, .int (iI (s * 8 + (ly (vw ν) s k).1))), (6, .int (iI (ν 10 (s * 8 + (ly (vw ν) s k).1)))), (7, .int (iI n))]) M dX7_lays_214 hl (k := 4) rfl (by decide) rfl (fun ls hl => ?_)
                                have g1 : lvE (sT (vw ν) s) (sG (vw ν) s) (ly (vw ν) s k).2.2.1 (ly (vw ν) s k).1 = ((ly (vw ν) s k).1) + 1 := (if_pos (show (ν 13 (s * 8 + (ly (vw ν) s k).1) ≤ (ly (vw ν) s k).2.2.1 (ly (vw ν) s k).1) by omega))
                                have g2 : lvD (sT (vw ν) s) (ly (vw ν) s k).2.2.1 (ly (vw ν) s k).1 = (ly (vw ν) s k).2.2.1 := (if_pos (show (ν 13 (s * 8 + (ly (vw ν) s k).1) ≤ (ly (vw ν) s k).2.2.1 (ly (vw ν) s k).1) by omega))
                                have g3 := leave_E (m := (vw ν)) (s := s) hi hkn
                                have w : wW D A zs.heap (WMod cI cZ b (mset (mset (mset (mset ν 16 (cpF (ν 16) (bP (vw ν) s) q j)) 17 (cpF (ν 17) (fB (vw ν) s) q j)) 19 (dnE (vw ν) s j)) 20 ((ly (vw ν) s j).2.2.2))) H locs := by rw [g3.2, g2]; exact w
                                have hl : lv_has ls 8 [(4, .int (iI (eE (vw ν) s j))), (0, .ref (b 0)), (1, .int (iI s)), (2, .int (iI q)), (3, .int (iI j)), (5, .int (iI (s * 8 + (ly (vw ν) s k).1))), (6, .int (iI (ν 10 (s * 8 + (ly (vw ν) s k).1)))), (7, .int (iI n))] := by rw [g3.1, g1]; exact hl
                                have hE2 := lvE_bd hS (e := (ly (vw ν) s k).1) ⟨by omega, by show _ < ν 9 s; omega⟩ (d := (ly (vw ν) s k).2.2.1) (by omega)
                                rw [← g3.1] at hE2
                                refine q_go (tgt := 47) M dX7_lays_217 (by decide) ?_
                                exact ih47 j (by omega) hok ((Int.lt_or_eq_of_le hkn.2).elim (fun z => Or.inl (by omega)) (fun z => Or.inr (hi.2 z).2.1)) hE2 (by omega) _ _ _ w (lv_sub hl [1, 2, 3, 4, 0] rfl)
                              · refine q_aln M dX7_lays_191 (lv_at hl 0 rfl) ?_
                                refine q_get (v := .ref (b 19)) M w in7 0 19 rfl rfl (by decide) (by decide +kernel) rfl rfl dX7_lays_192 ?_
                                refine q_il M dX7_lays_195 (lv_at hl 4 rfl) ?_
                                refine q_dup2 M dX7_lays_197 rfl rfl ?_
                                refine q_iald (f := (ly (vw ν) s k).2.2.1) M w 18 0 rfl rfl (by omega) dX7_lays_198 ?_
                                refine q_ic M dX7_lays_199 ?_
                                refine q_add M dX7_lays_200 ?_
                                refine q_iast (f := (ly (vw ν) s k).2.2.1) (ws2 := WMod cI cZ b (mset (mset (mset (mset ν 16 (cpF (ν 16) (bP (vw ν) s) q j)) 17 (cpF (ν 17) (fB (vw ν) s) q j)) 19 (iU ((ly (vw ν) s k).2.2.1) ((ly (vw ν) s k).1) ((((ly (vw ν) s k).2.2.1) ((ly (vw ν) s k).1)) + 1))) 20 ((ly (vw ν) s j).2.2.2))) M w 18 0 rfl rfl (by omega) rfl dX7_lays_201 (fun H locs w => ?_)
                                refine q_aln M dX7_lays_202 (lv_at hl 0 rfl) ?_
                                refine q_get (v := .ref (b 12)) M w in7 0 12 rfl rfl (by decide) (by decide +kernel) rfl rfl dX7_lays_203 ?_
                                refine q_il M dX7_lays_206 (lv_at hl 5 rfl) ?_
                                refine q_iald (f := ν 12) M w 12 0 rfl rfl (by omega) dX7_lays_208 ?_
                                refine q_is (lv' := [(4, .int (iI ((ν 12) (s * 8 + (ly (vw ν) s k).1)))), (0, .ref (b 0)), (1, .int (iI s)), (2, .int (iI q)), (3, .int (iI j)), (5, .int (iI (s * 8 + (ly (vw ν) s k).1))), (6, .int (iI (ν 10 (s * 8 + (ly (vw ν) s k).1)))), (7, .int (iI n))]) M dX7_lays_209 hl (by decide) rfl (fun ls hl => ?_)
                                refine q_go (tgt := 217) M dX7_lays_211 (by decide) ?_
                                have g1 : lvE (sT (vw ν) s) (sG (vw ν) s) (ly (vw ν) s k).2.2.1 (ly (vw ν) s k).1 = (ν 12) (s * 8 + (ly (vw ν) s k).1) := (if_neg (show ¬ (ν 13 (s * 8 + (ly (vw ν) s k).1) ≤ (ly (vw ν) s k).2.2.1 (ly (vw ν) s k).1) by omega))
                                have g2 : lvD (sT (vw ν) s) (ly (vw ν) s k).2.2.1 (ly (vw ν) s k).1 = iU ((ly (vw ν) s k).2.2.1) (ly (vw ν) s k).1 ((ly (vw ν) s k).2.2.1 (ly (vw ν) s k).1 + 1) := (if_neg (show ¬ (ν 13 (s * 8 + (ly (vw ν) s k).1) ≤ (ly (vw ν) s k).2.2.1 (ly (vw ν) s k).1) by omega))
                                have g3 := leave_E (m := (vw ν)) (s := s) hi hkn
                                have w : wW D A zs.heap (WMod cI cZ b (mset (mset (mset (mset ν 16 (cpF (ν 16) (bP (vw ν) s) q j)) 17 (cpF (ν 17) (fB (vw ν) s) q j)) 19 (dnE (vw ν) s j)) 20 ((ly (vw ν) s j).2.2.2))) H locs := by rw [g3.2, g2]; exact w
                                have hl : lv_has ls 8 [(4, .int (iI (eE (vw ν) s j))), (0, .ref (b 0)), (1, .int (iI s)), (2, .int (iI q)), (3, .int (iI j)), (5, .int (iI (s * 8 + (ly (vw ν) s k).1))), (6, .int (iI (ν 10 (s * 8 + (ly (vw ν) s k).1)))), (7, .int (iI n))] := by rw [g3.1, g1]; exact hl
                                have hE2 := lvE_bd hS (e := (ly (vw ν) s k).1) ⟨by omega, by show _ < ν 9 s; omega⟩ (d := (ly (vw ν) s k).2.2.1) (by omega)
                                rw [← g3.1] at hE2
                                refine q_go (tgt := 47) M dX7_lays_217 (by decide) ?_
                                exact ih47 j (by omega) hok ((Int.lt_or_eq_of_le hkn.2).elim (fun z => Or.inl (by omega)) (fun z => Or.inr (hi.2 z).2.1)) hE2 (by omega) _ _ _ w (lv_sub hl [1, 2, 3, 4, 0] rfl)
                            · refine q_aln M dX7_lays_103 (lv_at hl 0 rfl) ?_
                              refine q_get (v := .ref (b 20)) M w in7 0 20 rfl rfl (by decide) (by decide +kernel) rfl rfl dX7_lays_104 ?_
                              refine q_il M dX7_lays_107 (lv_at hl 6 rfl) ?_
                              refine q_dup2 M dX7_lays_109 rfl rfl ?_
                              refine q_iald (f := (ly (vw ν) s j).2.2.2) M w 19 0 rfl rfl (by omega) dX7_lays_110 ?_
                              refine q_ic M dX7_lays_111 ?_
                              refine q_add M dX7_lays_112 ?_
                              refine q_iast (f := (ly (vw ν) s j).2.2.2) (ws2 := WMod cI cZ b (mset (mset (mset (mset ν 16 (cpF (ν 16) (bP (vw ν) s) q j)) 17 (cpF (ν 17) (fB (vw ν) s) q j)) 19 ((ly (vw ν) s k).2.2.1)) 20 (iU ((ly (vw ν) s j).2.2.2) (ν 10 (s * 8 + (ly (vw ν) s k).1)) ((((ly (vw ν) s j).2.2.2) (ν 10 (s * 8 + (ly (vw ν) s k).1))) + 1)))) M w 19 0 rfl rfl (by omega) rfl dX7_lays_113 (fun H locs w => ?_)
                              have ec := ly_turn (vw ν) s hj.1
                              rw [ep] at ec
                              have w : wW D A zs.heap (WMod cI cZ b (mset (mset (mset (mset ν 16 (cpF (ν 16) (bP (vw ν) s) q j)) 17 (cpF (ν 17) (fB (vw ν) s) q j)) 19 ((ly (vw ν) s k).2.2.1)) 20 ((ly (vw ν) s (j + 1)).2.2.2))) H locs := by rw [ec]; exact w
                              have hok2 := lsOK_s hS hj.1 hok (show (ly (vw ν) s j).1 < ν 9 s by omega)
                              have q9 : 0 ≤ (ly (vw ν) s (j + 1)).2.2.2 (ν 10 (s * 8 + (ly (vw ν) s k).1)) ∧ (ly (vw ν) s (j + 1)).2.2.2 (ν 10 (s * 8 + (ly (vw ν) s k).1)) ≤ j + 1 := hok2.2.2.2.1 _
                              have q6 : 0 ≤ ν 6 (ν 10 (s * 8 + (ly (vw ν) s k).1)) ∧ ν 6 (ν 10 (s * 8 + (ly (vw ν) s k).1)) ≤ 8 := hI.2.2.2.1 _
                              refine q_aln M dX7_lays_114 (lv_at hl 0 rfl) ?_
                              refine q_get (v := .ref (b 16)) M w in7 0 16 rfl rfl (by decide) (by decide +kernel) rfl rfl dX7_lays_115 ?_
                              refine q_iln M dX7_lays_118 (lv_at hl 2 rfl) ?_
                              refine q_iln M dX7_lays_119 (lv_at hl 3 rfl) ?_
                              refine q_add M dX7_lays_120 ?_
                              refine q_il M dX7_lays_121 (lv_at hl 6 rfl) ?_
                              refine q_iast (f := cpF (ν 16) (bP (vw ν) s) q j) (ws2 := WMod cI cZ b (mset (mset (mset (mset ν 16 (iU (cpF (ν 16) (bP (vw ν) s) q j) (q + j) (ν 10 (s * 8 + (ly (vw ν) s k).1)))) 17 (cpF (ν 17) (fB (vw ν) s) q j)) 19 ((ly (vw ν) s k).2.2.1)) 20 ((ly (vw ν) s (j + 1)).2.2.2))) M w 15 0 rfl rfl (by omega) rfl dX7_lays_123 (fun H locs w => ?_)
                              refine q_aln M dX7_lays_124 (lv_at hl 0 rfl) ?_
                              refine q_get (v := .ref (b 17)) M w in7 0 17 rfl rfl (by decide) (by decide +kernel) rfl rfl dX7_lays_125 ?_
                              refine q_iln M dX7_lays_128 (lv_at hl 2 rfl) ?_
                              refine q_iln M dX7_lays_129 (lv_at hl 3 rfl) ?_
                              refine q_add M dX7_lays_130 ?_
                              refine q_aln M dX7_lays_131 (lv_at hl 0 rfl) ?_
                              refine q_get (v := .ref (b 6)) M w in7 0 6 rfl rfl (by decide) (by decide +kernel) rfl rfl dX7_lays_132 ?_
                              refine q_il M dX7_lays_135 (lv_at hl 6 rfl) ?_
                              refine q_iald (f := ν 6) M w 6 0 rfl rfl (by omega) dX7_lays_137 ?_
                              refine q_if_le (tgt := 163) M dX7_lays_138 (by decide) (by omega) (fun c138 => ?_) (fun c138 => ?_)
                              · refine q_ic M dX7_lays_163 ?_
                                refine q_zast (f := cpF (ν 17) (fB (vw ν) s) q j) (ws2 := WMod cI cZ b (mset (mset (mset (mset ν 16 (iU (cpF (ν 16) (bP (vw ν) s) q j) (q + j) (ν 10 (s * 8 + (ly (vw ν) s k).1)))) 17 (iU (cpF (ν 17) (fB (vw ν) s) q j) (q + j) 0)) 19 ((ly (vw ν) s k).2.2.1)) 20 ((ly (vw ν) s (j + 1)).2.2.2))) M w 16 1 rfl rfl (by omega) (by omega) rfl dX7_lays_164 (fun H locs w => ?_)
                                have eb : bT (vw ν) s j = (ly (vw ν) s (j + 1)).2.2.2 (ν 10 (s * 8 + (ly (vw ν) s k).1)) := by unfold bT; rw [ep, ec, iU_s]
                                have ef : fB (vw ν) s j = 0 := by unfold fB; rw [ep, eb]; exact if_neg (fun z => by have z1 : 0 < ν 6 _ := z.1; have z2 : _ % ν 6 _ = 0 := z.2; omega)
                                have e16 := cpF_s (ν 16) (bP (vw ν) s) q hj.1
                                have e17 := cpF_s (ν 17) (fB (vw ν) s) q hj.1
                                rw [ep] at e16
                                rw [ef] at e17
                                have w : wW D A zs.heap (WMod cI cZ b (mset (mset (mset (mset ν 16 (cpF (ν 16) (bP (vw ν) s) q (j + 1))) 17 (cpF (ν 17) (fB (vw ν) s) q (j + 1))) 19 ((ly (vw ν) s k).2.2.1)) 20 ((ly (vw ν) s (j + 1)).2.2.2))) H locs := by rw [← e16, ← e17]; exact w
                                refine q_inc (z := j) (lv' := [(3, .int (iI (j + 1))), (0, .ref (b 0)), (1, .int (iI s)), (2, .int (iI q)), (4, .int (iI ((ly (vw ν) s k).1))), (5, .int (iI (s * 8 + (ly (vw ν) s k).1))), (6, .int (iI (ν 10 (s * 8 + (ly (vw ν) s k).1)))), (7, .int (iI n))]) M dX7_lays_165 hl (k := 3) rfl (by decide) rfl (fun ls hl => ?_)
                                refine q_inc (z := n) (lv' := [(7, .int (iI (n + 1))), (3, .int (iI (j + 1))), (0, .ref (b 0)), (1, .int (iI s)), (2, .int (iI q)), (4, .int (iI ((ly (vw ν) s k).1))), (5, .int (iI (s * 8 + (ly (vw ν) s k).1))), (6, .int (iI (ν 10 (s * 8 + (ly (vw ν) s k).1))))]) M dX7_lays_168 hl (k := 7) rfl (by decide) rfl (fun ls hl => ?_)
                                refine q_go (tgt := 85) M dX7_lays_171 (by decide) ?_
                                have hx := ly_next (vw ν) s hj.1
                                have hx1 : ν 11 (s * 8 + (ly (vw ν) s j).1) ≤ (ly (vw ν) s j).2.1 + 1 → _ := hx.1
                                have hx2 : ¬ ν 11 (s * 8 + (ly (vw ν) s j).1) ≤ (ly (vw ν) s j).2.1 + 1 → _ := hx.2
                                rw [a1, a2, a3] at hx1 hx2
                                exact ih85 (j + 1) (n + 1) (by omega) (by omega) (by omega) hok2 ⟨fun z => hx2 (by omega), fun z => hx1 (by omega)⟩ (by omega) _ _ _ w (lv_sub hl [2, 3, 4, 1, 5, 6, 7, 0] rfl)
                              · refine q_aln M dX7_lays_141 (lv_at hl 0 rfl) ?_
                                refine q_get (v := .ref (b 20)) M w in7 0 20 rfl rfl (by decide) (by decide +kernel) rfl rfl dX7_lays_142 ?_
                                refine q_il M dX7_lays_145 (lv_at hl 6 rfl) ?_
                                refine q_iald (f := (ly (vw ν) s (j + 1)).2.2.2) M w 19 0 rfl rfl (by omega) dX7_lays_147 ?_
                                refine q_aln M dX7_lays_148 (lv_at hl 0 rfl) ?_
                                refine q_get (v := .ref (b 6)) M w in7 0 6 rfl rfl (by decide) (by decide +kernel) rfl rfl dX7_lays_149 ?_
                                refine q_il M dX7_lays_152 (lv_at hl 6 rfl) ?_
                                refine q_iald (f := ν 6) M w 6 0 rfl rfl (by omega) dX7_lays_154 ?_
                                refine q_rem M dX7_lays_155 (by omega) ?_
                                have qr := Int.emod_nonneg ((ly (vw ν) s (j + 1)).2.2.2 (ν 10 (s * 8 + (ly (vw ν) s k).1))) (show ν 6 (ν 10 (s * 8 + (ly (vw ν) s k).1)) ≠ 0 by omega)
                                have qs := Int.emod_lt_of_pos ((ly (vw ν) s (j + 1)).2.2.2 (ν 10 (s * 8 + (ly (vw ν) s k).1))) (show 0 < ν 6 (ν 10 (s * 8 + (ly (vw ν) s k).1)) by omega)
                                refine q_if_ne (tgt := 163) M dX7_lays_156 (by decide) (by omega) (fun c156 => ?_) (fun c156 => ?_)
                                · refine q_ic M dX7_lays_163 ?_
                                  refine q_zast (f := cpF (ν 17) (fB (vw ν) s) q j) (ws2 := WMod cI cZ b (mset (mset (mset (mset ν 16 (iU (cpF (ν 16) (bP (vw ν) s) q j) (q + j) (ν 10 (s * 8 + (ly (vw ν) s k).1)))) 17 (iU (cpF (ν 17) (fB (vw ν) s) q j) (q + j) 0)) 19 ((ly (vw ν) s k).2.2.1)) 20 ((ly (vw ν) s (j + 1)).2.2.2))) M w 16 1 rfl rfl (by omega) (by omega) rfl dX7_lays_164 (fun H locs w => ?_)
                                  have eb : bT (vw ν) s j = (ly (vw ν) s (j + 1)).2.2.2 (ν 10 (s * 8 + (ly (vw ν) s k).1)) := by unfold bT; rw [ep, ec, iU_s]
                                  have ef : fB (vw ν) s j = 0 := by unfold fB; rw [ep, eb]; exact if_neg (fun z => by have z1 : 0 < ν 6 _ := z.1; have z2 : _ % ν 6 _ = 0 := z.2; omega)
                                  have e16 := cpF_s (ν 16) (bP (vw ν) s) q hj.1
                                  have e17 := cpF_s (ν 17) (fB (vw ν) s) q hj.1
                                  rw [ep] at e16
                                  rw [ef] at e17
                                  have w : wW D A zs.heap (WMod cI cZ b (mset (mset (mset (mset ν 16 (cpF (ν 16) (bP (vw ν) s) q (j + 1))) 17 (cpF (ν 17) (fB (vw ν) s) q (j + 1))) 19 ((ly (vw ν) s k).2.2.1)) 20 ((ly (vw ν) s (j + 1)).2.2.2))) H locs := by rw [← e16, ← e17]; exact w
                                  refine q_inc (z := j) (lv' := [(3, .int (iI (j + 1))), (0, .ref (b 0)), (1, .int (iI s)), (2, .int (iI q)), (4, .int (iI ((ly (vw ν) s k).1))), (5, .int (iI (s * 8 + (ly (vw ν) s k).1))), (6, .int (iI (ν 10 (s * 8 + (ly (vw ν) s k).1)))), (7, .int (iI n))]) M dX7_lays_165 hl (k := 3) rfl (by decide) rfl (fun ls hl => ?_)
                                  refine q_inc (z := n) (lv' := [(7, .int (iI (n + 1))), (3, .int (iI (j + 1))), (0, .ref (b 0)), (1, .int (iI s)), (2, .int (iI q)), (4, .int (iI ((ly (vw ν) s k).1))), (5, .int (iI (s * 8 + (ly (vw ν) s k).1))), (6, .int (iI (ν 10 (s * 8 + (ly (vw ν) s k).1))))]) M dX7_lays_168 hl (k := 7) rfl (by decide) rfl (fun ls hl => ?_)
                                  refine q_go (tgt := 85) M dX7_lays_171 (by decide) ?_
                                  have hx := ly_next (vw ν) s hj.1
                                  have hx1 : ν 11 (s * 8 + (ly (vw ν) s j).1) ≤ (ly (vw ν) s j).2.1 + 1 → _ := hx.1
                                  have hx2 : ¬ ν 11 (s * 8 + (ly (vw ν) s j).1) ≤ (ly (vw ν) s j).2.1 + 1 → _ := hx.2
                                  rw [a1, a2, a3] at hx1 hx2
                                  exact ih85 (j + 1) (n + 1) (by omega) (by omega) (by omega) hok2 ⟨fun z => hx2 (by omega), fun z => hx1 (by omega)⟩ (by omega) _ _ _ w (lv_sub hl [2, 3, 4, 1, 5, 6, 7, 0] rfl)
                                · refine q_ic M dX7_lays_159 ?_
                                  refine q_go (tgt := 164) M dX7_lays_160 (by decide) ?_
                                  refine q_zast (f := cpF (ν 17) (fB (vw ν) s) q j) (ws2 := WMod cI cZ b (mset (mset (mset (mset ν 16 (iU (cpF (ν 16) (bP (vw ν) s) q j) (q + j) (ν 10 (s * 8 + (ly (vw ν) s k).1)))) 17 (iU (cpF (ν 17) (fB (vw ν) s) q j) (q + j) 1)) 19 ((ly (vw ν) s k).2.2.1)) 20 ((ly (vw ν) s (j + 1)).2.2.2))) M w 16 1 rfl rfl (by omega) (by omega) rfl dX7_lays_164 (fun H locs w => ?_)
                                  have eb : bT (vw ν) s j = (ly (vw ν) s (j + 1)).2.2.2 (ν 10 (s * 8 + (ly (vw ν) s k).1)) := by unfold bT; rw [ep, ec, iU_s]
                                  have ef : fB (vw ν) s j = 1 := by unfold fB; rw [ep, eb]; exact if_pos ⟨by show 0 < ν 6 _; omega, by show _ % ν 6 _ = 0; omega⟩
                                  have e16 := cpF_s (ν 16) (bP (vw ν) s) q hj.1
                                  have e17 := cpF_s (ν 17) (fB (vw ν) s) q hj.1
                                  rw [ep] at e16
                                  rw [ef] at e17
                                  have w : wW D A zs.heap (WMod cI cZ b (mset (mset (mset (mset ν 16 (cpF (ν 16) (bP (vw ν) s) q (j + 1))) 17 (cpF (ν 17) (fB (vw ν) s) q (j + 1))) 19 ((ly (vw ν) s k).2.2.1)) 20 ((ly (vw ν) s (j + 1)).2.2.2))) H locs := by rw [← e16, ← e17]; exact w
                                  refine q_inc (z := j) (lv' := [(3, .int (iI (j + 1))), (0, .ref (b 0)), (1, .int (iI s)), (2, .int (iI q)), (4, .int (iI ((ly (vw ν) s k).1))), (5, .int (iI (s * 8 + (ly (vw ν) s k).1))), (6, .int (iI (ν 10 (s * 8 + (ly (vw ν) s k).1)))), (7, .int (iI n))]) M dX7_lays_165 hl (k := 3) rfl (by decide) rfl (fun ls hl => ?_)
                                  refine q_inc (z := n) (lv' := [(7, .int (iI (n + 1))), (3, .int (iI (j + 1))), (0, .ref (b 0)), (1, .int (iI s)), (2, .int (iI q)), (4, .int (iI ((ly (vw ν) s k).1))), (5, .int (iI (s * 8 + (ly (vw ν) s k).1))), (6, .int (iI (ν 10 (s * 8 + (ly (vw ν) s k).1))))]) M dX7_lays_168 hl (k := 7) rfl (by decide) rfl (fun ls hl => ?_)
                                  refine q_go (tgt := 85) M dX7_lays_171 (by decide) ?_
                                  have hx := ly_next (vw ν) s hj.1
                                  have hx1 : ν 11 (s * 8 + (ly (vw ν) s j).1) ≤ (ly (vw ν) s j).2.1 + 1 → _ := hx.1
                                  have hx2 : ¬ ν 11 (s * 8 + (ly (vw ν) s j).1) ≤ (ly (vw ν) s j).2.1 + 1 → _ := hx.2
                                  rw [a1, a2, a3] at hx1 hx2
                                  exact ih85 (j + 1) (n + 1) (by omega) (by omega) (by omega) hok2 ⟨fun z => hx2 (by omega), fun z => hx1 (by omega)⟩ (by omega) _ _ _ w (lv_sub hl [2, 3, 4, 1, 5, 6, 7, 0] rfl)
                      exact lp85 65 k 0 (by omega) (by omega) (by omega) hok0 ⟨fun _ => ⟨rfl, hr2, rfl⟩, fun z => by omega⟩ (by omega) _ _ _ w (lv_sub hl [3, 4, 5, 6, 7, 2, 1, 0] rfl)
              rw [show f = 12 by omega] at w
              have e0 : ly (vw ν) s 0 = (0, 0, fun _ => 0, fun _ => 0) := lay_0 _ _ _ _
              have e1 : eE (vw ν) s 0 = 0 := by unfold eE; rw [e0]; rfl
              have e2 : dnE (vw ν) s 0 = fun _ => 0 := by unfold dnE; rw [e0]; rfl
              have w : wW D A zs.heap (WMod cI cZ b (mset (mset (mset (mset ν 16 (cpF (ν 16) (bP (vw ν) s) q 0)) 17 (cpF (ν 17) (fB (vw ν) s) q 0)) 19 (dnE (vw ν) s 0)) 20 ((ly (vw ν) s 0).2.2.2))) H locs := by
                rw [cpF_0, cpF_0, e2, e0]
                refine WMod_cong w fun j i h1 h2 => ?_
                by_cases z1 : j = 19
                · subst z1; exact if_pos ⟨h1, h2⟩
                by_cases z2 : j = 20
                · subst z2; exact if_pos ⟨h1, h2⟩
                exact msk2 z1 z2 i
              have hl : lv_has ls 8 [(4, .int (iI (eE (vw ν) s 0))), (3, .int (iI 0)), (0, .ref (b 0)), (1, .int (iI s)), (2, .int (iI q))] := by rw [e1]; exact hl
              exact lp47 65 0 (by omega) (lsOK_0 hS) (Or.inr (by rw [e0])) (by rw [e1]; omega) (by omega) _ _ _ w (lv_sub hl [2, 3, 4, 1, 0] rfl)
            · refine q_aln M dX7_lays_29 (lv_at hl 0 rfl) ?_
              refine q_get (v := .ref (b 20)) M w in7 0 20 rfl rfl (by decide) (by decide +kernel) rfl rfl dX7_lays_30 ?_
              refine q_iln M dX7_lays_33 (lv_at hl 3 rfl) ?_
              refine q_ic M dX7_lays_34 ?_
              refine q_iast (f := zF (ν 20) f) (ws2 := WMod cI cZ b (mset (mset ν 19 (zF (ν 19) 8)) 20 (iU (zF (ν 20) f) f 0))) M w 19 0 rfl rfl (by omega) rfl dX7_lays_35 (fun H locs w => ?_)
              refine q_inc (z := f) (lv' := [(3, .int (iI (f + 1))), (0, .ref (b 0)), (1, .int (iI s)), (2, .int (iI q))]) M dX7_lays_36 hl (k := 3) rfl (by decide) rfl (fun ls hl => ?_)
              refine q_go (tgt := 23) M dX7_lays_39 (by decide) ?_
              rw [zF_s _ hf.1] at w
              exact ih23 (f + 1) (by omega) (by omega) _ _ _ w (lv_sub hl [1, 2, 3, 0] rfl)
        rw [show e = 8 by omega] at w
        have w : wW D A zs.heap (WMod cI cZ b (mset (mset ν 19 (zF (ν 19) 8)) 20 (zF (ν 20) 0))) H locs := by rw [zF_0]; exact w
        exact lp23 13 0 (by omega) (by omega) _ _ _ w (lv_sub hl [1, 2, 3, 0] rfl)
      · refine q_aln M dX7_lays_8 (lv_at hl 0 rfl) ?_
        refine q_get (v := .ref (b 19)) M w in7 0 19 rfl rfl (by decide) (by decide +kernel) rfl rfl dX7_lays_9 ?_
        refine q_iln M dX7_lays_12 (lv_at hl 3 rfl) ?_
        refine q_ic M dX7_lays_13 ?_
        refine q_iast (f := zF (ν 19) e) (ws2 := WMod cI cZ b (mset ν 19 (iU (zF (ν 19) e) e 0))) M w 18 0 rfl rfl (by omega) rfl dX7_lays_14 (fun H locs w => ?_)
        refine q_inc (z := e) (lv' := [(3, .int (iI (e + 1))), (0, .ref (b 0)), (1, .int (iI s)), (2, .int (iI q))]) M dX7_lays_15 hl (k := 3) rfl (by decide) rfl (fun ls hl => ?_)
        refine q_go (tgt := 2) M dX7_lays_18 (by decide) ?_
        rw [zF_s _ hj.1] at w
        exact ih2 (e + 1) (by omega) (by omega) _ _ _ w (lv_sub hl [1, 2, 3, 0] rfl)
  have w : wW D A zs.heap (WMod cI cZ b (mset ν 19 (zF (ν 19) 0))) zs.heap [] := by rw [zF_0]; exact w
  exact lp2 9 0 (by omega) (by omega) _ _ _ w (lv_sub hl [1, 2, 3, 0] rfl)
