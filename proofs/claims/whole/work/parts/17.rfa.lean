/-! THE REFERENCE: what it answers at once -/
def inF (v lo hi : Int) : Int := if lo ≤ v ∧ v ≤ hi then 1 else 0
theorem inF_c (v lo hi : Int) : (inF v lo hi = 1 ∧ lo ≤ v ∧ v ≤ hi) ∨ (inF v lo hi = 0 ∧ ¬ (lo ≤ v ∧ v ≤ hi)) := by
  unfold inF
  by_cases q : lo ≤ v ∧ v ≤ hi
  · rw [if_pos q]; exact Or.inl ⟨rfl, q⟩
  · rw [if_neg q]; exact Or.inr ⟨rfl, q⟩
section DUP2
variable {p : Program} {l : Launch} {e : Env} {R : Room} {s : State} {m : MethodId} {args : Array Value} {below : List Frame} {meth : Method} {c : Code} {H : Heap} {locs : List Loc} {cells slots : Nat} {Q : State → Prop} {cc : ByteArray} {nL pc : Nat} {ls : Array Slot} {rest : List Value} {Ts : List Cond} {own : String} {D : va_G} {tys : List (ClassId × FieldType)}
theorem q_dup2 (M : qM p m c cc nL s args Ts own D tys) {va vb : Value} (hdg : decode cc pc = .ok (.dup2, 1)) (hv : va.category = 1) (hv2 : vb.category = 1) (kk : W p l e R s m args below meth c H locs cells slots Q (F0 m (pc + 1) ls (va :: vb :: va :: vb :: rest))) : W p l e R s m args below meth c H locs cells slots Q (F0 m pc ls (va :: vb :: rest)) := lv_dup2_11 M.1.1 M.1.2.1 hdg hv hv2 kk
end DUP2

set_option maxHeartbeats 4000000 in
set_option maxRecDepth 100000 in
/-- in -/
theorem m_in (l : Launch) (D : va_G) (cI cZ cJ : ClassId) (v lo hh : Int) (hi : (-2147483648 ≤ v ∧ v < 2147483648) ∧ (-2147483648 ≤ lo ∧ lo < 2147483648) ∧ (-2147483648 ≤ hh ∧ hh < 2147483648)) : Ci l D (tY cI cZ cJ) yX7_in wsX7_in rmX7_in [.int (iI v), .int (iI lo), .int (iI hh)] ([]) (inF v lo hh) ([]) := by
  refine qz_of (by decide +kernel) rfl (Nat.le_of_ble_eq_true rfl) (by unfold inF; split <;> omega) ?_
  intro zp ze zs zm zargs zbelow zmeth zc A Q ls M hA w hl kret
  have hl : lv_has ls 3 [(0, .int (iI v)), (1, .int (iI lo)), (2, .int (iI hh))] := hl
  refine q_iln M dX7_in_0 (lv_at hl 0 rfl) ?_
  refine q_iln M dX7_in_1 (lv_at hl 1 rfl) ?_
  refine q_icmp_lt (tgt := 14) M dX7_in_2 (by decide) (by omega) (fun c2 => ?_) (fun c2 => ?_)
  · refine q_ic M dX7_in_14 ?_
    exact kret _ _ _ _ _ dX7_in_15 w (by unfold inF; rw [if_neg (by omega)])
  · refine q_iln M dX7_in_5 (lv_at hl 0 rfl) ?_
    refine q_iln M dX7_in_6 (lv_at hl 2 rfl) ?_
    refine q_icmp_gt (tgt := 14) M dX7_in_7 (by decide) (by omega) (fun c7 => ?_) (fun c7 => ?_)
    · refine q_ic M dX7_in_14 ?_
      exact kret _ _ _ _ _ dX7_in_15 w (by unfold inF; rw [if_neg (by omega)])
    · refine q_ic M dX7_in_10 ?_
      refine q_go (tgt := 15) M dX7_in_11 (by decide) ?_
      exact kret _ _ _ _ _ dX7_in_15 w (by unfold inF; rw [if_pos (by omega)])

set_option maxHeartbeats 4000000 in
set_option maxRecDepth 100000 in
/-- isSample -/
theorem m_isSample (l : Launch) (D : va_G) (cI cZ cJ : ClassId) (v : Int) (hi : -2147483648 ≤ v ∧ v < 2147483648) : Ci l D (tY cI cZ cJ) yX7_isSample wsX7_isSample rmX7_isSample [.int (iI v)] ([]) (inF v 0 7) ([]) := by
  refine qz_of (by decide +kernel) rfl (Nat.le_of_ble_eq_true rfl) (by unfold inF; split <;> omega) ?_
  intro zp ze zs zm zargs zbelow zmeth zc A Q ls M hA w hl kret
  have hl : lv_has ls 1 [(0, .int (iI v))] := hl
  refine q_iln M dX7_isSample_0 (lv_at hl 0 rfl) ?_
  refine q_ic M dX7_isSample_1 ?_
  refine q_bp M dX7_isSample_2 (by decide +kernel) ?_
  refine qc_iS (As := [.int (iI v), .int (iI 0), .int (iI 7)]) (rest := []) (wc := []) (wc2 := []) (ws2 := []) M w hA hl (m_in l D cI cZ cJ v 0 7 (by omega)) gX7_isSample_X7_in rfl ⟨rfl, rfl, by decide, by decide⟩ ⟨Nat.zero_le _, Nat.zero_le _⟩ 3 (by decide +kernel) rfl [] rfl rfl rfl (Nat.le_of_ble_eq_true rfl) rfl dX7_isSample_4 (fun H locs w => ?_)
  exact kret _ _ _ _ _ dX7_isSample_7 w rfl

set_option maxHeartbeats 4000000 in
set_option maxRecDepth 100000 in
/-- isPattern -/
theorem m_isPattern (l : Launch) (D : va_G) (cI cZ cJ : ClassId) (v : Int) (hi : -2147483648 ≤ v ∧ v < 2147483648) : Ci l D (tY cI cZ cJ) yX7_isPattern wsX7_isPattern rmX7_isPattern [.int (iI v)] ([]) (inF v 0 11) ([]) := by
  refine qz_of (by decide +kernel) rfl (Nat.le_of_ble_eq_true rfl) (by unfold inF; split <;> omega) ?_
  intro zp ze zs zm zargs zbelow zmeth zc A Q ls M hA w hl kret
  have hl : lv_has ls 1 [(0, .int (iI v))] := hl
  refine q_iln M dX7_isPattern_0 (lv_at hl 0 rfl) ?_
  refine q_ic M dX7_isPattern_1 ?_
  refine q_bp M dX7_isPattern_2 (by decide +kernel) ?_
  refine qc_iS (As := [.int (iI v), .int (iI 0), .int (iI 11)]) (rest := []) (wc := []) (wc2 := []) (ws2 := []) M w hA hl (m_in l D cI cZ cJ v 0 11 (by omega)) gX7_isPattern_X7_in rfl ⟨rfl, rfl, by decide, by decide⟩ ⟨Nat.zero_le _, Nat.zero_le _⟩ 3 (by decide +kernel) rfl [] rfl rfl rfl (Nat.le_of_ble_eq_true rfl) rfl dX7_isPattern_4 (fun H locs w => ?_)
  exact kret _ _ _ _ _ dX7_isPattern_7 w rfl

set_option maxHeartbeats 4000000 in
set_option maxRecDepth 100000 in
/-- isSong -/
theorem m_isSong (l : Launch) (D : va_G) (cI cZ cJ : ClassId) (v : Int) (hi : -2147483648 ≤ v ∧ v < 2147483648) : Ci l D (tY cI cZ cJ) yX7_isSong wsX7_isSong rmX7_isSong [.int (iI v)] ([]) (inF v 0 5) ([]) := by
  refine qz_of (by decide +kernel) rfl (Nat.le_of_ble_eq_true rfl) (by unfold inF; split <;> omega) ?_
  intro zp ze zs zm zargs zbelow zmeth zc A Q ls M hA w hl kret
  have hl : lv_has ls 1 [(0, .int (iI v))] := hl
  refine q_iln M dX7_isSong_0 (lv_at hl 0 rfl) ?_
  refine q_ic M dX7_isSong_1 ?_
  refine q_ic M dX7_isSong_2 ?_
  refine qc_iS (As := [.int (iI v), .int (iI 0), .int (iI 5)]) (rest := []) (wc := []) (wc2 := []) (ws2 := []) M w hA hl (m_in l D cI cZ cJ v 0 5 (by omega)) gX7_isSong_X7_in rfl ⟨rfl, rfl, by decide, by decide⟩ ⟨Nat.zero_le _, Nat.zero_le _⟩ 3 (by decide +kernel) rfl [] rfl rfl rfl (Nat.le_of_ble_eq_true rfl) rfl dX7_isSong_3 (fun H locs w => ?_)
  exact kret _ _ _ _ _ dX7_isSong_6 w rfl

set_option maxHeartbeats 4000000 in
set_option maxRecDepth 100000 in
/-- fails -/
theorem m_fails (l : Launch) (D : va_G) (cI cZ cJ : ClassId) (b : Nat → Nat) (ν : Nat → Int → Int) (k : Int) : Ci l D (tY cI cZ cJ) yX7_fails wsX7_fails rmX7_fails [.ref (b 0), .int (iI k)] (WMod cI cZ b ν) (0) (WMod cI cZ b (mset ν 0 (fun _ => k))) := by
  refine qi_of (by decide +kernel) rfl (Nat.le_of_ble_eq_true rfl) ?_
  intro zp ze zs zm zargs zbelow zmeth zc A Q ls M hA w hl kret
  have hl : lv_has ls 2 [(0, .ref (b 0)), (1, .int (iI k))] := hl
  have in7 : ∀ w ∈ u_ws RX7 TX7 31, w ∈ wsX7_fails := by decide +kernel
  refine q_aln M dX7_fails_0 (lv_at hl 0 rfl) ?_
  refine q_iln M dX7_fails_1 (lv_at hl 1 rfl) ?_
  refine q_put (ws2 := WMod cI cZ b (mset ν 0 (fun _ => k))) M w in7 0 0 tyX7 tyX7_ok nmX7 rfl rfl (by decide) (by decide +kernel) rfl rfl rfl rfl (Nat.le_of_ble_eq_true rfl) rfl dX7_fails_2 (fun H locs w => ?_)
  refine q_ic M dX7_fails_5 ?_
  exact kret _ _ _ _ _ dX7_fails_6 w rfl

set_option maxHeartbeats 4000000 in
set_option maxRecDepth 100000 in
/-- thrown -/
theorem m_thrown (l : Launch) (D : va_G) (cI cZ cJ : ClassId) (b : Nat → Nat) (ν : Nat → Int → Int) : Ci l D (tY cI cZ cJ) yX7_thrown wsX7_thrown rmX7_thrown [.ref (b 0)] (WMod cI cZ b ν) (ν 0 0) (WMod cI cZ b ν) := by
  refine qi_of (by decide +kernel) rfl (Nat.le_of_ble_eq_true rfl) ?_
  intro zp ze zs zm zargs zbelow zmeth zc A Q ls M hA w hl kret
  have hl : lv_has ls 1 [(0, .ref (b 0))] := hl
  have in7 : ∀ w ∈ u_ws RX7 TX7 31, w ∈ wsX7_thrown := by decide +kernel
  refine q_aln M dX7_thrown_0 (lv_at hl 0 rfl) ?_
  refine q_get (v := .int (iI (ν 0 0))) M w in7 0 0 rfl rfl (by decide) (by decide +kernel) rfl rfl dX7_thrown_1 ?_
  exact kret _ _ _ _ _ dX7_thrown_4 w rfl

set_option maxHeartbeats 4000000 in
set_option maxRecDepth 100000 in
/-- setSize -/
theorem m_setSize (l : Launch) (D : va_G) (cI cZ cJ : ClassId) (b : Nat → Nat) (ν : Nat → Int → Int) (s v : Int) (hs : -2147483648 ≤ s ∧ s < 2147483648) (hv : -2147483648 ≤ v ∧ v < 2147483648) (h21 : ν 21 0 = 0 ∨ ν 21 0 = 1) (hok : (0 ≤ s ∧ s ≤ 7) ∧ (1 ≤ v ∧ v ≤ 6) ∧ (ν 21 0 = 0)) : Ci l D (tY cI cZ cJ) yX7_setSize wsX7_setSize rmX7_setSize [.ref (b 0), .int (iI s), .int (iI v)] (WMod cI cZ b ν) (ν 1 s) (WMod cI cZ b (mset (mset ν 0 (fun _ => 0)) 1 (iU (ν 1) s v))) := by
  refine qi_of (by decide +kernel) rfl (Nat.le_of_ble_eq_true rfl) ?_
  intro zp ze zs zm zargs zbelow zmeth zc A Q ls M hA w hl kret
  have hl : lv_has ls 4 [(0, .ref (b 0)), (1, .int (iI s)), (2, .int (iI v))] := hl
  have in7 : ∀ w ∈ u_ws RX7 TX7 31, w ∈ wsX7_setSize := by decide +kernel
  refine q_aln M dX7_setSize_0 (lv_at hl 0 rfl) ?_
  refine q_ic M dX7_setSize_1 ?_
  refine q_put (ws2 := WMod cI cZ b (mset ν 0 (fun _ => 0))) M w in7 0 0 tyX7 tyX7_ok nmX7 rfl rfl (by decide) (by decide +kernel) rfl rfl rfl rfl (Nat.le_of_ble_eq_true rfl) rfl dX7_setSize_2 (fun H locs w => ?_)
  refine q_iln M dX7_setSize_5 (lv_at hl 1 rfl) ?_
  refine qc_iS (As := [.int (iI s)]) (rest := []) (wc := []) (wc2 := []) (ws2 := WMod cI cZ b (mset ν 0 (fun _ => 0))) M w hA hl (m_isSample l D cI cZ cJ s (by omega)) gX7_setSize_X7_isSample rfl ⟨rfl, rfl, by decide, by decide⟩ ⟨Nat.zero_le _, Nat.zero_le _⟩ 1 (by decide +kernel) rfl [] rfl rfl rfl (Nat.le_of_ble_eq_true rfl) rfl dX7_setSize_6 (fun H locs w => ?_)
  have q6 := inF_c s 0 7
  refine q_if_ne (tgt := 18) M dX7_setSize_9 (by decide) (by omega) (fun c9 => ?_) (fun c9 => ?_)
  · refine q_iln M dX7_setSize_18 (lv_at hl 2 rfl) ?_
    refine q_ic M dX7_setSize_19 ?_
    refine q_bp M dX7_setSize_20 (by decide +kernel) ?_
    refine qc_iS (As := [.int (iI v), .int (iI 1), .int (iI 6)]) (rest := []) (wc := []) (wc2 := []) (ws2 := WMod cI cZ b (mset ν 0 (fun _ => 0))) M w hA hl (m_in l D cI cZ cJ v 1 6 (by omega)) gX7_setSize_X7_in rfl ⟨rfl, rfl, by decide, by decide⟩ ⟨Nat.zero_le _, Nat.zero_le _⟩ 3 (by decide +kernel) rfl [] rfl rfl rfl (Nat.le_of_ble_eq_true rfl) rfl dX7_setSize_22 (fun H locs w => ?_)
    have q22 := inF_c v 1 6
    refine q_if_ne (tgt := 34) M dX7_setSize_25 (by decide) (by omega) (fun c25 => ?_) (fun c25 => ?_)
    · refine q_aln M dX7_setSize_34 (lv_at hl 0 rfl) ?_
      refine q_get (v := .int (iI (ν 21 0))) M w in7 0 21 rfl rfl (by decide) (by decide +kernel) rfl rfl dX7_setSize_35 ?_
      refine q_if_eq (tgt := 47) M dX7_setSize_38 (by decide) (by omega) (fun c38 => ?_) (fun c38 => ?_)
      · refine q_aln M dX7_setSize_47 (lv_at hl 0 rfl) ?_
        refine q_get (v := .ref (b 1)) M w in7 0 1 rfl rfl (by decide) (by decide +kernel) rfl rfl dX7_setSize_48 ?_
        refine q_iln M dX7_setSize_51 (lv_at hl 1 rfl) ?_
        refine q_iald (f := ν 1) M w 1 0 rfl rfl (by omega) dX7_setSize_52 ?_
        refine q_isn (lv' := [(3, .int (iI ((ν 1) s))), (0, .ref (b 0)), (1, .int (iI s)), (2, .int (iI v))]) M dX7_setSize_53 rfl hl (by decide) rfl (fun ls hl => ?_)
        refine q_aln M dX7_setSize_54 (lv_at hl 1 rfl) ?_
        refine q_get (v := .ref (b 1)) M w in7 0 1 rfl rfl (by decide) (by decide +kernel) rfl rfl dX7_setSize_55 ?_
        refine q_iln M dX7_setSize_58 (lv_at hl 2 rfl) ?_
        refine q_iln M dX7_setSize_59 (lv_at hl 3 rfl) ?_
        refine q_iast (f := ν 1) (ws2 := WMod cI cZ b (mset (mset ν 0 (fun _ => 0)) 1 (iU (ν 1) s v))) M w 1 0 rfl rfl (by omega) rfl dX7_setSize_60 (fun H locs w => ?_)
        refine q_iln M dX7_setSize_61 (lv_at hl 0 rfl) ?_
        exact kret _ _ _ _ _ dX7_setSize_62 w rfl
      · exfalso; omega
    · exfalso; omega
  · exfalso; omega

set_option maxHeartbeats 4000000 in
set_option maxRecDepth 100000 in
/-- setSize -/
theorem m_setSize_x (l : Launch) (D : va_G) (cI cZ cJ : ClassId) (b : Nat → Nat) (ν : Nat → Int → Int) (s v : Int) (hs : -2147483648 ≤ s ∧ s < 2147483648) (hv : -2147483648 ≤ v ∧ v < 2147483648) (h21 : ν 21 0 = 0 ∨ ν 21 0 = 1) (k : Int) (hk : (¬ (0 ≤ s ∧ s ≤ 7) ∧ k = 1) ∨ ((0 ≤ s ∧ s ≤ 7) ∧ ¬ (1 ≤ v ∧ v ≤ 6) ∧ k = 2) ∨ ((0 ≤ s ∧ s ≤ 7) ∧ (1 ≤ v ∧ v ≤ 6) ∧ ¬ (ν 21 0 = 0) ∧ k = 3)) : Ci l D (tY cI cZ cJ) yX7_setSize wsX7_setSize rmX7_setSize [.ref (b 0), .int (iI s), .int (iI v)] (WMod cI cZ b ν) (0) (WMod cI cZ b (mset ν 0 (fun _ => k))) := by
  refine qi_of (by decide +kernel) rfl (Nat.le_of_ble_eq_true rfl) ?_
  intro zp ze zs zm zargs zbelow zmeth zc A Q ls M hA w hl kret
  have hl : lv_has ls 4 [(0, .ref (b 0)), (1, .int (iI s)), (2, .int (iI v))] := hl
  have in7 : ∀ w ∈ u_ws RX7 TX7 31, w ∈ wsX7_setSize := by decide +kernel
  refine q_aln M dX7_setSize_0 (lv_at hl 0 rfl) ?_
  refine q_ic M dX7_setSize_1 ?_
  refine q_put (ws2 := WMod cI cZ b (mset ν 0 (fun _ => 0))) M w in7 0 0 tyX7 tyX7_ok nmX7 rfl rfl (by decide) (by decide +kernel) rfl rfl rfl rfl (Nat.le_of_ble_eq_true rfl) rfl dX7_setSize_2 (fun H locs w => ?_)
  refine q_iln M dX7_setSize_5 (lv_at hl 1 rfl) ?_
  refine qc_iS (As := [.int (iI s)]) (rest := []) (wc := []) (wc2 := []) (ws2 := WMod cI cZ b (mset ν 0 (fun _ => 0))) M w hA hl (m_isSample l D cI cZ cJ s (by omega)) gX7_setSize_X7_isSample rfl ⟨rfl, rfl, by decide, by decide⟩ ⟨Nat.zero_le _, Nat.zero_le _⟩ 1 (by decide +kernel) rfl [] rfl rfl rfl (Nat.le_of_ble_eq_true rfl) rfl dX7_setSize_6 (fun H locs w => ?_)
  have q6 := inF_c s 0 7
  refine q_if_ne (tgt := 18) M dX7_setSize_9 (by decide) (by omega) (fun c9 => ?_) (fun c9 => ?_)
  · refine q_iln M dX7_setSize_18 (lv_at hl 2 rfl) ?_
    refine q_ic M dX7_setSize_19 ?_
    refine q_bp M dX7_setSize_20 (by decide +kernel) ?_
    refine qc_iS (As := [.int (iI v), .int (iI 1), .int (iI 6)]) (rest := []) (wc := []) (wc2 := []) (ws2 := WMod cI cZ b (mset ν 0 (fun _ => 0))) M w hA hl (m_in l D cI cZ cJ v 1 6 (by omega)) gX7_setSize_X7_in rfl ⟨rfl, rfl, by decide, by decide⟩ ⟨Nat.zero_le _, Nat.zero_le _⟩ 3 (by decide +kernel) rfl [] rfl rfl rfl (Nat.le_of_ble_eq_true rfl) rfl dX7_setSize_22 (fun H locs w => ?_)
    have q22 := inF_c v 1 6
    refine q_if_ne (tgt := 34) M dX7_setSize_25 (by decide) (by omega) (fun c25 => ?_) (fun c25 => ?_)
    · refine q_aln M dX7_setSize_34 (lv_at hl 0 rfl) ?_
      refine q_get (v := .int (iI (ν 21 0))) M w in7 0 21 rfl rfl (by decide) (by decide +kernel) rfl rfl dX7_setSize_35 ?_
      refine q_if_eq (tgt := 47) M dX7_setSize_38 (by decide) (by omega) (fun c38 => ?_) (fun c38 => ?_)
      · exfalso; omega
      · refine q_aln M dX7_setSize_41 (lv_at hl 0 rfl) ?_
        refine q_ic M dX7_setSize_42 ?_
        refine qc_iV (As := [.int (iI 3)]) (rest := []) (wc := WMod cI cZ b (mset ν 0 (fun _ => 0))) (wc2 := WMod cI cZ b (mset ν 0 (fun _ => 3))) (ws2 := WMod cI cZ b (mset ν 0 (fun _ => 3))) M w hA hl (m_fails l D cI cZ cJ b (mset ν 0 (fun _ => 0)) 3 ) gX7_setSize_X7_fails rfl ⟨rfl, rfl, by decide, by decide⟩ ⟨Nat.zero_le _, Nat.zero_le _⟩ 1 ⟨rfl, by decide +kernel⟩ rfl [true, true, true, true, true, true, true, true, true, true, true, true, true, true, true, true, true, true, true, true, true] rfl rfl 0 rfl rfl rfl (Nat.le_of_ble_eq_true rfl) rfl dX7_setSize_43 (fun H locs w => ?_)
        have hk1 : k = 3 := by omega
        subst hk1
        exact kret _ _ _ _ _ dX7_setSize_46 w rfl
    · refine q_aln M dX7_setSize_28 (lv_at hl 0 rfl) ?_
      refine q_ic M dX7_setSize_29 ?_
      refine qc_iV (As := [.int (iI 2)]) (rest := []) (wc := WMod cI cZ b (mset ν 0 (fun _ => 0))) (wc2 := WMod cI cZ b (mset ν 0 (fun _ => 2))) (ws2 := WMod cI cZ b (mset ν 0 (fun _ => 2))) M w hA hl (m_fails l D cI cZ cJ b (mset ν 0 (fun _ => 0)) 2 ) gX7_setSize_X7_fails rfl ⟨rfl, rfl, by decide, by decide⟩ ⟨Nat.zero_le _, Nat.zero_le _⟩ 1 ⟨rfl, by decide +kernel⟩ rfl [true, true, true, true, true, true, true, true, true, true, true, true, true, true, true, true, true, true, true, true, true] rfl rfl 0 rfl rfl rfl (Nat.le_of_ble_eq_true rfl) rfl dX7_setSize_30 (fun H locs w => ?_)
      have hk1 : k = 2 := by omega
      subst hk1
      exact kret _ _ _ _ _ dX7_setSize_33 w rfl
  · refine q_aln M dX7_setSize_12 (lv_at hl 0 rfl) ?_
    refine q_ic M dX7_setSize_13 ?_
    refine qc_iV (As := [.int (iI 1)]) (rest := []) (wc := WMod cI cZ b (mset ν 0 (fun _ => 0))) (wc2 := WMod cI cZ b (mset ν 0 (fun _ => 1))) (ws2 := WMod cI cZ b (mset ν 0 (fun _ => 1))) M w hA hl (m_fails l D cI cZ cJ b (mset ν 0 (fun _ => 0)) 1 ) gX7_setSize_X7_fails rfl ⟨rfl, rfl, by decide, by decide⟩ ⟨Nat.zero_le _, Nat.zero_le _⟩ 1 ⟨rfl, by decide +kernel⟩ rfl [true, true, true, true, true, true, true, true, true, true, true, true, true, true, true, true, true, true, true, true, true] rfl rfl 0 rfl rfl rfl (Nat.le_of_ble_eq_true rfl) rfl dX7_setSize_14 (fun H locs w => ?_)
    have hk1 : k = 1 := by omega
    subst hk1
    exact kret _ _ _ _ _ dX7_setSize_17 w rfl

set_option maxHeartbeats 4000000 in
set_option maxRecDepth 100000 in
/-- tune -/
theorem m_tune (l : Launch) (D : va_G) (cI cZ cJ : ClassId) (b : Nat → Nat) (ν : Nat → Int → Int) (s v : Int) (hs : -2147483648 ≤ s ∧ s < 2147483648) (hv : -2147483648 ≤ v ∧ v < 2147483648)  (hok : (0 ≤ s ∧ s ≤ 7) ∧ (-12 ≤ v ∧ v ≤ 12)) : Ci l D (tY cI cZ cJ) yX7_tune wsX7_tune rmX7_tune [.ref (b 0), .int (iI s), .int (iI v)] (WMod cI cZ b ν) (ν 2 s) (WMod cI cZ b (mset (mset ν 0 (fun _ => 0)) 2 (iU (ν 2) s v))) := by
  refine qi_of (by decide +kernel) rfl (Nat.le_of_ble_eq_true rfl) ?_
  intro zp ze zs zm zargs zbelow zmeth zc A Q ls M hA w hl kret
  have hl : lv_has ls 4 [(0, .ref (b 0)), (1, .int (iI s)), (2, .int (iI v))] := hl
  have in7 : ∀ w ∈ u_ws RX7 TX7 31, w ∈ wsX7_tune := by decide +kernel
  refine q_aln M dX7_tune_0 (lv_at hl 0 rfl) ?_
  refine q_ic M dX7_tune_1 ?_
  refine q_put (ws2 := WMod cI cZ b (mset ν 0 (fun _ => 0))) M w in7 0 0 tyX7 tyX7_ok nmX7 rfl rfl (by decide) (by decide +kernel) rfl rfl rfl rfl (Nat.le_of_ble_eq_true rfl) rfl dX7_tune_2 (fun H locs w => ?_)
  refine q_iln M dX7_tune_5 (lv_at hl 1 rfl) ?_
  refine qc_iS (As := [.int (iI s)]) (rest := []) (wc := []) (wc2 := []) (ws2 := WMod cI cZ b (mset ν 0 (fun _ => 0))) M w hA hl (m_isSample l D cI cZ cJ s (by omega)) gX7_tune_X7_isSample rfl ⟨rfl, rfl, by decide, by decide⟩ ⟨Nat.zero_le _, Nat.zero_le _⟩ 1 (by decide +kernel) rfl [] rfl rfl rfl (Nat.le_of_ble_eq_true rfl) rfl dX7_tune_6 (fun H locs w => ?_)
  have q6 := inF_c s 0 7
  refine q_if_ne (tgt := 18) M dX7_tune_9 (by decide) (by omega) (fun c9 => ?_) (fun c9 => ?_)
  · refine q_iln M dX7_tune_18 (lv_at hl 2 rfl) ?_
    refine q_bp M dX7_tune_19 (by decide +kernel) ?_
    refine q_bp M dX7_tune_21 (by decide +kernel) ?_
    refine qc_iS (As := [.int (iI v), .int (iI (-12)), .int (iI 12)]) (rest := []) (wc := []) (wc2 := []) (ws2 := WMod cI cZ b (mset ν 0 (fun _ => 0))) M w hA hl (m_in l D cI cZ cJ v (-12) 12 (by omega)) gX7_tune_X7_in rfl ⟨rfl, rfl, by decide, by decide⟩ ⟨Nat.zero_le _, Nat.zero_le _⟩ 3 (by decide +kernel) rfl [] rfl rfl rfl (Nat.le_of_ble_eq_true rfl) rfl dX7_tune_23 (fun H locs w => ?_)
    have q23 := inF_c v (-12) 12
    refine q_if_ne (tgt := 35) M dX7_tune_26 (by decide) (by omega) (fun c26 => ?_) (fun c26 => ?_)
    · refine q_aln M dX7_tune_35 (lv_at hl 0 rfl) ?_
      refine q_get (v := .ref (b 2)) M w in7 0 2 rfl rfl (by decide) (by decide +kernel) rfl rfl dX7_tune_36 ?_
      refine q_iln M dX7_tune_39 (lv_at hl 1 rfl) ?_
      refine q_iald (f := ν 2) M w 2 0 rfl rfl (by omega) dX7_tune_40 ?_
      refine q_isn (lv' := [(3, .int (iI ((ν 2) s))), (0, .ref (b 0)), (1, .int (iI s)), (2, .int (iI v))]) M dX7_tune_41 rfl hl (by decide) rfl (fun ls hl => ?_)
      refine q_aln M dX7_tune_42 (lv_at hl 1 rfl) ?_
      refine q_get (v := .ref (b 2)) M w in7 0 2 rfl rfl (by decide) (by decide +kernel) rfl rfl dX7_tune_43 ?_
      refine q_iln M dX7_tune_46 (lv_at hl 2 rfl) ?_
      refine q_iln M dX7_tune_47 (lv_at hl 3 rfl) ?_
      refine q_iast (f := ν 2) (ws2 := WMod cI cZ b (mset (mset ν 0 (fun _ => 0)) 2 (iU (ν 2) s v))) M w 2 0 rfl rfl (by omega) rfl dX7_tune_48 (fun H locs w => ?_)
      refine q_iln M dX7_tune_49 (lv_at hl 0 rfl) ?_
      exact kret _ _ _ _ _ dX7_tune_50 w rfl
    · exfalso; omega
  · exfalso; omega

set_option maxHeartbeats 4000000 in
set_option maxRecDepth 100000 in
/-- tune -/
theorem m_tune_x (l : Launch) (D : va_G) (cI cZ cJ : ClassId) (b : Nat → Nat) (ν : Nat → Int → Int) (s v : Int) (hs : -2147483648 ≤ s ∧ s < 2147483648) (hv : -2147483648 ≤ v ∧ v < 2147483648)  (k : Int) (hk : (¬ (0 ≤ s ∧ s ≤ 7) ∧ k = 1) ∨ ((0 ≤ s ∧ s ≤ 7) ∧ ¬ (-12 ≤ v ∧ v ≤ 12) ∧ k = 2)) : Ci l D (tY cI cZ cJ) yX7_tune wsX7_tune rmX7_tune [.ref (b 0), .int (iI s), .int (iI v)] (WMod cI cZ b ν) (0) (WMod cI cZ b (mset ν 0 (fun _ => k))) := by
  refine qi_of (by decide +kernel) rfl (Nat.le_of_ble_eq_true rfl) ?_
  intro zp ze zs zm zargs zbelow zmeth zc A Q ls M hA w hl kret
  have hl : lv_has ls 4 [(0, .ref (b 0)), (1, .int (iI s)), (2, .int (iI v))] := hl
  have in7 : ∀ w ∈ u_ws RX7 TX7 31, w ∈ wsX7_tune := by decide +kernel
  refine q_aln M dX7_tune_0 (lv_at hl 0 rfl) ?_
  refine q_ic M dX7_tune_1 ?_
  refine q_put (ws2 := WMod cI cZ b (mset ν 0 (fun _ => 0))) M w in7 0 0 tyX7 tyX7_ok nmX7 rfl rfl (by decide) (by decide +kernel) rfl rfl rfl rfl (Nat.le_of_ble_eq_true rfl) rfl dX7_tune_2 (fun H locs w => ?_)
  refine q_iln M dX7_tune_5 (lv_at hl 1 rfl) ?_
  refine qc_iS (As := [.int (iI s)]) (rest := []) (wc := []) (wc2 := []) (ws2 := WMod cI cZ b (mset ν 0 (fun _ => 0))) M w hA hl (m_isSample l D cI cZ cJ s (by omega)) gX7_tune_X7_isSample rfl ⟨rfl, rfl, by decide, by decide⟩ ⟨Nat.zero_le _, Nat.zero_le _⟩ 1 (by decide +kernel) rfl [] rfl rfl rfl (Nat.le_of_ble_eq_true rfl) rfl dX7_tune_6 (fun H locs w => ?_)
  have q6 := inF_c s 0 7
  refine q_if_ne (tgt := 18) M dX7_tune_9 (by decide) (by omega) (fun c9 => ?_) (fun c9 => ?_)
  · refine q_iln M dX7_tune_18 (lv_at hl 2 rfl) ?_
    refine q_bp M dX7_tune_19 (by decide +kernel) ?_
    refine q_bp M dX7_tune_21 (by decide +kernel) ?_
    refine qc_iS (As := [.int (iI v), .int (iI (-12)), .int (iI 12)]) (rest := []) (wc := []) (wc2 := []) (ws2 := WMod cI cZ b (mset ν 0 (fun _ => 0))) M w hA hl (m_in l D cI cZ cJ v (-12) 12 (by omega)) gX7_tune_X7_in rfl ⟨rfl, rfl, by decide, by decide⟩ ⟨Nat.zero_le _, Nat.zero_le _⟩ 3 (by decide +kernel) rfl [] rfl rfl rfl (Nat.le_of_ble_eq_true rfl) rfl dX7_tune_23 (fun H locs w => ?_)
    have q23 := inF_c v (-12) 12
    refine q_if_ne (tgt := 35) M dX7_tune_26 (by decide) (by omega) (fun c26 => ?_) (fun c26 => ?_)
    · exfalso; omega
    · refine q_aln M dX7_tune_29 (lv_at hl 0 rfl) ?_
      refine q_ic M dX7_tune_30 ?_
      refine qc_iV (As := [.int (iI 2)]) (rest := []) (wc := WMod cI cZ b (mset ν 0 (fun _ => 0))) (wc2 := WMod cI cZ b (mset ν 0 (fun _ => 2))) (ws2 := WMod cI cZ b (mset ν 0 (fun _ => 2))) M w hA hl (m_fails l D cI cZ cJ b (mset ν 0 (fun _ => 0)) 2 ) gX7_tune_X7_fails rfl ⟨rfl, rfl, by decide, by decide⟩ ⟨Nat.zero_le _, Nat.zero_le _⟩ 1 ⟨rfl, by decide +kernel⟩ rfl [true, true, true, true, true, true, true, true, true, true, true, true, true, true, true, true, true, true, true, true, true] rfl rfl 0 rfl rfl rfl (Nat.le_of_ble_eq_true rfl) rfl dX7_tune_31 (fun H locs w => ?_)
      have hk1 : k = 2 := by omega
      subst hk1
      exact kret _ _ _ _ _ dX7_tune_34 w rfl
  · refine q_aln M dX7_tune_12 (lv_at hl 0 rfl) ?_
    refine q_ic M dX7_tune_13 ?_
    refine qc_iV (As := [.int (iI 1)]) (rest := []) (wc := WMod cI cZ b (mset ν 0 (fun _ => 0))) (wc2 := WMod cI cZ b (mset ν 0 (fun _ => 1))) (ws2 := WMod cI cZ b (mset ν 0 (fun _ => 1))) M w hA hl (m_fails l D cI cZ cJ b (mset ν 0 (fun _ => 0)) 1 ) gX7_tune_X7_fails rfl ⟨rfl, rfl, by decide, by decide⟩ ⟨Nat.zero_le _, Nat.zero_le _⟩ 1 ⟨rfl, by decide +kernel⟩ rfl [true, true, true, true, true, true, true, true, true, true, true, true, true, true, true, true, true, true, true, true, true] rfl rfl 0 rfl rfl rfl (Nat.le_of_ble_eq_true rfl) rfl dX7_tune_14 (fun H locs w => ?_)
    have hk1 : k = 1 := by omega
    subst hk1
    exact kret _ _ _ _ _ dX7_tune_17 w rfl

set_option maxHeartbeats 4000000 in
set_option maxRecDepth 100000 in
/-- setStep -/
theorem m_setStep (l : Launch) (D : va_G) (cI cZ cJ : ClassId) (b : Nat → Nat) (ν : Nat → Int → Int) (p t s x : Int) (hp : -2147483648 ≤ p ∧ p < 2147483648) (ht : -2147483648 ≤ t ∧ t < 2147483648) (hs : -2147483648 ≤ s ∧ s < 2147483648) (hx : -2147483648 ≤ x ∧ x < 2147483648) (h21 : ν 21 0 = 0 ∨ ν 21 0 = 1) (hok : (0 ≤ p ∧ p ≤ 11) ∧ (0 ≤ t ∧ t ≤ 3) ∧ (0 ≤ s ∧ s ≤ 15) ∧ (-1 ≤ x ∧ x ≤ 7) ∧ (ν 21 0 = 0)) : Ci l D (tY cI cZ cJ) yX7_setStep wsX7_setStep rmX7_setStep [.ref (b 0), .int (iI p), .int (iI t), .int (iI s), .int (iI x)] (WMod cI cZ b ν) (ν 3 ((p * 4 + t) * 16 + s)) (WMod cI cZ b (mset (mset ν 0 (fun _ => 0)) 3 (iU (ν 3) ((p * 4 + t) * 16 + s) x))) := by
  refine qi_of (by decide +kernel) rfl (Nat.le_of_ble_eq_true rfl) ?_
  intro zp ze zs zm zargs zbelow zmeth zc A Q ls M hA w hl kret
  have hl : lv_has ls 7 [(0, .ref (b 0)), (1, .int (iI p)), (2, .int (iI t)), (3, .int (iI s)), (4, .int (iI x))] := hl
  have in7 : ∀ w ∈ u_ws RX7 TX7 31, w ∈ wsX7_setStep := by decide +kernel
  refine q_aln M dX7_setStep_0 (lv_at hl 0 rfl) ?_
  refine q_ic M dX7_setStep_1 ?_
  refine q_put (ws2 := WMod cI cZ b (mset ν 0 (fun _ => 0))) M w in7 0 0 tyX7 tyX7_ok nmX7 rfl rfl (by decide) (by decide +kernel) rfl rfl rfl rfl (Nat.le_of_ble_eq_true rfl) rfl dX7_setStep_2 (fun H locs w => ?_)
  refine q_iln M dX7_setStep_5 (lv_at hl 1 rfl) ?_
  refine qc_iS (As := [.int (iI p)]) (rest := []) (wc := []) (wc2 := []) (ws2 := WMod cI cZ b (mset ν 0 (fun _ => 0))) M w hA hl (m_isPattern l D cI cZ cJ p (by omega)) gX7_setStep_X7_isPattern rfl ⟨rfl, rfl, by decide, by decide⟩ ⟨Nat.zero_le _, Nat.zero_le _⟩ 1 (by decide +kernel) rfl [] rfl rfl rfl (Nat.le_of_ble_eq_true rfl) rfl dX7_setStep_6 (fun H locs w => ?_)
  have q6 := inF_c p 0 11
  refine q_if_eq (tgt := 42) M dX7_setStep_9 (by decide) (by omega) (fun c9 => ?_) (fun c9 => ?_)
  · exfalso; omega
  · refine q_iln M dX7_setStep_12 (lv_at hl 2 rfl) ?_
    refine q_ic M dX7_setStep_13 ?_
    refine q_ic M dX7_setStep_14 ?_
    refine qc_iS (As := [.int (iI t), .int (iI 0), .int (iI 3)]) (rest := []) (wc := []) (wc2 := []) (ws2 := WMod cI cZ b (mset ν 0 (fun _ => 0))) M w hA hl (m_in l D cI cZ cJ t 0 3 (by omega)) gX7_setStep_X7_in rfl ⟨rfl, rfl, by decide, by decide⟩ ⟨Nat.zero_le _, Nat.zero_le _⟩ 3 (by decide +kernel) rfl [] rfl rfl rfl (Nat.le_of_ble_eq_true rfl) rfl dX7_setStep_15 (fun H locs w => ?_)
    have q15 := inF_c t 0 3
    refine q_if_eq (tgt := 42) M dX7_setStep_18 (by decide) (by omega) (fun c18 => ?_) (fun c18 => ?_)
    · exfalso; omega
    · refine q_iln M dX7_setStep_21 (lv_at hl 3 rfl) ?_
      refine q_ic M dX7_setStep_22 ?_
      refine q_bp M dX7_setStep_23 (by decide +kernel) ?_
      refine qc_iS (As := [.int (iI s), .int (iI 0), .int (iI 15)]) (rest := []) (wc := []) (wc2 := []) (ws2 := WMod cI cZ b (mset ν 0 (fun _ => 0))) M w hA hl (m_in l D cI cZ cJ s 0 15 (by omega)) gX7_setStep_X7_in rfl ⟨rfl, rfl, by decide, by decide⟩ ⟨Nat.zero_le _, Nat.zero_le _⟩ 3 (by decide +kernel) rfl [] rfl rfl rfl (Nat.le_of_ble_eq_true rfl) rfl dX7_setStep_25 (fun H locs w => ?_)
      have q25 := inF_c s 0 15
      refine q_if_eq (tgt := 42) M dX7_setStep_28 (by decide) (by omega) (fun c28 => ?_) (fun c28 => ?_)
      · exfalso; omega
      · refine q_il M dX7_setStep_31 (lv_at hl 4 rfl) ?_
        refine q_ic M dX7_setStep_33 ?_
        refine q_bp M dX7_setStep_34 (by decide +kernel) ?_
        refine qc_iS (As := [.int (iI x), .int (iI (-1)), .int (iI 7)]) (rest := []) (wc := []) (wc2 := []) (ws2 := WMod cI cZ b (mset ν 0 (fun _ => 0))) M w hA hl (m_in l D cI cZ cJ x (-1) 7 (by omega)) gX7_setStep_X7_in rfl ⟨rfl, rfl, by decide, by decide⟩ ⟨Nat.zero_le _, Nat.zero_le _⟩ 3 (by decide +kernel) rfl [] rfl rfl rfl (Nat.le_of_ble_eq_true rfl) rfl dX7_setStep_36 (fun H locs w => ?_)
        have q36 := inF_c x (-1) 7
        refine q_if_ne (tgt := 48) M dX7_setStep_39 (by decide) (by omega) (fun c39 => ?_) (fun c39 => ?_)
        · refine q_aln M dX7_setStep_48 (lv_at hl 0 rfl) ?_
          refine q_get (v := .int (iI (ν 21 0))) M w in7 0 21 rfl rfl (by decide) (by decide +kernel) rfl rfl dX7_setStep_49 ?_
          refine q_if_eq (tgt := 61) M dX7_setStep_52 (by decide) (by omega) (fun c52 => ?_) (fun c52 => ?_)
          · refine q_bp M dX7_setStep_61 (by decide +kernel) ?_
            refine q_iln M dX7_setStep_63 (lv_at hl 1 rfl) ?_
            refine q_mul M dX7_setStep_64 ?_
            refine q_bp M dX7_setStep_65 (by decide +kernel) ?_
            refine q_iln M dX7_setStep_67 (lv_at hl 2 rfl) ?_
            refine q_mul M dX7_setStep_68 ?_
            refine q_add M dX7_setStep_69 ?_
            refine q_iln M dX7_setStep_70 (lv_at hl 3 rfl) ?_
            refine q_add M dX7_setStep_71 ?_
            refine q_top (y := (p * 4 + t) * 16 + s) (by omega) ?_
            refine q_is (lv' := [(5, .int (iI ((p * 4 + t) * 16 + s))), (0, .ref (b 0)), (1, .int (iI p)), (2, .int (iI t)), (3, .int (iI s)), (4, .int (iI x))]) M dX7_setStep_72 hl (by decide) rfl (fun ls hl => ?_)
            refine q_aln M dX7_setStep_74 (lv_at hl 1 rfl) ?_
            refine q_get (v := .ref (b 3)) M w in7 0 3 rfl rfl (by decide) (by decide +kernel) rfl rfl dX7_setStep_75 ?_
            refine q_il M dX7_setStep_78 (lv_at hl 0 rfl) ?_
            refine q_iald (f := ν 3) M w 3 0 rfl rfl (by omega) dX7_setStep_80 ?_
            refine q_is (lv' := [(6, .int (iI ((ν 3) ((p * 4 + t) * 16 + s)))), (5, .int (iI ((p * 4 + t) * 16 + s))), (0, .ref (b 0)), (1, .int (iI p)), (2, .int (iI t)), (3, .int (iI s)), (4, .int (iI x))]) M dX7_setStep_81 hl (by decide) rfl (fun ls hl => ?_)
            refine q_aln M dX7_setStep_83 (lv_at hl 2 rfl) ?_
            refine q_get (v := .ref (b 3)) M w in7 0 3 rfl rfl (by decide) (by decide +kernel) rfl rfl dX7_setStep_84 ?_
            refine q_il M dX7_setStep_87 (lv_at hl 1 rfl) ?_
            refine q_il M dX7_setStep_89 (lv_at hl 6 rfl) ?_
            refine q_iast (f := ν 3) (ws2 := WMod cI cZ b (mset (mset ν 0 (fun _ => 0)) 3 (iU (ν 3) ((p * 4 + t) * 16 + s) x))) M w 3 0 rfl rfl (by omega) rfl dX7_setStep_91 (fun H locs w => ?_)
            refine q_il M dX7_setStep_92 (lv_at hl 0 rfl) ?_
            exact kret _ _ _ _ _ dX7_setStep_94 w rfl
          · exfalso; omega
        · exfalso; omega

set_option maxHeartbeats 4000000 in
set_option maxRecDepth 100000 in
/-- setStep -/
theorem m_setStep_x (l : Launch) (D : va_G) (cI cZ cJ : ClassId) (b : Nat → Nat) (ν : Nat → Int → Int) (p t s x : Int) (hp : -2147483648 ≤ p ∧ p < 2147483648) (ht : -2147483648 ≤ t ∧ t < 2147483648) (hs : -2147483648 ≤ s ∧ s < 2147483648) (hx : -2147483648 ≤ x ∧ x < 2147483648) (h21 : ν 21 0 = 0 ∨ ν 21 0 = 1) (k : Int) (hk : (¬ (0 ≤ p ∧ p ≤ 11) ∧ k = 1) ∨ ((0 ≤ p ∧ p ≤ 11) ∧ ¬ (0 ≤ t ∧ t ≤ 3) ∧ k = 1) ∨ ((0 ≤ p ∧ p ≤ 11) ∧ (0 ≤ t ∧ t ≤ 3) ∧ ¬ (0 ≤ s ∧ s ≤ 15) ∧ k = 1) ∨ ((0 ≤ p ∧ p ≤ 11) ∧ (0 ≤ t ∧ t ≤ 3) ∧ (0 ≤ s ∧ s ≤ 15) ∧ ¬ (-1 ≤ x ∧ x ≤ 7) ∧ k = 1) ∨ ((0 ≤ p ∧ p ≤ 11) ∧ (0 ≤ t ∧ t ≤ 3) ∧ (0 ≤ s ∧ s ≤ 15) ∧ (-1 ≤ x ∧ x ≤ 7) ∧ ¬ (ν 21 0 = 0) ∧ k = 2)) : Ci l D (tY cI cZ cJ) yX7_setStep wsX7_setStep rmX7_setStep [.ref (b 0), .int (iI p), .int (iI t), .int (iI s), .int (iI x)] (WMod cI cZ b ν) (0) (WMod cI cZ b (mset ν 0 (fun _ => k))) := by
  refine qi_of (by decide +kernel) rfl (Nat.le_of_ble_eq_true rfl) ?_
  intro zp ze zs zm zargs zbelow zmeth zc A Q ls M hA w hl kret
  have hl : lv_has ls 7 [(0, .ref (b 0)), (1, .int (iI p)), (2, .int (iI t)), (3, .int (iI s)), (4, .int (iI x))] := hl
  have in7 : ∀ w ∈ u_ws RX7 TX7 31, w ∈ wsX7_setStep := by decide +kernel
  refine q_aln M dX7_setStep_0 (lv_at hl 0 rfl) ?_
  refine q_ic M dX7_setStep_1 ?_
  refine q_put (ws2 := WMod cI cZ b (mset ν 0 (fun _ => 0))) M w in7 0 0 tyX7 tyX7_ok nmX7 rfl rfl (by decide) (by decide +kernel) rfl rfl rfl rfl (Nat.le_of_ble_eq_true rfl) rfl dX7_setStep_2 (fun H locs w => ?_)
  refine q_iln M dX7_setStep_5 (lv_at hl 1 rfl) ?_
  refine qc_iS (As := [.int (iI p)]) (rest := []) (wc := []) (wc2 := []) (ws2 := WMod cI cZ b (mset ν 0 (fun _ => 0))) M w hA hl (m_isPattern l D cI cZ cJ p (by omega)) gX7_setStep_X7_isPattern rfl ⟨rfl, rfl, by decide, by decide⟩ ⟨Nat.zero_le _, Nat.zero_le _⟩ 1 (by decide +kernel) rfl [] rfl rfl rfl (Nat.le_of_ble_eq_true rfl) rfl dX7_setStep_6 (fun H locs w => ?_)
  have q6 := inF_c p 0 11
  refine q_if_eq (tgt := 42) M dX7_setStep_9 (by decide) (by omega) (fun c9 => ?_) (fun c9 => ?_)
  · refine q_aln M dX7_setStep_42 (lv_at hl 0 rfl) ?_
    refine q_ic M dX7_setStep_43 ?_
    refine qc_iV (As := [.int (iI 1)]) (rest := []) (wc := WMod cI cZ b (mset ν 0 (fun _ => 0))) (wc2 := WMod cI cZ b (mset ν 0 (fun _ => 1))) (ws2 := WMod cI cZ b (mset ν 0 (fun _ => 1))) M w hA hl (m_fails l D cI cZ cJ b (mset ν 0 (fun _ => 0)) 1 ) gX7_setStep_X7_fails rfl ⟨rfl, rfl, by decide, by decide⟩ ⟨Nat.zero_le _, Nat.zero_le _⟩ 1 ⟨rfl, by decide +kernel⟩ rfl [true, true, true, true, true, true, true, true, true, true, true, true, true, true, true, true, true, true, true, true, true] rfl rfl 0 rfl rfl rfl (Nat.le_of_ble_eq_true rfl) rfl dX7_setStep_44 (fun H locs w => ?_)
    have hk1 : k = 1 := by omega
    subst hk1
    exact kret _ _ _ _ _ dX7_setStep_47 w rfl
  · refine q_iln M dX7_setStep_12 (lv_at hl 2 rfl) ?_
    refine q_ic M dX7_setStep_13 ?_
    refine q_ic M dX7_setStep_14 ?_
    refine qc_iS (As := [.int (iI t), .int (iI 0), .int (iI 3)]) (rest := []) (wc := []) (wc2 := []) (ws2 := WMod cI cZ b (mset ν 0 (fun _ => 0))) M w hA hl (m_in l D cI cZ cJ t 0 3 (by omega)) gX7_setStep_X7_in rfl ⟨rfl, rfl, by decide, by decide⟩ ⟨Nat.zero_le _, Nat.zero_le _⟩ 3 (by decide +kernel) rfl [] rfl rfl rfl (Nat.le_of_ble_eq_true rfl) rfl dX7_setStep_15 (fun H locs w => ?_)
    have q15 := inF_c t 0 3
    refine q_if_eq (tgt := 42) M dX7_setStep_18 (by decide) (by omega) (fun c18 => ?_) (fun c18 => ?_)
    · refine q_aln M dX7_setStep_42 (lv_at hl 0 rfl) ?_
      refine q_ic M dX7_setStep_43 ?_
      refine qc_iV (As := [.int (iI 1)]) (rest := []) (wc := WMod cI cZ b (mset ν 0 (fun _ => 0))) (wc2 := WMod cI cZ b (mset ν 0 (fun _ => 1))) (ws2 := WMod cI cZ b (mset ν 0 (fun _ => 1))) M w hA hl (m_fails l D cI cZ cJ b (mset ν 0 (fun _ => 0)) 1 ) gX7_setStep_X7_fails rfl ⟨rfl, rfl, by decide, by decide⟩ ⟨Nat.zero_le _, Nat.zero_le _⟩ 1 ⟨rfl, by decide +kernel⟩ rfl [true, true, true, true, true, true, true, true, true, true, true, true, true, true, true, true, true, true, true, true, true] rfl rfl 0 rfl rfl rfl (Nat.le_of_ble_eq_true rfl) rfl dX7_setStep_44 (fun H locs w => ?_)
      have hk1 : k = 1 := by omega
      subst hk1
      exact kret _ _ _ _ _ dX7_setStep_47 w rfl
    · refine q_iln M dX7_setStep_21 (lv_at hl 3 rfl) ?_
      refine q_ic M dX7_setStep_22 ?_
      refine q_bp M dX7_setStep_23 (by decide +kernel) ?_
      refine qc_iS (As := [.int (iI s), .int (iI 0), .int (iI 15)]) (rest := []) (wc := []) (wc2 := []) (ws2 := WMod cI cZ b (mset ν 0 (fun _ => 0))) M w hA hl (m_in l D cI cZ cJ s 0 15 (by omega)) gX7_setStep_X7_in rfl ⟨rfl, rfl, by decide, by decide⟩ ⟨Nat.zero_le _, Nat.zero_le _⟩ 3 (by decide +kernel) rfl [] rfl rfl rfl (Nat.le_of_ble_eq_true rfl) rfl dX7_setStep_25 (fun H locs w => ?_)
      have q25 := inF_c s 0 15
      refine q_if_eq (tgt := 42) M dX7_setStep_28 (by decide) (by omega) (fun c28 => ?_) (fun c28 => ?_)
      · refine q_aln M dX7_setStep_42 (lv_at hl 0 rfl) ?_
        refine q_ic M dX7_setStep_43 ?_
        refine qc_iV (As := [.int (iI 1)]) (rest := []) (wc := WMod cI cZ b (mset ν 0 (fun _ => 0))) (wc2 := WMod cI cZ b (mset ν 0 (fun _ => 1))) (ws2 := WMod cI cZ b (mset ν 0 (fun _ => 1))) M w hA hl (m_fails l D cI cZ cJ b (mset ν 0 (fun _ => 0)) 1 ) gX7_setStep_X7_fails rfl ⟨rfl, rfl, by decide, by decide⟩ ⟨Nat.zero_le _, Nat.zero_le _⟩ 1 ⟨rfl, by decide +kernel⟩ rfl [true, true, true, true, true, true, true, true, true, true, true, true, true, true, true, true, true, true, true, true, true] rfl rfl 0 rfl rfl rfl (Nat.le_of_ble_eq_true rfl) rfl dX7_setStep_44 (fun H locs w => ?_)
        have hk1 : k = 1 := by omega
        subst hk1
        exact kret _ _ _ _ _ dX7_setStep_47 w rfl
      · refine q_il M dX7_setStep_31 (lv_at hl 4 rfl) ?_
        refine q_ic M dX7_setStep_33 ?_
        refine q_bp M dX7_setStep_34 (by decide +kernel) ?_
        refine qc_iS (As := [.int (iI x), .int (iI (-1)), .int (iI 7)]) (rest := []) (wc := []) (wc2 := []) (ws2 := WMod cI cZ b (mset ν 0 (fun _ => 0))) M w hA hl (m_in l D cI cZ cJ x (-1) 7 (by omega)) gX7_setStep_X7_in rfl ⟨rfl, rfl, by decide, by decide⟩ ⟨Nat.zero_le _, Nat.zero_le _⟩ 3 (by decide +kernel) rfl [] rfl rfl rfl (Nat.le_of_ble_eq_true rfl) rfl dX7_setStep_36 (fun H locs w => ?_)
        have q36 := inF_c x (-1) 7
        refine q_if_ne (tgt := 48) M dX7_setStep_39 (by decide) (by omega) (fun c39 => ?_) (fun c39 => ?_)
        · refine q_aln M dX7_setStep_48 (lv_at hl 0 rfl) ?_
          refine q_get (v := .int (iI (ν 21 0))) M w in7 0 21 rfl rfl (by decide) (by decide +kernel) rfl rfl dX7_setStep_49 ?_
          refine q_if_eq (tgt := 61) M dX7_setStep_52 (by decide) (by omega) (fun c52 => ?_) (fun c52 => ?_)
          · exfalso; omega
          · refine q_aln M dX7_setStep_55 (lv_at hl 0 rfl) ?_
            refine q_ic M dX7_setStep_56 ?_
            refine qc_iV (As := [.int (iI 2)]) (rest := []) (wc := WMod cI cZ b (mset ν 0 (fun _ => 0))) (wc2 := WMod cI cZ b (mset ν 0 (fun _ => 2))) (ws2 := WMod cI cZ b (mset ν 0 (fun _ => 2))) M w hA hl (m_fails l D cI cZ cJ b (mset ν 0 (fun _ => 0)) 2 ) gX7_setStep_X7_fails rfl ⟨rfl, rfl, by decide, by decide⟩ ⟨Nat.zero_le _, Nat.zero_le _⟩ 1 ⟨rfl, by decide +kernel⟩ rfl [true, true, true, true, true, true, true, true, true, true, true, true, true, true, true, true, true, true, true, true, true] rfl rfl 0 rfl rfl rfl (Nat.le_of_ble_eq_true rfl) rfl dX7_setStep_57 (fun H locs w => ?_)
            have hk1 : k = 2 := by omega
            subst hk1
            exact kret _ _ _ _ _ dX7_setStep_60 w rfl
        · refine q_aln M dX7_setStep_42 (lv_at hl 0 rfl) ?_
          refine q_ic M dX7_setStep_43 ?_
          refine qc_iV (As := [.int (iI 1)]) (rest := []) (wc := WMod cI cZ b (mset ν 0 (fun _ => 0))) (wc2 := WMod cI cZ b (mset ν 0 (fun _ => 1))) (ws2 := WMod cI cZ b (mset ν 0 (fun _ => 1))) M w hA hl (m_fails l D cI cZ cJ b (mset ν 0 (fun _ => 0)) 1 ) gX7_setStep_X7_fails rfl ⟨rfl, rfl, by decide, by decide⟩ ⟨Nat.zero_le _, Nat.zero_le _⟩ 1 ⟨rfl, by decide +kernel⟩ rfl [true, true, true, true, true, true, true, true, true, true, true, true, true, true, true, true, true, true, true, true, true] rfl rfl 0 rfl rfl rfl (Nat.le_of_ble_eq_true rfl) rfl dX7_setStep_44 (fun H locs w => ?_)
          have hk1 : k = 1 := by omega
          subst hk1
          exact kret _ _ _ _ _ dX7_setStep_47 w rfl

set_option maxHeartbeats 4000000 in
set_option maxRecDepth 100000 in
/-- setFill -/
theorem m_setFill (l : Launch) (D : va_G) (cI cZ cJ : ClassId) (b : Nat → Nat) (ν : Nat → Int → Int) (p t s x : Int) (hp : -2147483648 ≤ p ∧ p < 2147483648) (ht : -2147483648 ≤ t ∧ t < 2147483648) (hs : -2147483648 ≤ s ∧ s < 2147483648) (hx : -2147483648 ≤ x ∧ x < 2147483648) (h21 : ν 21 0 = 0 ∨ ν 21 0 = 1) (hok : (0 ≤ p ∧ p ≤ 11) ∧ (0 ≤ t ∧ t ≤ 3) ∧ (12 ≤ s ∧ s ≤ 15) ∧ (-1 ≤ x ∧ x ≤ 7) ∧ (ν 21 0 = 0)) : Ci l D (tY cI cZ cJ) yX7_setFill wsX7_setFill rmX7_setFill [.ref (b 0), .int (iI p), .int (iI t), .int (iI s), .int (iI x)] (WMod cI cZ b ν) (ν 4 ((p * 4 + t) * 4 + s - 12)) (WMod cI cZ b (mset (mset ν 0 (fun _ => 0)) 4 (iU (ν 4) ((p * 4 + t) * 4 + s - 12) x))) := by
  refine qi_of (by decide +kernel) rfl (Nat.le_of_ble_eq_true rfl) ?_
  intro zp ze zs zm zargs zbelow zmeth zc A Q ls M hA w hl kret
  have hl : lv_has ls 7 [(0, .ref (b 0)), (1, .int (iI p)), (2, .int (iI t)), (3, .int (iI s)), (4, .int (iI x))] := hl
  have in7 : ∀ w ∈ u_ws RX7 TX7 31, w ∈ wsX7_setFill := by decide +kernel
  refine q_aln M dX7_setFill_0 (lv_at hl 0 rfl) ?_
  refine q_ic M dX7_setFill_1 ?_
  refine q_put (ws2 := WMod cI cZ b (mset ν 0 (fun _ => 0))) M w in7 0 0 tyX7 tyX7_ok nmX7 rfl rfl (by decide) (by decide +kernel) rfl rfl rfl rfl (Nat.le_of_ble_eq_true rfl) rfl dX7_setFill_2 (fun H locs w => ?_)
  refine q_iln M dX7_setFill_5 (lv_at hl 1 rfl) ?_
  refine qc_iS (As := [.int (iI p)]) (rest := []) (wc := []) (wc2 := []) (ws2 := WMod cI cZ b (mset ν 0 (fun _ => 0))) M w hA hl (m_isPattern l D cI cZ cJ p (by omega)) gX7_setFill_X7_isPattern rfl ⟨rfl, rfl, by decide, by decide⟩ ⟨Nat.zero_le _, Nat.zero_le _⟩ 1 (by decide +kernel) rfl [] rfl rfl rfl (Nat.le_of_ble_eq_true rfl) rfl dX7_setFill_6 (fun H locs w => ?_)
  have q6 := inF_c p 0 11
  refine q_if_eq (tgt := 43) M dX7_setFill_9 (by decide) (by omega) (fun c9 => ?_) (fun c9 => ?_)
  · exfalso; omega
  · refine q_iln M dX7_setFill_12 (lv_at hl 2 rfl) ?_
    refine q_ic M dX7_setFill_13 ?_
    refine q_ic M dX7_setFill_14 ?_
    refine qc_iS (As := [.int (iI t), .int (iI 0), .int (iI 3)]) (rest := []) (wc := []) (wc2 := []) (ws2 := WMod cI cZ b (mset ν 0 (fun _ => 0))) M w hA hl (m_in l D cI cZ cJ t 0 3 (by omega)) gX7_setFill_X7_in rfl ⟨rfl, rfl, by decide, by decide⟩ ⟨Nat.zero_le _, Nat.zero_le _⟩ 3 (by decide +kernel) rfl [] rfl rfl rfl (Nat.le_of_ble_eq_true rfl) rfl dX7_setFill_15 (fun H locs w => ?_)
    have q15 := inF_c t 0 3
    refine q_if_eq (tgt := 43) M dX7_setFill_18 (by decide) (by omega) (fun c18 => ?_) (fun c18 => ?_)
    · exfalso; omega
    · refine q_iln M dX7_setFill_21 (lv_at hl 3 rfl) ?_
      refine q_bp M dX7_setFill_22 (by decide +kernel) ?_
      refine q_bp M dX7_setFill_24 (by decide +kernel) ?_
      refine qc_iS (As := [.int (iI s), .int (iI 12), .int (iI 15)]) (rest := []) (wc := []) (wc2 := []) (ws2 := WMod cI cZ b (mset ν 0 (fun _ => 0))) M w hA hl (m_in l D cI cZ cJ s 12 15 (by omega)) gX7_setFill_X7_in rfl ⟨rfl, rfl, by decide, by decide⟩ ⟨Nat.zero_le _, Nat.zero_le _⟩ 3 (by decide +kernel) rfl [] rfl rfl rfl (Nat.le_of_ble_eq_true rfl) rfl dX7_setFill_26 (fun H locs w => ?_)
      have q26 := inF_c s 12 15
      refine q_if_eq (tgt := 43) M dX7_setFill_29 (by decide) (by omega) (fun c29 => ?_) (fun c29 => ?_)
      · exfalso; omega
      · refine q_il M dX7_setFill_32 (lv_at hl 4 rfl) ?_
        refine q_ic M dX7_setFill_34 ?_
        refine q_bp M dX7_setFill_35 (by decide +kernel) ?_
        refine qc_iS (As := [.int (iI x), .int (iI (-1)), .int (iI 7)]) (rest := []) (wc := []) (wc2 := []) (ws2 := WMod cI cZ b (mset ν 0 (fun _ => 0))) M w hA hl (m_in l D cI cZ cJ x (-1) 7 (by omega)) gX7_setFill_X7_in rfl ⟨rfl, rfl, by decide, by decide⟩ ⟨Nat.zero_le _, Nat.zero_le _⟩ 3 (by decide +kernel) rfl [] rfl rfl rfl (Nat.le_of_ble_eq_true rfl) rfl dX7_setFill_37 (fun H locs w => ?_)
        have q37 := inF_c x (-1) 7
        refine q_if_ne (tgt := 49) M dX7_setFill_40 (by decide) (by omega) (fun c40 => ?_) (fun c40 => ?_)
        · refine q_aln M dX7_setFill_49 (lv_at hl 0 rfl) ?_
          refine q_get (v := .int (iI (ν 21 0))) M w in7 0 21 rfl rfl (by decide) (by decide +kernel) rfl rfl dX7_setFill_50 ?_
          refine q_if_eq (tgt := 62) M dX7_setFill_53 (by decide) (by omega) (fun c53 => ?_) (fun c53 => ?_)
          · refine q_bp M dX7_setFill_62 (by decide +kernel) ?_
            refine q_iln M dX7_setFill_64 (lv_at hl 1 rfl) ?_
            refine q_mul M dX7_setFill_65 ?_
            refine q_ic M dX7_setFill_66 ?_
            refine q_iln M dX7_setFill_67 (lv_at hl 2 rfl) ?_
            refine q_mul M dX7_setFill_68 ?_
            refine q_add M dX7_setFill_69 ?_
            refine q_iln M dX7_setFill_70 (lv_at hl 3 rfl) ?_
            refine q_add M dX7_setFill_71 ?_
            refine q_bp M dX7_setFill_72 (by decide +kernel) ?_
            refine q_sub M dX7_setFill_74 ?_
            refine q_top (y := (p * 4 + t) * 4 + s - 12) (by omega) ?_
            refine q_is (lv' := [(5, .int (iI ((p * 4 + t) * 4 + s - 12))), (0, .ref (b 0)), (1, .int (iI p)), (2, .int (iI t)), (3, .int (iI s)), (4, .int (iI x))]) M dX7_setFill_75 hl (by decide) rfl (fun ls hl => ?_)
            refine q_aln M dX7_setFill_77 (lv_at hl 1 rfl) ?_
            refine q_get (v := .ref (b 4)) M w in7 0 4 rfl rfl (by decide) (by decide +kernel) rfl rfl dX7_setFill_78 ?_
            refine q_il M dX7_setFill_81 (lv_at hl 0 rfl) ?_
            refine q_iald (f := ν 4) M w 4 0 rfl rfl (by omega) dX7_setFill_83 ?_
            refine q_is (lv' := [(6, .int (iI ((ν 4) ((p * 4 + t) * 4 + s - 12)))), (5, .int (iI ((p * 4 + t) * 4 + s - 12))), (0, .ref (b 0)), (1, .int (iI p)), (2, .int (iI t)), (3, .int (iI s)), (4, .int (iI x))]) M dX7_setFill_84 hl (by decide) rfl (fun ls hl => ?_)
            refine q_aln M dX7_setFill_86 (lv_at hl 2 rfl) ?_
            refine q_get (v := .ref (b 4)) M w in7 0 4 rfl rfl (by decide) (by decide +kernel) rfl rfl dX7_setFill_87 ?_
            refine q_il M dX7_setFill_90 (lv_at hl 1 rfl) ?_
            refine q_il M dX7_setFill_92 (lv_at hl 6 rfl) ?_
            refine q_iast (f := ν 4) (ws2 := WMod cI cZ b (mset (mset ν 0 (fun _ => 0)) 4 (iU (ν 4) ((p * 4 + t) * 4 + s - 12) x))) M w 4 0 rfl rfl (by omega) rfl dX7_setFill_94 (fun H locs w => ?_)
            refine q_il M dX7_setFill_95 (lv_at hl 0 rfl) ?_
            exact kret _ _ _ _ _ dX7_setFill_97 w rfl
          · exfalso; omega
        · exfalso; omega

set_option maxHeartbeats 4000000 in
set_option maxRecDepth 100000 in
/-- setFill -/
theorem m_setFill_x (l : Launch) (D : va_G) (cI cZ cJ : ClassId) (b : Nat → Nat) (ν : Nat → Int → Int) (p t s x : Int) (hp : -2147483648 ≤ p ∧ p < 2147483648) (ht : -2147483648 ≤ t ∧ t < 2147483648) (hs : -2147483648 ≤ s ∧ s < 2147483648) (hx : -2147483648 ≤ x ∧ x < 2147483648) (h21 : ν 21 0 = 0 ∨ ν 21 0 = 1) (k : Int) (hk : (¬ (0 ≤ p ∧ p ≤ 11) ∧ k = 1) ∨ ((0 ≤ p ∧ p ≤ 11) ∧ ¬ (0 ≤ t ∧ t ≤ 3) ∧ k = 1) ∨ ((0 ≤ p ∧ p ≤ 11) ∧ (0 ≤ t ∧ t ≤ 3) ∧ ¬ (12 ≤ s ∧ s ≤ 15) ∧ k = 1) ∨ ((0 ≤ p ∧ p ≤ 11) ∧ (0 ≤ t ∧ t ≤ 3) ∧ (12 ≤ s ∧ s ≤ 15) ∧ ¬ (-1 ≤ x ∧ x ≤ 7) ∧ k = 1) ∨ ((0 ≤ p ∧ p ≤ 11) ∧ (0 ≤ t ∧ t ≤ 3) ∧ (12 ≤ s ∧ s ≤ 15) ∧ (-1 ≤ x ∧ x ≤ 7) ∧ ¬ (ν 21 0 = 0) ∧ k = 2)) : Ci l D (tY cI cZ cJ) yX7_setFill wsX7_setFill rmX7_setFill [.ref (b 0), .int (iI p), .int (iI t), .int (iI s), .int (iI x)] (WMod cI cZ b ν) (0) (WMod cI cZ b (mset ν 0 (fun _ => k))) := by
  refine qi_of (by decide +kernel) rfl (Nat.le_of_ble_eq_true rfl) ?_
  intro zp ze zs zm zargs zbelow zmeth zc A Q ls M hA w hl kret
  have hl : lv_has ls 7 [(0, .ref (b 0)), (1, .int (iI p)), (2, .int (iI t)), (3, .int (iI s)), (4, .int (iI x))] := hl
  have in7 : ∀ w ∈ u_ws RX7 TX7 31, w ∈ wsX7_setFill := by decide +kernel
  refine q_aln M dX7_setFill_0 (lv_at hl 0 rfl) ?_
  refine q_ic M dX7_setFill_1 ?_
  refine q_put (ws2 := WMod cI cZ b (mset ν 0 (fun _ => 0))) M w in7 0 0 tyX7 tyX7_ok nmX7 rfl rfl (by decide) (by decide +kernel) rfl rfl rfl rfl (Nat.le_of_ble_eq_true rfl) rfl dX7_setFill_2 (fun H locs w => ?_)
  refine q_iln M dX7_setFill_5 (lv_at hl 1 rfl) ?_
  refine qc_iS (As := [.int (iI p)]) (rest := []) (wc := []) (wc2 := []) (ws2 := WMod cI cZ b (mset ν 0 (fun _ => 0))) M w hA hl (m_isPattern l D cI cZ cJ p (by omega)) gX7_setFill_X7_isPattern rfl ⟨rfl, rfl, by decide, by decide⟩ ⟨Nat.zero_le _, Nat.zero_le _⟩ 1 (by decide +kernel) rfl [] rfl rfl rfl (Nat.le_of_ble_eq_true rfl) rfl dX7_setFill_6 (fun H locs w => ?_)
  have q6 := inF_c p 0 11
  refine q_if_eq (tgt := 43) M dX7_setFill_9 (by decide) (by omega) (fun c9 => ?_) (fun c9 => ?_)
  · refine q_aln M dX7_setFill_43 (lv_at hl 0 rfl) ?_
    refine q_ic M dX7_setFill_44 ?_
    refine qc_iV (As := [.int (iI 1)]) (rest := []) (wc := WMod cI cZ b (mset ν 0 (fun _ => 0))) (wc2 := WMod cI cZ b (mset ν 0 (fun _ => 1))) (ws2 := WMod cI cZ b (mset ν 0 (fun _ => 1))) M w hA hl (m_fails l D cI cZ cJ b (mset ν 0 (fun _ => 0)) 1 ) gX7_setFill_X7_fails rfl ⟨rfl, rfl, by decide, by decide⟩ ⟨Nat.zero_le _, Nat.zero_le _⟩ 1 ⟨rfl, by decide +kernel⟩ rfl [true, true, true, true, true, true, true, true, true, true, true, true, true, true, true, true, true, true, true, true, true] rfl rfl 0 rfl rfl rfl (Nat.le_of_ble_eq_true rfl) rfl dX7_setFill_45 (fun H locs w => ?_)
    have hk1 : k = 1 := by omega
    subst hk1
    exact kret _ _ _ _ _ dX7_setFill_48 w rfl
  · refine q_iln M dX7_setFill_12 (lv_at hl 2 rfl) ?_
    refine q_ic M dX7_setFill_13 ?_
    refine q_ic M dX7_setFill_14 ?_
    refine qc_iS (As := [.int (iI t), .int (iI 0), .int (iI 3)]) (rest := []) (wc := []) (wc2 := []) (ws2 := WMod cI cZ b (mset ν 0 (fun _ => 0))) M w hA hl (m_in l D cI cZ cJ t 0 3 (by omega)) gX7_setFill_X7_in rfl ⟨rfl, rfl, by decide, by decide⟩ ⟨Nat.zero_le _, Nat.zero_le _⟩ 3 (by decide +kernel) rfl [] rfl rfl rfl (Nat.le_of_ble_eq_true rfl) rfl dX7_setFill_15 (fun H locs w => ?_)
    have q15 := inF_c t 0 3
    refine q_if_eq (tgt := 43) M dX7_setFill_18 (by decide) (by omega) (fun c18 => ?_) (fun c18 => ?_)
    · refine q_aln M dX7_setFill_43 (lv_at hl 0 rfl) ?_
      refine q_ic M dX7_setFill_44 ?_
      refine qc_iV (As := [.int (iI 1)]) (rest := []) (wc := WMod cI cZ b (mset ν 0 (fun _ => 0))) (wc2 := WMod cI cZ b (mset ν 0 (fun _ => 1))) (ws2 := WMod cI cZ b (mset ν 0 (fun _ => 1))) M w hA hl (m_fails l D cI cZ cJ b (mset ν 0 (fun _ => 0)) 1 ) gX7_setFill_X7_fails rfl ⟨rfl, rfl, by decide, by decide⟩ ⟨Nat.zero_le _, Nat.zero_le _⟩ 1 ⟨rfl, by decide +kernel⟩ rfl [true, true, true, true, true, true, true, true, true, true, true, true, true, true, true, true, true, true, true, true, true] rfl rfl 0 rfl rfl rfl (Nat.le_of_ble_eq_true rfl) rfl dX7_setFill_45 (fun H locs w => ?_)
      have hk1 : k = 1 := by omega
      subst hk1
      exact kret _ _ _ _ _ dX7_setFill_48 w rfl
    · refine q_iln M dX7_setFill_21 (lv_at hl 3 rfl) ?_
      refine q_bp M dX7_setFill_22 (by decide +kernel) ?_
      refine q_bp M dX7_setFill_24 (by decide +kernel) ?_
      refine qc_iS (As := [.int (iI s), .int (iI 12), .int (iI 15)]) (rest := []) (wc := []) (wc2 := []) (ws2 := WMod cI cZ b (mset ν 0 (fun _ => 0))) M w hA hl (m_in l D cI cZ cJ s 12 15 (by omega)) gX7_setFill_X7_in rfl ⟨rfl, rfl, by decide, by decide⟩ ⟨Nat.zero_le _, Nat.zero_le _⟩ 3 (by decide +kernel) rfl [] rfl rfl rfl (Nat.le_of_ble_eq_true rfl) rfl dX7_setFill_26 (fun H locs w => ?_)
      have q26 := inF_c s 12 15
      refine q_if_eq (tgt := 43) M dX7_setFill_29 (by decide) (by omega) (fun c29 => ?_) (fun c29 => ?_)
      · refine q_aln M dX7_setFill_43 (lv_at hl 0 rfl) ?_
        refine q_ic M dX7_setFill_44 ?_
        refine qc_iV (As := [.int (iI 1)]) (rest := []) (wc := WMod cI cZ b (mset ν 0 (fun _ => 0))) (wc2 := WMod cI cZ b (mset ν 0 (fun _ => 1))) (ws2 := WMod cI cZ b (mset ν 0 (fun _ => 1))) M w hA hl (m_fails l D cI cZ cJ b (mset ν 0 (fun _ => 0)) 1 ) gX7_setFill_X7_fails rfl ⟨rfl, rfl, by decide, by decide⟩ ⟨Nat.zero_le _, Nat.zero_le _⟩ 1 ⟨rfl, by decide +kernel⟩ rfl [true, true, true, true, true, true, true, true, true, true, true, true, true, true, true, true, true, true, true, true, true] rfl rfl 0 rfl rfl rfl (Nat.le_of_ble_eq_true rfl) rfl dX7_setFill_45 (fun H locs w => ?_)
        have hk1 : k = 1 := by omega
        subst hk1
        exact kret _ _ _ _ _ dX7_setFill_48 w rfl
      · refine q_il M dX7_setFill_32 (lv_at hl 4 rfl) ?_
        refine q_ic M dX7_setFill_34 ?_
        refine q_bp M dX7_setFill_35 (by decide +kernel) ?_
        refine qc_iS (As := [.int (iI x), .int (iI (-1)), .int (iI 7)]) (rest := []) (wc := []) (wc2 := []) (ws2 := WMod cI cZ b (mset ν 0 (fun _ => 0))) M w hA hl (m_in l D cI cZ cJ x (-1) 7 (by omega)) gX7_setFill_X7_in rfl ⟨rfl, rfl, by decide, by decide⟩ ⟨Nat.zero_le _, Nat.zero_le _⟩ 3 (by decide +kernel) rfl [] rfl rfl rfl (Nat.le_of_ble_eq_true rfl) rfl dX7_setFill_37 (fun H locs w => ?_)
        have q37 := inF_c x (-1) 7
        refine q_if_ne (tgt := 49) M dX7_setFill_40 (by decide) (by omega) (fun c40 => ?_) (fun c40 => ?_)
        · refine q_aln M dX7_setFill_49 (lv_at hl 0 rfl) ?_
          refine q_get (v := .int (iI (ν 21 0))) M w in7 0 21 rfl rfl (by decide) (by decide +kernel) rfl rfl dX7_setFill_50 ?_
          refine q_if_eq (tgt := 62) M dX7_setFill_53 (by decide) (by omega) (fun c53 => ?_) (fun c53 => ?_)
          · exfalso; omega
          · refine q_aln M dX7_setFill_56 (lv_at hl 0 rfl) ?_
            refine q_ic M dX7_setFill_57 ?_
            refine qc_iV (As := [.int (iI 2)]) (rest := []) (wc := WMod cI cZ b (mset ν 0 (fun _ => 0))) (wc2 := WMod cI cZ b (mset ν 0 (fun _ => 2))) (ws2 := WMod cI cZ b (mset ν 0 (fun _ => 2))) M w hA hl (m_fails l D cI cZ cJ b (mset ν 0 (fun _ => 0)) 2 ) gX7_setFill_X7_fails rfl ⟨rfl, rfl, by decide, by decide⟩ ⟨Nat.zero_le _, Nat.zero_le _⟩ 1 ⟨rfl, by decide +kernel⟩ rfl [true, true, true, true, true, true, true, true, true, true, true, true, true, true, true, true, true, true, true, true, true] rfl rfl 0 rfl rfl rfl (Nat.le_of_ble_eq_true rfl) rfl dX7_setFill_58 (fun H locs w => ?_)
            have hk1 : k = 2 := by omega
            subst hk1
            exact kret _ _ _ _ _ dX7_setFill_61 w rfl
        · refine q_aln M dX7_setFill_43 (lv_at hl 0 rfl) ?_
          refine q_ic M dX7_setFill_44 ?_
          refine qc_iV (As := [.int (iI 1)]) (rest := []) (wc := WMod cI cZ b (mset ν 0 (fun _ => 0))) (wc2 := WMod cI cZ b (mset ν 0 (fun _ => 1))) (ws2 := WMod cI cZ b (mset ν 0 (fun _ => 1))) M w hA hl (m_fails l D cI cZ cJ b (mset ν 0 (fun _ => 0)) 1 ) gX7_setFill_X7_fails rfl ⟨rfl, rfl, by decide, by decide⟩ ⟨Nat.zero_le _, Nat.zero_le _⟩ 1 ⟨rfl, by decide +kernel⟩ rfl [true, true, true, true, true, true, true, true, true, true, true, true, true, true, true, true, true, true, true, true, true] rfl rfl 0 rfl rfl rfl (Nat.le_of_ble_eq_true rfl) rfl dX7_setFill_45 (fun H locs w => ?_)
          have hk1 : k = 1 := by omega
          subst hk1
          exact kret _ _ _ _ _ dX7_setFill_48 w rfl

set_option maxHeartbeats 4000000 in
set_option maxRecDepth 100000 in
/-- setFeel -/
theorem m_setFeel (l : Launch) (D : va_G) (cI cZ cJ : ClassId) (b : Nat → Nat) (ν : Nat → Int → Int) (p x u : Int) (hp : -2147483648 ≤ p ∧ p < 2147483648) (hx : -2147483648 ≤ x ∧ x < 2147483648) (hu : -2147483648 ≤ u ∧ u < 2147483648) (h21 : ν 21 0 = 0 ∨ ν 21 0 = 1) (hok : (0 ≤ p ∧ p ≤ 11) ∧ (0 ≤ x ∧ x ≤ 6) ∧ (u = 0 ∨ 2 ≤ u ∧ u ≤ 8) ∧ (ν 21 0 = 0)) : Ci l D (tY cI cZ cJ) yX7_setFeel wsX7_setFeel rmX7_setFeel [.ref (b 0), .int (iI p), .int (iI x), .int (iI u)] (WMod cI cZ b ν) (ν 5 p) (WMod cI cZ b (mset (mset (mset ν 0 (fun _ => 0)) 5 (iU (ν 5) p x)) 6 (iU (ν 6) p u))) := by
  refine qi_of (by decide +kernel) rfl (Nat.le_of_ble_eq_true rfl) ?_
  intro zp ze zs zm zargs zbelow zmeth zc A Q ls M hA w hl kret
  have hl : lv_has ls 5 [(0, .ref (b 0)), (1, .int (iI p)), (2, .int (iI x)), (3, .int (iI u))] := hl
  have in7 : ∀ w ∈ u_ws RX7 TX7 31, w ∈ wsX7_setFeel := by decide +kernel
  refine q_aln M dX7_setFeel_0 (lv_at hl 0 rfl) ?_
  refine q_ic M dX7_setFeel_1 ?_
  refine q_put (ws2 := WMod cI cZ b (mset ν 0 (fun _ => 0))) M w in7 0 0 tyX7 tyX7_ok nmX7 rfl rfl (by decide) (by decide +kernel) rfl rfl rfl rfl (Nat.le_of_ble_eq_true rfl) rfl dX7_setFeel_2 (fun H locs w => ?_)
  refine q_iln M dX7_setFeel_5 (lv_at hl 1 rfl) ?_
  refine qc_iS (As := [.int (iI p)]) (rest := []) (wc := []) (wc2 := []) (ws2 := WMod cI cZ b (mset ν 0 (fun _ => 0))) M w hA hl (m_isPattern l D cI cZ cJ p (by omega)) gX7_setFeel_X7_isPattern rfl ⟨rfl, rfl, by decide, by decide⟩ ⟨Nat.zero_le _, Nat.zero_le _⟩ 1 (by decide +kernel) rfl [] rfl rfl rfl (Nat.le_of_ble_eq_true rfl) rfl dX7_setFeel_6 (fun H locs w => ?_)
  have q6 := inF_c p 0 11
  refine q_if_ne (tgt := 18) M dX7_setFeel_9 (by decide) (by omega) (fun c9 => ?_) (fun c9 => ?_)
  · refine q_iln M dX7_setFeel_18 (lv_at hl 2 rfl) ?_
    refine q_ic M dX7_setFeel_19 ?_
    refine q_bp M dX7_setFeel_20 (by decide +kernel) ?_
    refine qc_iS (As := [.int (iI x), .int (iI 0), .int (iI 6)]) (rest := []) (wc := []) (wc2 := []) (ws2 := WMod cI cZ b (mset ν 0 (fun _ => 0))) M w hA hl (m_in l D cI cZ cJ x 0 6 (by omega)) gX7_setFeel_X7_in rfl ⟨rfl, rfl, by decide, by decide⟩ ⟨Nat.zero_le _, Nat.zero_le _⟩ 3 (by decide +kernel) rfl [] rfl rfl rfl (Nat.le_of_ble_eq_true rfl) rfl dX7_setFeel_22 (fun H locs w => ?_)
    have q22 := inF_c x 0 6
    refine q_if_eq (tgt := 42) M dX7_setFeel_25 (by decide) (by omega) (fun c25 => ?_) (fun c25 => ?_)
    · exfalso; omega
    · refine q_iln M dX7_setFeel_28 (lv_at hl 3 rfl) ?_
      refine q_if_eq (tgt := 48) M dX7_setFeel_29 (by decide) (by omega) (fun c29 => ?_) (fun c29 => ?_)
      · refine q_aln M dX7_setFeel_48 (lv_at hl 0 rfl) ?_
        refine q_get (v := .int (iI (ν 21 0))) M w in7 0 21 rfl rfl (by decide) (by decide +kernel) rfl rfl dX7_setFeel_49 ?_
        refine q_if_eq (tgt := 61) M dX7_setFeel_52 (by decide) (by omega) (fun c52 => ?_) (fun c52 => ?_)
        · refine q_aln M dX7_setFeel_61 (lv_at hl 0 rfl) ?_
          refine q_get (v := .ref (b 5)) M w in7 0 5 rfl rfl (by decide) (by decide +kernel) rfl rfl dX7_setFeel_62 ?_
          refine q_iln M dX7_setFeel_65 (lv_at hl 1 rfl) ?_
          refine q_iald (f := ν 5) M w 5 0 rfl rfl (by omega) dX7_setFeel_66 ?_
          refine q_is (lv' := [(4, .int (iI ((ν 5) p))), (0, .ref (b 0)), (1, .int (iI p)), (2, .int (iI x)), (3, .int (iI u))]) M dX7_setFeel_67 hl (by decide) rfl (fun ls hl => ?_)
          refine q_aln M dX7_setFeel_69 (lv_at hl 1 rfl) ?_
          refine q_get (v := .ref (b 5)) M w in7 0 5 rfl rfl (by decide) (by decide +kernel) rfl rfl dX7_setFeel_70 ?_
          refine q_iln M dX7_setFeel_73 (lv_at hl 2 rfl) ?_
          refine q_iln M dX7_setFeel_74 (lv_at hl 3 rfl) ?_
          refine q_iast (f := ν 5) (ws2 := WMod cI cZ b (mset (mset ν 0 (fun _ => 0)) 5 (iU (ν 5) p x))) M w 5 0 rfl rfl (by omega) rfl dX7_setFeel_75 (fun H locs w => ?_)
          refine q_aln M dX7_setFeel_76 (lv_at hl 1 rfl) ?_
          refine q_get (v := .ref (b 6)) M w in7 0 6 rfl rfl (by decide) (by decide +kernel) rfl rfl dX7_setFeel_77 ?_
          refine q_iln M dX7_setFeel_80 (lv_at hl 2 rfl) ?_
          refine q_iln M dX7_setFeel_81 (lv_at hl 4 rfl) ?_
          refine q_iast (f := ν 6) (ws2 := WMod cI cZ b (mset (mset (mset ν 0 (fun _ => 0)) 5 (iU (ν 5) p x)) 6 (iU (ν 6) p u))) M w 6 0 rfl rfl (by omega) rfl dX7_setFeel_82 (fun H locs w => ?_)
          refine q_il M dX7_setFeel_83 (lv_at hl 0 rfl) ?_
          exact kret _ _ _ _ _ dX7_setFeel_85 w rfl
        · exfalso; omega
      · refine q_iln M dX7_setFeel_32 (lv_at hl 3 rfl) ?_
        refine q_ic M dX7_setFeel_33 ?_
        refine q_bp M dX7_setFeel_34 (by decide +kernel) ?_
        refine qc_iS (As := [.int (iI u), .int (iI 2), .int (iI 8)]) (rest := []) (wc := []) (wc2 := []) (ws2 := WMod cI cZ b (mset ν 0 (fun _ => 0))) M w hA hl (m_in l D cI cZ cJ u 2 8 (by omega)) gX7_setFeel_X7_in rfl ⟨rfl, rfl, by decide, by decide⟩ ⟨Nat.zero_le _, Nat.zero_le _⟩ 3 (by decide +kernel) rfl [] rfl rfl rfl (Nat.le_of_ble_eq_true rfl) rfl dX7_setFeel_36 (fun H locs w => ?_)
        have q36 := inF_c u 2 8
        refine q_if_ne (tgt := 48) M dX7_setFeel_39 (by decide) (by omega) (fun c39 => ?_) (fun c39 => ?_)
        · refine q_aln M dX7_setFeel_48 (lv_at hl 0 rfl) ?_
          refine q_get (v := .int (iI (ν 21 0))) M w in7 0 21 rfl rfl (by decide) (by decide +kernel) rfl rfl dX7_setFeel_49 ?_
          refine q_if_eq (tgt := 61) M dX7_setFeel_52 (by decide) (by omega) (fun c52 => ?_) (fun c52 => ?_)
          · refine q_aln M dX7_setFeel_61 (lv_at hl 0 rfl) ?_
            refine q_get (v := .ref (b 5)) M w in7 0 5 rfl rfl (by decide) (by decide +kernel) rfl rfl dX7_setFeel_62 ?_
            refine q_iln M dX7_setFeel_65 (lv_at hl 1 rfl) ?_
            refine q_iald (f := ν 5) M w 5 0 rfl rfl (by omega) dX7_setFeel_66 ?_
            refine q_is (lv' := [(4, .int (iI ((ν 5) p))), (0, .ref (b 0)), (1, .int (iI p)), (2, .int (iI x)), (3, .int (iI u))]) M dX7_setFeel_67 hl (by decide) rfl (fun ls hl => ?_)
            refine q_aln M dX7_setFeel_69 (lv_at hl 1 rfl) ?_
            refine q_get (v := .ref (b 5)) M w in7 0 5 rfl rfl (by decide) (by decide +kernel) rfl rfl dX7_setFeel_70 ?_
            refine q_iln M dX7_setFeel_73 (lv_at hl 2 rfl) ?_
            refine q_iln M dX7_setFeel_74 (lv_at hl 3 rfl) ?_
            refine q_iast (f := ν 5) (ws2 := WMod cI cZ b (mset (mset ν 0 (fun _ => 0)) 5 (iU (ν 5) p x))) M w 5 0 rfl rfl (by omega) rfl dX7_setFeel_75 (fun H locs w => ?_)
            refine q_aln M dX7_setFeel_76 (lv_at hl 1 rfl) ?_
            refine q_get (v := .ref (b 6)) M w in7 0 6 rfl rfl (by decide) (by decide +kernel) rfl rfl dX7_setFeel_77 ?_
            refine q_iln M dX7_setFeel_80 (lv_at hl 2 rfl) ?_
            refine q_iln M dX7_setFeel_81 (lv_at hl 4 rfl) ?_
            refine q_iast (f := ν 6) (ws2 := WMod cI cZ b (mset (mset (mset ν 0 (fun _ => 0)) 5 (iU (ν 5) p x)) 6 (iU (ν 6) p u))) M w 6 0 rfl rfl (by omega) rfl dX7_setFeel_82 (fun H locs w => ?_)
            refine q_il M dX7_setFeel_83 (lv_at hl 0 rfl) ?_
            exact kret _ _ _ _ _ dX7_setFeel_85 w rfl
          · exfalso; omega
        · exfalso; omega
  · exfalso; omega

set_option maxHeartbeats 4000000 in
set_option maxRecDepth 100000 in
/-- setFeel -/
theorem m_setFeel_x (l : Launch) (D : va_G) (cI cZ cJ : ClassId) (b : Nat → Nat) (ν : Nat → Int → Int) (p x u : Int) (hp : -2147483648 ≤ p ∧ p < 2147483648) (hx : -2147483648 ≤ x ∧ x < 2147483648) (hu : -2147483648 ≤ u ∧ u < 2147483648) (h21 : ν 21 0 = 0 ∨ ν 21 0 = 1) (k : Int) (hk : (¬ (0 ≤ p ∧ p ≤ 11) ∧ k = 1) ∨ ((0 ≤ p ∧ p ≤ 11) ∧ ¬ (0 ≤ x ∧ x ≤ 6) ∧ k = 2) ∨ ((0 ≤ p ∧ p ≤ 11) ∧ (0 ≤ x ∧ x ≤ 6) ∧ ¬ (u = 0 ∨ 2 ≤ u ∧ u ≤ 8) ∧ k = 2) ∨ ((0 ≤ p ∧ p ≤ 11) ∧ (0 ≤ x ∧ x ≤ 6) ∧ (u = 0 ∨ 2 ≤ u ∧ u ≤ 8) ∧ ¬ (ν 21 0 = 0) ∧ k = 3)) : Ci l D (tY cI cZ cJ) yX7_setFeel wsX7_setFeel rmX7_setFeel [.ref (b 0), .int (iI p), .int (iI x), .int (iI u)] (WMod cI cZ b ν) (0) (WMod cI cZ b (mset ν 0 (fun _ => k))) := by
  refine qi_of (by decide +kernel) rfl (Nat.le_of_ble_eq_true rfl) ?_
  intro zp ze zs zm zargs zbelow zmeth zc A Q ls M hA w hl kret
  have hl : lv_has ls 5 [(0, .ref (b 0)), (1, .int (iI p)), (2, .int (iI x)), (3, .int (iI u))] := hl
  have in7 : ∀ w ∈ u_ws RX7 TX7 31, w ∈ wsX7_setFeel := by decide +kernel
  refine q_aln M dX7_setFeel_0 (lv_at hl 0 rfl) ?_
  refine q_ic M dX7_setFeel_1 ?_
  refine q_put (ws2 := WMod cI cZ b (mset ν 0 (fun _ => 0))) M w in7 0 0 tyX7 tyX7_ok nmX7 rfl rfl (by decide) (by decide +kernel) rfl rfl rfl rfl (Nat.le_of_ble_eq_true rfl) rfl dX7_setFeel_2 (fun H locs w => ?_)
  refine q_iln M dX7_setFeel_5 (lv_at hl 1 rfl) ?_
  refine qc_iS (As := [.int (iI p)]) (rest := []) (wc := []) (wc2 := []) (ws2 := WMod cI cZ b (mset ν 0 (fun _ => 0))) M w hA hl (m_isPattern l D cI cZ cJ p (by omega)) gX7_setFeel_X7_isPattern rfl ⟨rfl, rfl, by decide, by decide⟩ ⟨Nat.zero_le _, Nat.zero_le _⟩ 1 (by decide +kernel) rfl [] rfl rfl rfl (Nat.le_of_ble_eq_true rfl) rfl dX7_setFeel_6 (fun H locs w => ?_)
  have q6 := inF_c p 0 11
  refine q_if_ne (tgt := 18) M dX7_setFeel_9 (by decide) (by omega) (fun c9 => ?_) (fun c9 => ?_)
  · refine q_iln M dX7_setFeel_18 (lv_at hl 2 rfl) ?_
    refine q_ic M dX7_setFeel_19 ?_
    refine q_bp M dX7_setFeel_20 (by decide +kernel) ?_
    refine qc_iS (As := [.int (iI x), .int (iI 0), .int (iI 6)]) (rest := []) (wc := []) (wc2 := []) (ws2 := WMod cI cZ b (mset ν 0 (fun _ => 0))) M w hA hl (m_in l D cI cZ cJ x 0 6 (by omega)) gX7_setFeel_X7_in rfl ⟨rfl, rfl, by decide, by decide⟩ ⟨Nat.zero_le _, Nat.zero_le _⟩ 3 (by decide +kernel) rfl [] rfl rfl rfl (Nat.le_of_ble_eq_true rfl) rfl dX7_setFeel_22 (fun H locs w => ?_)
    have q22 := inF_c x 0 6
    refine q_if_eq (tgt := 42) M dX7_setFeel_25 (by decide) (by omega) (fun c25 => ?_) (fun c25 => ?_)
    · refine q_aln M dX7_setFeel_42 (lv_at hl 0 rfl) ?_
      refine q_ic M dX7_setFeel_43 ?_
      refine qc_iV (As := [.int (iI 2)]) (rest := []) (wc := WMod cI cZ b (mset ν 0 (fun _ => 0))) (wc2 := WMod cI cZ b (mset ν 0 (fun _ => 2))) (ws2 := WMod cI cZ b (mset ν 0 (fun _ => 2))) M w hA hl (m_fails l D cI cZ cJ b (mset ν 0 (fun _ => 0)) 2 ) gX7_setFeel_X7_fails rfl ⟨rfl, rfl, by decide, by decide⟩ ⟨Nat.zero_le _, Nat.zero_le _⟩ 1 ⟨rfl, by decide +kernel⟩ rfl [true, true, true, true, true, true, true, true, true, true, true, true, true, true, true, true, true, true, true, true, true] rfl rfl 0 rfl rfl rfl (Nat.le_of_ble_eq_true rfl) rfl dX7_setFeel_44 (fun H locs w => ?_)
      have hk1 : k = 2 := by omega
      subst hk1
      exact kret _ _ _ _ _ dX7_setFeel_47 w rfl
    · refine q_iln M dX7_setFeel_28 (lv_at hl 3 rfl) ?_
      refine q_if_eq (tgt := 48) M dX7_setFeel_29 (by decide) (by omega) (fun c29 => ?_) (fun c29 => ?_)
      · refine q_aln M dX7_setFeel_48 (lv_at hl 0 rfl) ?_
        refine q_get (v := .int (iI (ν 21 0))) M w in7 0 21 rfl rfl (by decide) (by decide +kernel) rfl rfl dX7_setFeel_49 ?_
        refine q_if_eq (tgt := 61) M dX7_setFeel_52 (by decide) (by omega) (fun c52 => ?_) (fun c52 => ?_)
        · exfalso; omega
        · refine q_aln M dX7_setFeel_55 (lv_at hl 0 rfl) ?_
          refine q_ic M dX7_setFeel_56 ?_
          refine qc_iV (As := [.int (iI 3)]) (rest := []) (wc := WMod cI cZ b (mset ν 0 (fun _ => 0))) (wc2 := WMod cI cZ b (mset ν 0 (fun _ => 3))) (ws2 := WMod cI cZ b (mset ν 0 (fun _ => 3))) M w hA hl (m_fails l D cI cZ cJ b (mset ν 0 (fun _ => 0)) 3 ) gX7_setFeel_X7_fails rfl ⟨rfl, rfl, by decide, by decide⟩ ⟨Nat.zero_le _, Nat.zero_le _⟩ 1 ⟨rfl, by decide +kernel⟩ rfl [true, true, true, true, true, true, true, true, true, true, true, true, true, true, true, true, true, true, true, true, true] rfl rfl 0 rfl rfl rfl (Nat.le_of_ble_eq_true rfl) rfl dX7_setFeel_57 (fun H locs w => ?_)
          have hk1 : k = 3 := by omega
          subst hk1
          exact kret _ _ _ _ _ dX7_setFeel_60 w rfl
      · refine q_iln M dX7_setFeel_32 (lv_at hl 3 rfl) ?_
        refine q_ic M dX7_setFeel_33 ?_
        refine q_bp M dX7_setFeel_34 (by decide +kernel) ?_
        refine qc_iS (As := [.int (iI u), .int (iI 2), .int (iI 8)]) (rest := []) (wc := []) (wc2 := []) (ws2 := WMod cI cZ b (mset ν 0 (fun _ => 0))) M w hA hl (m_in l D cI cZ cJ u 2 8 (by omega)) gX7_setFeel_X7_in rfl ⟨rfl, rfl, by decide, by decide⟩ ⟨Nat.zero_le _, Nat.zero_le _⟩ 3 (by decide +kernel) rfl [] rfl rfl rfl (Nat.le_of_ble_eq_true rfl) rfl dX7_setFeel_36 (fun H locs w => ?_)
        have q36 := inF_c u 2 8
        refine q_if_ne (tgt := 48) M dX7_setFeel_39 (by decide) (by omega) (fun c39 => ?_) (fun c39 => ?_)
        · refine q_aln M dX7_setFeel_48 (lv_at hl 0 rfl) ?_
          refine q_get (v := .int (iI (ν 21 0))) M w in7 0 21 rfl rfl (by decide) (by decide +kernel) rfl rfl dX7_setFeel_49 ?_
          refine q_if_eq (tgt := 61) M dX7_setFeel_52 (by decide) (by omega) (fun c52 => ?_) (fun c52 => ?_)
          · exfalso; omega
          · refine q_aln M dX7_setFeel_55 (lv_at hl 0 rfl) ?_
            refine q_ic M dX7_setFeel_56 ?_
            refine qc_iV (As := [.int (iI 3)]) (rest := []) (wc := WMod cI cZ b (mset ν 0 (fun _ => 0))) (wc2 := WMod cI cZ b (mset ν 0 (fun _ => 3))) (ws2 := WMod cI cZ b (mset ν 0 (fun _ => 3))) M w hA hl (m_fails l D cI cZ cJ b (mset ν 0 (fun _ => 0)) 3 ) gX7_setFeel_X7_fails rfl ⟨rfl, rfl, by decide, by decide⟩ ⟨Nat.zero_le _, Nat.zero_le _⟩ 1 ⟨rfl, by decide +kernel⟩ rfl [true, true, true, true, true, true, true, true, true, true, true, true, true, true, true, true, true, true, true, true, true] rfl rfl 0 rfl rfl rfl (Nat.le_of_ble_eq_true rfl) rfl dX7_setFeel_57 (fun H locs w => ?_)
            have hk1 : k = 3 := by omega
            subst hk1
            exact kret _ _ _ _ _ dX7_setFeel_60 w rfl
        · refine q_aln M dX7_setFeel_42 (lv_at hl 0 rfl) ?_
          refine q_ic M dX7_setFeel_43 ?_
          refine qc_iV (As := [.int (iI 2)]) (rest := []) (wc := WMod cI cZ b (mset ν 0 (fun _ => 0))) (wc2 := WMod cI cZ b (mset ν 0 (fun _ => 2))) (ws2 := WMod cI cZ b (mset ν 0 (fun _ => 2))) M w hA hl (m_fails l D cI cZ cJ b (mset ν 0 (fun _ => 0)) 2 ) gX7_setFeel_X7_fails rfl ⟨rfl, rfl, by decide, by decide⟩ ⟨Nat.zero_le _, Nat.zero_le _⟩ 1 ⟨rfl, by decide +kernel⟩ rfl [true, true, true, true, true, true, true, true, true, true, true, true, true, true, true, true, true, true, true, true, true] rfl rfl 0 rfl rfl rfl (Nat.le_of_ble_eq_true rfl) rfl dX7_setFeel_44 (fun H locs w => ?_)
          have hk1 : k = 2 := by omega
          subst hk1
          exact kret _ _ _ _ _ dX7_setFeel_47 w rfl
  · refine q_aln M dX7_setFeel_12 (lv_at hl 0 rfl) ?_
    refine q_ic M dX7_setFeel_13 ?_
    refine qc_iV (As := [.int (iI 1)]) (rest := []) (wc := WMod cI cZ b (mset ν 0 (fun _ => 0))) (wc2 := WMod cI cZ b (mset ν 0 (fun _ => 1))) (ws2 := WMod cI cZ b (mset ν 0 (fun _ => 1))) M w hA hl (m_fails l D cI cZ cJ b (mset ν 0 (fun _ => 0)) 1 ) gX7_setFeel_X7_fails rfl ⟨rfl, rfl, by decide, by decide⟩ ⟨Nat.zero_le _, Nat.zero_le _⟩ 1 ⟨rfl, by decide +kernel⟩ rfl [true, true, true, true, true, true, true, true, true, true, true, true, true, true, true, true, true, true, true, true, true] rfl rfl 0 rfl rfl rfl (Nat.le_of_ble_eq_true rfl) rfl dX7_setFeel_14 (fun H locs w => ?_)
    have hk1 : k = 1 := by omega
    subst hk1
    exact kret _ _ _ _ _ dX7_setFeel_17 w rfl

set_option maxHeartbeats 4000000 in
set_option maxRecDepth 100000 in
/-- addToSet -/
theorem m_addToSet (l : Launch) (D : va_G) (cI cZ cJ : ClassId) (b : Nat → Nat) (ν : Nat → Int → Int) (s : Int) (hs : -2147483648 ≤ s ∧ s < 2147483648) (h21 : ν 21 0 = 0 ∨ ν 21 0 = 1) (h14 : 0 ≤ ν 14 0 ∧ ν 14 0 ≤ 8) (hok : (0 ≤ s ∧ s ≤ 5) ∧ (ν 14 0 ≠ 8 ∧ ν 21 0 = 0)) : Ci l D (tY cI cZ cJ) yX7_addToSet wsX7_addToSet rmX7_addToSet [.ref (b 0), .int (iI s)] (WMod cI cZ b ν) (ν 14 0 + 1) (WMod cI cZ b (mset (mset (mset ν 0 (fun _ => 0)) 14 (fun _ => ν 14 0 + 1)) 15 (iU (ν 15) (ν 14 0) s))) := by
  refine qi_of (by decide +kernel) rfl (Nat.le_of_ble_eq_true rfl) ?_
  intro zp ze zs zm zargs zbelow zmeth zc A Q ls M hA w hl kret
  have hl : lv_has ls 2 [(0, .ref (b 0)), (1, .int (iI s))] := hl
  have in7 : ∀ w ∈ u_ws RX7 TX7 31, w ∈ wsX7_addToSet := by decide +kernel
  refine q_aln M dX7_addToSet_0 (lv_at hl 0 rfl) ?_
  refine q_ic M dX7_addToSet_1 ?_
  refine q_put (ws2 := WMod cI cZ b (mset ν 0 (fun _ => 0))) M w in7 0 0 tyX7 tyX7_ok nmX7 rfl rfl (by decide) (by decide +kernel) rfl rfl rfl rfl (Nat.le_of_ble_eq_true rfl) rfl dX7_addToSet_2 (fun H locs w => ?_)
  refine q_iln M dX7_addToSet_5 (lv_at hl 1 rfl) ?_
  refine qc_iS (As := [.int (iI s)]) (rest := []) (wc := []) (wc2 := []) (ws2 := WMod cI cZ b (mset ν 0 (fun _ => 0))) M w hA hl (m_isSong l D cI cZ cJ s (by omega)) gX7_addToSet_X7_isSong rfl ⟨rfl, rfl, by decide, by decide⟩ ⟨Nat.zero_le _, Nat.zero_le _⟩ 1 (by decide +kernel) rfl [] rfl rfl rfl (Nat.le_of_ble_eq_true rfl) rfl dX7_addToSet_6 (fun H locs w => ?_)
  have q6 := inF_c s 0 5
  refine q_if_ne (tgt := 18) M dX7_addToSet_9 (by decide) (by omega) (fun c9 => ?_) (fun c9 => ?_)
  · refine q_aln M dX7_addToSet_18 (lv_at hl 0 rfl) ?_
    refine q_get (v := .int (iI (ν 14 0))) M w in7 0 14 rfl rfl (by decide) (by decide +kernel) rfl rfl dX7_addToSet_19 ?_
    refine q_bp M dX7_addToSet_22 (by decide +kernel) ?_
    refine q_icmp_eq (tgt := 34) M dX7_addToSet_24 (by decide) (by omega) (fun c24 => ?_) (fun c24 => ?_)
    · exfalso; omega
    · refine q_aln M dX7_addToSet_27 (lv_at hl 0 rfl) ?_
      refine q_get (v := .int (iI (ν 21 0))) M w in7 0 21 rfl rfl (by decide) (by decide +kernel) rfl rfl dX7_addToSet_28 ?_
      refine q_if_eq (tgt := 40) M dX7_addToSet_31 (by decide) (by omega) (fun c31 => ?_) (fun c31 => ?_)
      · refine q_aln M dX7_addToSet_40 (lv_at hl 0 rfl) ?_
        refine q_get (v := .ref (b 15)) M w in7 0 15 rfl rfl (by decide) (by decide +kernel) rfl rfl dX7_addToSet_41 ?_
        refine q_aln M dX7_addToSet_44 (lv_at hl 0 rfl) ?_
        refine q_get (v := .int (iI (ν 14 0))) M w in7 0 14 rfl rfl (by decide) (by decide +kernel) rfl rfl dX7_addToSet_45 ?_
        refine q_iln M dX7_addToSet_48 (lv_at hl 1 rfl) ?_
        refine q_iast (f := ν 15) (ws2 := WMod cI cZ b (mset (mset ν 0 (fun _ => 0)) 15 (iU (ν 15) (ν 14 0) s))) M w 14 0 rfl rfl (by omega) rfl dX7_addToSet_49 (fun H locs w => ?_)
        refine q_aln M dX7_addToSet_50 (lv_at hl 0 rfl) ?_
        refine q_dup M dX7_addToSet_51 rfl ?_
        refine q_get (v := .int (iI (ν 14 0))) M w in7 0 14 rfl rfl (by decide) (by decide +kernel) rfl rfl dX7_addToSet_52 ?_
        refine q_ic M dX7_addToSet_55 ?_
        refine q_add M dX7_addToSet_56 ?_
        refine q_put (ws2 := WMod cI cZ b (mset (mset (mset ν 0 (fun _ => 0)) 14 (fun _ => (ν 14 0) + 1)) 15 (iU (ν 15) (ν 14 0) s))) M w in7 0 14 tyX7 tyX7_ok nmX7 rfl rfl (by decide) (by decide +kernel) rfl rfl rfl rfl (Nat.le_of_ble_eq_true rfl) rfl dX7_addToSet_57 (fun H locs w => ?_)
        refine q_aln M dX7_addToSet_60 (lv_at hl 0 rfl) ?_
        refine q_get (v := .int (iI ((ν 14 0) + 1))) M w in7 0 14 rfl rfl (by decide) (by decide +kernel) rfl rfl dX7_addToSet_61 ?_
        exact kret _ _ _ _ _ dX7_addToSet_64 w rfl
      · exfalso; omega
  · exfalso; omega

set_option maxHeartbeats 4000000 in
set_option maxRecDepth 100000 in
/-- addToSet -/
theorem m_addToSet_x (l : Launch) (D : va_G) (cI cZ cJ : ClassId) (b : Nat → Nat) (ν : Nat → Int → Int) (s : Int) (hs : -2147483648 ≤ s ∧ s < 2147483648) (h21 : ν 21 0 = 0 ∨ ν 21 0 = 1) (h14 : 0 ≤ ν 14 0 ∧ ν 14 0 ≤ 8) (k : Int) (hk : (¬ (0 ≤ s ∧ s ≤ 5) ∧ k = 1) ∨ ((0 ≤ s ∧ s ≤ 5) ∧ ¬ (ν 14 0 ≠ 8 ∧ ν 21 0 = 0) ∧ k = 2)) : Ci l D (tY cI cZ cJ) yX7_addToSet wsX7_addToSet rmX7_addToSet [.ref (b 0), .int (iI s)] (WMod cI cZ b ν) (0) (WMod cI cZ b (mset ν 0 (fun _ => k))) := by
  refine qi_of (by decide +kernel) rfl (Nat.le_of_ble_eq_true rfl) ?_
  intro zp ze zs zm zargs zbelow zmeth zc A Q ls M hA w hl kret
  have hl : lv_has ls 2 [(0, .ref (b 0)), (1, .int (iI s))] := hl
  have in7 : ∀ w ∈ u_ws RX7 TX7 31, w ∈ wsX7_addToSet := by decide +kernel
  refine q_aln M dX7_addToSet_0 (lv_at hl 0 rfl) ?_
  refine q_ic M dX7_addToSet_1 ?_
  refine q_put (ws2 := WMod cI cZ b (mset ν 0 (fun _ => 0))) M w in7 0 0 tyX7 tyX7_ok nmX7 rfl rfl (by decide) (by decide +kernel) rfl rfl rfl rfl (Nat.le_of_ble_eq_true rfl) rfl dX7_addToSet_2 (fun H locs w => ?_)
  refine q_iln M dX7_addToSet_5 (lv_at hl 1 rfl) ?_
  refine qc_iS (As := [.int (iI s)]) (rest := []) (wc := []) (wc2 := []) (ws2 := WMod cI cZ b (mset ν 0 (fun _ => 0))) M w hA hl (m_isSong l D cI cZ cJ s (by omega)) gX7_addToSet_X7_isSong rfl ⟨rfl, rfl, by decide, by decide⟩ ⟨Nat.zero_le _, Nat.zero_le _⟩ 1 (by decide +kernel) rfl [] rfl rfl rfl (Nat.le_of_ble_eq_true rfl) rfl dX7_addToSet_6 (fun H locs w => ?_)
  have q6 := inF_c s 0 5
  refine q_if_ne (tgt := 18) M dX7_addToSet_9 (by decide) (by omega) (fun c9 => ?_) (fun c9 => ?_)
  · refine q_aln M dX7_addToSet_18 (lv_at hl 0 rfl) ?_
    refine q_get (v := .int (iI (ν 14 0))) M w in7 0 14 rfl rfl (by decide) (by decide +kernel) rfl rfl dX7_addToSet_19 ?_
    refine q_bp M dX7_addToSet_22 (by decide +kernel) ?_
    refine q_icmp_eq (tgt := 34) M dX7_addToSet_24 (by decide) (by omega) (fun c24 => ?_) (fun c24 => ?_)
    · refine q_aln M dX7_addToSet_34 (lv_at hl 0 rfl) ?_
      refine q_ic M dX7_addToSet_35 ?_
      refine qc_iV (As := [.int (iI 2)]) (rest := []) (wc := WMod cI cZ b (mset ν 0 (fun _ => 0))) (wc2 := WMod cI cZ b (mset ν 0 (fun _ => 2))) (ws2 := WMod cI cZ b (mset ν 0 (fun _ => 2))) M w hA hl (m_fails l D cI cZ cJ b (mset ν 0 (fun _ => 0)) 2 ) gX7_addToSet_X7_fails rfl ⟨rfl, rfl, by decide, by decide⟩ ⟨Nat.zero_le _, Nat.zero_le _⟩ 1 ⟨rfl, by decide +kernel⟩ rfl [true, true, true, true, true, true, true, true, true, true, true, true, true, true, true, true, true, true, true, true, true] rfl rfl 0 rfl rfl rfl (Nat.le_of_ble_eq_true rfl) rfl dX7_addToSet_36 (fun H locs w => ?_)
      have hk1 : k = 2 := by omega
      subst hk1
      exact kret _ _ _ _ _ dX7_addToSet_39 w rfl
    · refine q_aln M dX7_addToSet_27 (lv_at hl 0 rfl) ?_
      refine q_get (v := .int (iI (ν 21 0))) M w in7 0 21 rfl rfl (by decide) (by decide +kernel) rfl rfl dX7_addToSet_28 ?_
      refine q_if_eq (tgt := 40) M dX7_addToSet_31 (by decide) (by omega) (fun c31 => ?_) (fun c31 => ?_)
      · exfalso; omega
      · refine q_aln M dX7_addToSet_34 (lv_at hl 0 rfl) ?_
        refine q_ic M dX7_addToSet_35 ?_
        refine qc_iV (As := [.int (iI 2)]) (rest := []) (wc := WMod cI cZ b (mset ν 0 (fun _ => 0))) (wc2 := WMod cI cZ b (mset ν 0 (fun _ => 2))) (ws2 := WMod cI cZ b (mset ν 0 (fun _ => 2))) M w hA hl (m_fails l D cI cZ cJ b (mset ν 0 (fun _ => 0)) 2 ) gX7_addToSet_X7_fails rfl ⟨rfl, rfl, by decide, by decide⟩ ⟨Nat.zero_le _, Nat.zero_le _⟩ 1 ⟨rfl, by decide +kernel⟩ rfl [true, true, true, true, true, true, true, true, true, true, true, true, true, true, true, true, true, true, true, true, true] rfl rfl 0 rfl rfl rfl (Nat.le_of_ble_eq_true rfl) rfl dX7_addToSet_36 (fun H locs w => ?_)
        have hk1 : k = 2 := by omega
        subst hk1
        exact kret _ _ _ _ _ dX7_addToSet_39 w rfl
  · refine q_aln M dX7_addToSet_12 (lv_at hl 0 rfl) ?_
    refine q_ic M dX7_addToSet_13 ?_
    refine qc_iV (As := [.int (iI 1)]) (rest := []) (wc := WMod cI cZ b (mset ν 0 (fun _ => 0))) (wc2 := WMod cI cZ b (mset ν 0 (fun _ => 1))) (ws2 := WMod cI cZ b (mset ν 0 (fun _ => 1))) M w hA hl (m_fails l D cI cZ cJ b (mset ν 0 (fun _ => 0)) 1 ) gX7_addToSet_X7_fails rfl ⟨rfl, rfl, by decide, by decide⟩ ⟨Nat.zero_le _, Nat.zero_le _⟩ 1 ⟨rfl, by decide +kernel⟩ rfl [true, true, true, true, true, true, true, true, true, true, true, true, true, true, true, true, true, true, true, true, true] rfl rfl 0 rfl rfl rfl (Nat.le_of_ble_eq_true rfl) rfl dX7_addToSet_14 (fun H locs w => ?_)
    have hk1 : k = 1 := by omega
    subst hk1
    exact kret _ _ _ _ _ dX7_addToSet_17 w rfl

set_option maxHeartbeats 4000000 in
set_option maxRecDepth 100000 in
/-- clearSet -/
theorem m_clearSet (l : Launch) (D : va_G) (cI cZ cJ : ClassId) (b : Nat → Nat) (ν : Nat → Int → Int) (h21 : ν 21 0 = 0 ∨ ν 21 0 = 1) (hok : (ν 21 0 = 0)) : Ci l D (tY cI cZ cJ) yX7_clearSet wsX7_clearSet rmX7_clearSet [.ref (b 0)] (WMod cI cZ b ν) (ν 14 0) (WMod cI cZ b (mset (mset ν 0 (fun _ => 0)) 14 (fun _ => 0))) := by
  refine qi_of (by decide +kernel) rfl (Nat.le_of_ble_eq_true rfl) ?_
  intro zp ze zs zm zargs zbelow zmeth zc A Q ls M hA w hl kret
  have hl : lv_has ls 2 [(0, .ref (b 0))] := hl
  have in7 : ∀ w ∈ u_ws RX7 TX7 31, w ∈ wsX7_clearSet := by decide +kernel
  refine q_aln M dX7_clearSet_0 (lv_at hl 0 rfl) ?_
  refine q_ic M dX7_clearSet_1 ?_
  refine q_put (ws2 := WMod cI cZ b (mset ν 0 (fun _ => 0))) M w in7 0 0 tyX7 tyX7_ok nmX7 rfl rfl (by decide) (by decide +kernel) rfl rfl rfl rfl (Nat.le_of_ble_eq_true rfl) rfl dX7_clearSet_2 (fun H locs w => ?_)
  refine q_aln M dX7_clearSet_5 (lv_at hl 0 rfl) ?_
  refine q_get (v := .int (iI (ν 21 0))) M w in7 0 21 rfl rfl (by decide) (by decide +kernel) rfl rfl dX7_clearSet_6 ?_
  refine q_if_eq (tgt := 18) M dX7_clearSet_9 (by decide) (by omega) (fun c9 => ?_) (fun c9 => ?_)
  · refine q_aln M dX7_clearSet_18 (lv_at hl 0 rfl) ?_
    refine q_get (v := .int (iI (ν 14 0))) M w in7 0 14 rfl rfl (by decide) (by decide +kernel) rfl rfl dX7_clearSet_19 ?_
    refine q_isn (lv' := [(1, .int (iI (ν 14 0))), (0, .ref (b 0))]) M dX7_clearSet_22 rfl hl (by decide) rfl (fun ls hl => ?_)
    refine q_aln M dX7_clearSet_23 (lv_at hl 1 rfl) ?_
    refine q_ic M dX7_clearSet_24 ?_
    refine q_put (ws2 := WMod cI cZ b (mset (mset ν 0 (fun _ => 0)) 14 (fun _ => 0))) M w in7 0 14 tyX7 tyX7_ok nmX7 rfl rfl (by decide) (by decide +kernel) rfl rfl rfl rfl (Nat.le_of_ble_eq_true rfl) rfl dX7_clearSet_25 (fun H locs w => ?_)
    refine q_iln M dX7_clearSet_28 (lv_at hl 0 rfl) ?_
    exact kret _ _ _ _ _ dX7_clearSet_29 w rfl
  · exfalso; omega

set_option maxHeartbeats 4000000 in
set_option maxRecDepth 100000 in
/-- clearSet -/
theorem m_clearSet_x (l : Launch) (D : va_G) (cI cZ cJ : ClassId) (b : Nat → Nat) (ν : Nat → Int → Int) (h21 : ν 21 0 = 0 ∨ ν 21 0 = 1) (k : Int) (hk : (¬ (ν 21 0 = 0) ∧ k = 1)) : Ci l D (tY cI cZ cJ) yX7_clearSet wsX7_clearSet rmX7_clearSet [.ref (b 0)] (WMod cI cZ b ν) (0) (WMod cI cZ b (mset ν 0 (fun _ => k))) := by
  refine qi_of (by decide +kernel) rfl (Nat.le_of_ble_eq_true rfl) ?_
  intro zp ze zs zm zargs zbelow zmeth zc A Q ls M hA w hl kret
  have hl : lv_has ls 2 [(0, .ref (b 0))] := hl
  have in7 : ∀ w ∈ u_ws RX7 TX7 31, w ∈ wsX7_clearSet := by decide +kernel
  refine q_aln M dX7_clearSet_0 (lv_at hl 0 rfl) ?_
  refine q_ic M dX7_clearSet_1 ?_
  refine q_put (ws2 := WMod cI cZ b (mset ν 0 (fun _ => 0))) M w in7 0 0 tyX7 tyX7_ok nmX7 rfl rfl (by decide) (by decide +kernel) rfl rfl rfl rfl (Nat.le_of_ble_eq_true rfl) rfl dX7_clearSet_2 (fun H locs w => ?_)
  refine q_aln M dX7_clearSet_5 (lv_at hl 0 rfl) ?_
  refine q_get (v := .int (iI (ν 21 0))) M w in7 0 21 rfl rfl (by decide) (by decide +kernel) rfl rfl dX7_clearSet_6 ?_
  refine q_if_eq (tgt := 18) M dX7_clearSet_9 (by decide) (by omega) (fun c9 => ?_) (fun c9 => ?_)
  · exfalso; omega
  · refine q_aln M dX7_clearSet_12 (lv_at hl 0 rfl) ?_
    refine q_ic M dX7_clearSet_13 ?_
    refine qc_iV (As := [.int (iI 1)]) (rest := []) (wc := WMod cI cZ b (mset ν 0 (fun _ => 0))) (wc2 := WMod cI cZ b (mset ν 0 (fun _ => 1))) (ws2 := WMod cI cZ b (mset ν 0 (fun _ => 1))) M w hA hl (m_fails l D cI cZ cJ b (mset ν 0 (fun _ => 0)) 1 ) gX7_clearSet_X7_fails rfl ⟨rfl, rfl, by decide, by decide⟩ ⟨Nat.zero_le _, Nat.zero_le _⟩ 1 ⟨rfl, by decide +kernel⟩ rfl [true, true, true, true, true, true, true, true, true, true, true, true, true, true, true, true, true, true, true, true, true] rfl rfl 0 rfl rfl rfl (Nat.le_of_ble_eq_true rfl) rfl dX7_clearSet_14 (fun H locs w => ?_)
    have hk1 : k = 1 := by omega
    subst hk1
    exact kret _ _ _ _ _ dX7_clearSet_17 w rfl

set_option maxHeartbeats 4000000 in
set_option maxRecDepth 100000 in
/-- addEntry -/
theorem m_addEntry (l : Launch) (D : va_G) (cI cZ cJ : ClassId) (b : Nat → Nat) (ν : Nat → Int → Int) (s p r : Int) (hs : -2147483648 ≤ s ∧ s < 2147483648) (hp : -2147483648 ≤ p ∧ p < 2147483648) (hr : -2147483648 ≤ r ∧ r < 2147483648) (h21 : ν 21 0 = 0 ∨ ν 21 0 = 1) (h9 : ∀ i, 0 ≤ i → i < 6 → 0 ≤ ν 9 i ∧ ν 9 i ≤ 8) (hok : (0 ≤ s ∧ s ≤ 5) ∧ (0 ≤ p ∧ p ≤ 11) ∧ (1 ≤ r ∧ r ≤ 4) ∧ (ν 9 s ≠ 8 ∧ ν 21 0 = 0)) : Ci l D (tY cI cZ cJ) yX7_addEntry wsX7_addEntry rmX7_addEntry [.ref (b 0), .int (iI s), .int (iI p), .int (iI r)] (WMod cI cZ b ν) (ν 9 s) (WMod cI cZ b (mset (mset (mset (mset (mset ν 0 (fun _ => 0)) 9 (iU (ν 9) s (ν 9 s + 1))) 10 (iU (ν 10) (s * 8 + ν 9 s) p)) 11 (iU (ν 11) (s * 8 + ν 9 s) r)) 13 (iU (ν 13) (s * 8 + ν 9 s) 0))) := by
  refine qi_of (by decide +kernel) rfl (Nat.le_of_ble_eq_true rfl) ?_
  intro zp ze zs zm zargs zbelow zmeth zc A Q ls M hA w hl kret
  have hl : lv_has ls 5 [(0, .ref (b 0)), (1, .int (iI s)), (2, .int (iI p)), (3, .int (iI r))] := hl
  have in7 : ∀ w ∈ u_ws RX7 TX7 31, w ∈ wsX7_addEntry := by decide +kernel
  refine q_aln M dX7_addEntry_0 (lv_at hl 0 rfl) ?_
  refine q_ic M dX7_addEntry_1 ?_
  refine q_put (ws2 := WMod cI cZ b (mset ν 0 (fun _ => 0))) M w in7 0 0 tyX7 tyX7_ok nmX7 rfl rfl (by decide) (by decide +kernel) rfl rfl rfl rfl (Nat.le_of_ble_eq_true rfl) rfl dX7_addEntry_2 (fun H locs w => ?_)
  refine q_iln M dX7_addEntry_5 (lv_at hl 1 rfl) ?_
  refine qc_iS (As := [.int (iI s)]) (rest := []) (wc := []) (wc2 := []) (ws2 := WMod cI cZ b (mset ν 0 (fun _ => 0))) M w hA hl (m_isSong l D cI cZ cJ s (by omega)) gX7_addEntry_X7_isSong rfl ⟨rfl, rfl, by decide, by decide⟩ ⟨Nat.zero_le _, Nat.zero_le _⟩ 1 (by decide +kernel) rfl [] rfl rfl rfl (Nat.le_of_ble_eq_true rfl) rfl dX7_addEntry_6 (fun H locs w => ?_)
  have q6 := inF_c s 0 5
  refine q_if_eq (tgt := 19) M dX7_addEntry_9 (by decide) (by omega) (fun c9 => ?_) (fun c9 => ?_)
  · exfalso; omega
  · refine q_iln M dX7_addEntry_12 (lv_at hl 2 rfl) ?_
    refine qc_iS (As := [.int (iI p)]) (rest := []) (wc := []) (wc2 := []) (ws2 := WMod cI cZ b (mset ν 0 (fun _ => 0))) M w hA hl (m_isPattern l D cI cZ cJ p (by omega)) gX7_addEntry_X7_isPattern rfl ⟨rfl, rfl, by decide, by decide⟩ ⟨Nat.zero_le _, Nat.zero_le _⟩ 1 (by decide +kernel) rfl [] rfl rfl rfl (Nat.le_of_ble_eq_true rfl) rfl dX7_addEntry_13 (fun H locs w => ?_)
    have q13 := inF_c p 0 11
    refine q_if_ne (tgt := 25) M dX7_addEntry_16 (by decide) (by omega) (fun c16 => ?_) (fun c16 => ?_)
    · refine q_iln M dX7_addEntry_25 (lv_at hl 3 rfl) ?_
      refine q_ic M dX7_addEntry_26 ?_
      refine q_ic M dX7_addEntry_27 ?_
      refine qc_iS (As := [.int (iI r), .int (iI 1), .int (iI 4)]) (rest := []) (wc := []) (wc2 := []) (ws2 := WMod cI cZ b (mset ν 0 (fun _ => 0))) M w hA hl (m_in l D cI cZ cJ r 1 4 (by omega)) gX7_addEntry_X7_in rfl ⟨rfl, rfl, by decide, by decide⟩ ⟨Nat.zero_le _, Nat.zero_le _⟩ 3 (by decide +kernel) rfl [] rfl rfl rfl (Nat.le_of_ble_eq_true rfl) rfl dX7_addEntry_28 (fun H locs w => ?_)
      have q28 := inF_c r 1 4
      refine q_if_ne (tgt := 40) M dX7_addEntry_31 (by decide) (by omega) (fun c31 => ?_) (fun c31 => ?_)
      · have q9 := h9 s (by omega) (by omega)
        refine q_aln M dX7_addEntry_40 (lv_at hl 0 rfl) ?_
        refine q_get (v := .ref (b 9)) M w in7 0 9 rfl rfl (by decide) (by decide +kernel) rfl rfl dX7_addEntry_41 ?_
        refine q_iln M dX7_addEntry_44 (lv_at hl 1 rfl) ?_
        refine q_iald (f := ν 9) M w 9 0 rfl rfl (by omega) dX7_addEntry_45 ?_
        refine q_bp M dX7_addEntry_46 (by decide +kernel) ?_
        refine q_icmp_eq (tgt := 58) M dX7_addEntry_48 (by decide) (by omega) (fun c48 => ?_) (fun c48 => ?_)
        · exfalso; omega
        · refine q_aln M dX7_addEntry_51 (lv_at hl 0 rfl) ?_
          refine q_get (v := .int (iI (ν 21 0))) M w in7 0 21 rfl rfl (by decide) (by decide +kernel) rfl rfl dX7_addEntry_52 ?_
          refine q_if_eq (tgt := 64) M dX7_addEntry_55 (by decide) (by omega) (fun c55 => ?_) (fun c55 => ?_)
          · refine q_bp M dX7_addEntry_64 (by decide +kernel) ?_
            refine q_iln M dX7_addEntry_66 (lv_at hl 1 rfl) ?_
            refine q_mul M dX7_addEntry_67 ?_
            refine q_aln M dX7_addEntry_68 (lv_at hl 0 rfl) ?_
            refine q_get (v := .ref (b 9)) M w in7 0 9 rfl rfl (by decide) (by decide +kernel) rfl rfl dX7_addEntry_69 ?_
            refine q_iln M dX7_addEntry_72 (lv_at hl 1 rfl) ?_
            refine q_iald (f := ν 9) M w 9 0 rfl rfl (by omega) dX7_addEntry_73 ?_
            refine q_add M dX7_addEntry_74 ?_
            refine q_top (y := s * 8 + ν 9 s) (by omega) ?_
            refine q_is (lv' := [(4, .int (iI (s * 8 + ν 9 s))), (0, .ref (b 0)), (1, .int (iI s)), (2, .int (iI p)), (3, .int (iI r))]) M dX7_addEntry_75 hl (by decide) rfl (fun ls hl => ?_)
            refine q_aln M dX7_addEntry_77 (lv_at hl 1 rfl) ?_
            refine q_get (v := .ref (b 10)) M w in7 0 10 rfl rfl (by decide) (by decide +kernel) rfl rfl dX7_addEntry_78 ?_
            refine q_il M dX7_addEntry_81 (lv_at hl 0 rfl) ?_
            refine q_iln M dX7_addEntry_83 (lv_at hl 3 rfl) ?_
            refine q_iast (f := ν 10) (ws2 := WMod cI cZ b (mset (mset ν 0 (fun _ => 0)) 10 (iU (ν 10) (s * 8 + ν 9 s) p))) M w 10 0 rfl rfl (by omega) rfl dX7_addEntry_84 (fun H locs w => ?_)
            refine q_aln M dX7_addEntry_85 (lv_at hl 1 rfl) ?_
            refine q_get (v := .ref (b 11)) M w in7 0 11 rfl rfl (by decide) (by decide +kernel) rfl rfl dX7_addEntry_86 ?_
            refine q_il M dX7_addEntry_89 (lv_at hl 0 rfl) ?_
            refine q_iln M dX7_addEntry_91 (lv_at hl 4 rfl) ?_
            refine q_iast (f := ν 11) (ws2 := WMod cI cZ b (mset (mset (mset ν 0 (fun _ => 0)) 10 (iU (ν 10) (s * 8 + ν 9 s) p)) 11 (iU (ν 11) (s * 8 + ν 9 s) r))) M w 11 0 rfl rfl (by omega) rfl dX7_addEntry_92 (fun H locs w => ?_)
            refine q_aln M dX7_addEntry_93 (lv_at hl 1 rfl) ?_
            refine q_get (v := .ref (b 13)) M w in7 0 13 rfl rfl (by decide) (by decide +kernel) rfl rfl dX7_addEntry_94 ?_
            refine q_il M dX7_addEntry_97 (lv_at hl 0 rfl) ?_
            refine q_ic M dX7_addEntry_99 ?_
            refine q_iast (f := ν 13) (ws2 := WMod cI cZ b (mset (mset (mset (mset ν 0 (fun _ => 0)) 10 (iU (ν 10) (s * 8 + ν 9 s) p)) 11 (iU (ν 11) (s * 8 + ν 9 s) r)) 13 (iU (ν 13) (s * 8 + ν 9 s) 0))) M w 13 0 rfl rfl (by omega) rfl dX7_addEntry_100 (fun H locs w => ?_)
            refine q_aln M dX7_addEntry_101 (lv_at hl 1 rfl) ?_
            refine q_get (v := .ref (b 9)) M w in7 0 9 rfl rfl (by decide) (by decide +kernel) rfl rfl dX7_addEntry_102 ?_
            refine q_iln M dX7_addEntry_105 (lv_at hl 2 rfl) ?_
            refine q_dup2 M dX7_addEntry_106 rfl rfl ?_
            refine q_iald (f := ν 9) M w 9 0 rfl rfl (by omega) dX7_addEntry_107 ?_
            refine q_ic M dX7_addEntry_108 ?_
            refine q_add M dX7_addEntry_109 ?_
            refine q_iast (f := ν 9) (ws2 := WMod cI cZ b (mset (mset (mset (mset (mset ν 0 (fun _ => 0)) 9 (iU (ν 9) s (((ν 9) s) + 1))) 10 (iU (ν 10) (s * 8 + ν 9 s) p)) 11 (iU (ν 11) (s * 8 + ν 9 s) r)) 13 (iU (ν 13) (s * 8 + ν 9 s) 0))) M w 9 0 rfl rfl (by omega) rfl dX7_addEntry_110 (fun H locs w => ?_)
            refine q_aln M dX7_addEntry_111 (lv_at hl 1 rfl) ?_
            refine q_get (v := .ref (b 9)) M w in7 0 9 rfl rfl (by decide) (by decide +kernel) rfl rfl dX7_addEntry_112 ?_
            refine q_iln M dX7_addEntry_115 (lv_at hl 2 rfl) ?_
            refine q_iald (f := iU (ν 9) s (((ν 9) s) + 1)) M w 9 0 rfl rfl (by omega) dX7_addEntry_116 ?_
            refine q_ic M dX7_addEntry_117 ?_
            refine q_sub M dX7_addEntry_118 ?_
            exact kret _ _ _ _ _ dX7_addEntry_119 w (by show iU (ν 9) s (ν 9 s + 1) s - 1 = ν 9 s; rw [iU_s]; omega)
          · exfalso; omega
      · exfalso; omega
    · exfalso; omega

set_option maxHeartbeats 4000000 in
set_option maxRecDepth 100000 in
/-- addEntry -/
theorem m_addEntry_x (l : Launch) (D : va_G) (cI cZ cJ : ClassId) (b : Nat → Nat) (ν : Nat → Int → Int) (s p r : Int) (hs : -2147483648 ≤ s ∧ s < 2147483648) (hp : -2147483648 ≤ p ∧ p < 2147483648) (hr : -2147483648 ≤ r ∧ r < 2147483648) (h21 : ν 21 0 = 0 ∨ ν 21 0 = 1) (h9 : ∀ i, 0 ≤ i → i < 6 → 0 ≤ ν 9 i ∧ ν 9 i ≤ 8) (k : Int) (hk : (¬ (0 ≤ s ∧ s ≤ 5) ∧ k = 1) ∨ ((0 ≤ s ∧ s ≤ 5) ∧ ¬ (0 ≤ p ∧ p ≤ 11) ∧ k = 1) ∨ ((0 ≤ s ∧ s ≤ 5) ∧ (0 ≤ p ∧ p ≤ 11) ∧ ¬ (1 ≤ r ∧ r ≤ 4) ∧ k = 2) ∨ ((0 ≤ s ∧ s ≤ 5) ∧ (0 ≤ p ∧ p ≤ 11) ∧ (1 ≤ r ∧ r ≤ 4) ∧ ¬ (ν 9 s ≠ 8 ∧ ν 21 0 = 0) ∧ k = 3)) : Ci l D (tY cI cZ cJ) yX7_addEntry wsX7_addEntry rmX7_addEntry [.ref (b 0), .int (iI s), .int (iI p), .int (iI r)] (WMod cI cZ b ν) (0) (WMod cI cZ b (mset ν 0 (fun _ => k))) := by
  refine qi_of (by decide +kernel) rfl (Nat.le_of_ble_eq_true rfl) ?_
  intro zp ze zs zm zargs zbelow zmeth zc A Q ls M hA w hl kret
  have hl : lv_has ls 5 [(0, .ref (b 0)), (1, .int (iI s)), (2, .int (iI p)), (3, .int (iI r))] := hl
  have in7 : ∀ w ∈ u_ws RX7 TX7 31, w ∈ wsX7_addEntry := by decide +kernel
  refine q_aln M dX7_addEntry_0 (lv_at hl 0 rfl) ?_
  refine q_ic M dX7_addEntry_1 ?_
  refine q_put (ws2 := WMod cI cZ b (mset ν 0 (fun _ => 0))) M w in7 0 0 tyX7 tyX7_ok nmX7 rfl rfl (by decide) (by decide +kernel) rfl rfl rfl rfl (Nat.le_of_ble_eq_true rfl) rfl dX7_addEntry_2 (fun H locs w => ?_)
  refine q_iln M dX7_addEntry_5 (lv_at hl 1 rfl) ?_
  refine qc_iS (As := [.int (iI s)]) (rest := []) (wc := []) (wc2 := []) (ws2 := WMod cI cZ b (mset ν 0 (fun _ => 0))) M w hA hl (m_isSong l D cI cZ cJ s (by omega)) gX7_addEntry_X7_isSong rfl ⟨rfl, rfl, by decide, by decide⟩ ⟨Nat.zero_le _, Nat.zero_le _⟩ 1 (by decide +kernel) rfl [] rfl rfl rfl (Nat.le_of_ble_eq_true rfl) rfl dX7_addEntry_6 (fun H locs w => ?_)
  have q6 := inF_c s 0 5
  refine q_if_eq (tgt := 19) M dX7_addEntry_9 (by decide) (by omega) (fun c9 => ?_) (fun c9 => ?_)
  · refine q_aln M dX7_addEntry_19 (lv_at hl 0 rfl) ?_
    refine q_ic M dX7_addEntry_20 ?_
    refine qc_iV (As := [.int (iI 1)]) (rest := []) (wc := WMod cI cZ b (mset ν 0 (fun _ => 0))) (wc2 := WMod cI cZ b (mset ν 0 (fun _ => 1))) (ws2 := WMod cI cZ b (mset ν 0 (fun _ => 1))) M w hA hl (m_fails l D cI cZ cJ b (mset ν 0 (fun _ => 0)) 1 ) gX7_addEntry_X7_fails rfl ⟨rfl, rfl, by decide, by decide⟩ ⟨Nat.zero_le _, Nat.zero_le _⟩ 1 ⟨rfl, by decide +kernel⟩ rfl [true, true, true, true, true, true, true, true, true, true, true, true, true, true, true, true, true, true, true, true, true] rfl rfl 0 rfl rfl rfl (Nat.le_of_ble_eq_true rfl) rfl dX7_addEntry_21 (fun H locs w => ?_)
    have hk1 : k = 1 := by omega
    subst hk1
    exact kret _ _ _ _ _ dX7_addEntry_24 w rfl
  · refine q_iln M dX7_addEntry_12 (lv_at hl 2 rfl) ?_
    refine qc_iS (As := [.int (iI p)]) (rest := []) (wc := []) (wc2 := []) (ws2 := WMod cI cZ b (mset ν 0 (fun _ => 0))) M w hA hl (m_isPattern l D cI cZ cJ p (by omega)) gX7_addEntry_X7_isPattern rfl ⟨rfl, rfl, by decide, by decide⟩ ⟨Nat.zero_le _, Nat.zero_le _⟩ 1 (by decide +kernel) rfl [] rfl rfl rfl (Nat.le_of_ble_eq_true rfl) rfl dX7_addEntry_13 (fun H locs w => ?_)
    have q13 := inF_c p 0 11
    refine q_if_ne (tgt := 25) M dX7_addEntry_16 (by decide) (by omega) (fun c16 => ?_) (fun c16 => ?_)
    · refine q_iln M dX7_addEntry_25 (lv_at hl 3 rfl) ?_
      refine q_ic M dX7_addEntry_26 ?_
      refine q_ic M dX7_addEntry_27 ?_
      refine qc_iS (As := [.int (iI r), .int (iI 1), .int (iI 4)]) (rest := []) (wc := []) (wc2 := []) (ws2 := WMod cI cZ b (mset ν 0 (fun _ => 0))) M w hA hl (m_in l D cI cZ cJ r 1 4 (by omega)) gX7_addEntry_X7_in rfl ⟨rfl, rfl, by decide, by decide⟩ ⟨Nat.zero_le _, Nat.zero_le _⟩ 3 (by decide +kernel) rfl [] rfl rfl rfl (Nat.le_of_ble_eq_true rfl) rfl dX7_addEntry_28 (fun H locs w => ?_)
      have q28 := inF_c r 1 4
      refine q_if_ne (tgt := 40) M dX7_addEntry_31 (by decide) (by omega) (fun c31 => ?_) (fun c31 => ?_)
      · have q9 := h9 s (by omega) (by omega)
        refine q_aln M dX7_addEntry_40 (lv_at hl 0 rfl) ?_
        refine q_get (v := .ref (b 9)) M w in7 0 9 rfl rfl (by decide) (by decide +kernel) rfl rfl dX7_addEntry_41 ?_
        refine q_iln M dX7_addEntry_44 (lv_at hl 1 rfl) ?_
        refine q_iald (f := ν 9) M w 9 0 rfl rfl (by omega) dX7_addEntry_45 ?_
        refine q_bp M dX7_addEntry_46 (by decide +kernel) ?_
        refine q_icmp_eq (tgt := 58) M dX7_addEntry_48 (by decide) (by omega) (fun c48 => ?_) (fun c48 => ?_)
        · refine q_aln M dX7_addEntry_58 (lv_at hl 0 rfl) ?_
          refine q_ic M dX7_addEntry_59 ?_
          refine qc_iV (As := [.int (iI 3)]) (rest := []) (wc := WMod cI cZ b (mset ν 0 (fun _ => 0))) (wc2 := WMod cI cZ b (mset ν 0 (fun _ => 3))) (ws2 := WMod cI cZ b (mset ν 0 (fun _ => 3))) M w hA hl (m_fails l D cI cZ cJ b (mset ν 0 (fun _ => 0)) 3 ) gX7_addEntry_X7_fails rfl ⟨rfl, rfl, by decide, by decide⟩ ⟨Nat.zero_le _, Nat.zero_le _⟩ 1 ⟨rfl, by decide +kernel⟩ rfl [true, true, true, true, true, true, true, true, true, true, true, true, true, true, true, true, true, true, true, true, true] rfl rfl 0 rfl rfl rfl (Nat.le_of_ble_eq_true rfl) rfl dX7_addEntry_60 (fun H locs w => ?_)
          have hk1 : k = 3 := by omega
          subst hk1
          exact kret _ _ _ _ _ dX7_addEntry_63 w rfl
        · refine q_aln M dX7_addEntry_51 (lv_at hl 0 rfl) ?_
          refine q_get (v := .int (iI (ν 21 0))) M w in7 0 21 rfl rfl (by decide) (by decide +kernel) rfl rfl dX7_addEntry_52 ?_
          refine q_if_eq (tgt := 64) M dX7_addEntry_55 (by decide) (by omega) (fun c55 => ?_) (fun c55 => ?_)
          · exfalso; omega
          · refine q_aln M dX7_addEntry_58 (lv_at hl 0 rfl) ?_
            refine q_ic M dX7_addEntry_59 ?_
            refine qc_iV (As := [.int (iI 3)]) (rest := []) (wc := WMod cI cZ b (mset ν 0 (fun _ => 0))) (wc2 := WMod cI cZ b (mset ν 0 (fun _ => 3))) (ws2 := WMod cI cZ b (mset ν 0 (fun _ => 3))) M w hA hl (m_fails l D cI cZ cJ b (mset ν 0 (fun _ => 0)) 3 ) gX7_addEntry_X7_fails rfl ⟨rfl, rfl, by decide, by decide⟩ ⟨Nat.zero_le _, Nat.zero_le _⟩ 1 ⟨rfl, by decide +kernel⟩ rfl [true, true, true, true, true, true, true, true, true, true, true, true, true, true, true, true, true, true, true, true, true] rfl rfl 0 rfl rfl rfl (Nat.le_of_ble_eq_true rfl) rfl dX7_addEntry_60 (fun H locs w => ?_)
            have hk1 : k = 3 := by omega
            subst hk1
            exact kret _ _ _ _ _ dX7_addEntry_63 w rfl
      · refine q_aln M dX7_addEntry_34 (lv_at hl 0 rfl) ?_
        refine q_ic M dX7_addEntry_35 ?_
        refine qc_iV (As := [.int (iI 2)]) (rest := []) (wc := WMod cI cZ b (mset ν 0 (fun _ => 0))) (wc2 := WMod cI cZ b (mset ν 0 (fun _ => 2))) (ws2 := WMod cI cZ b (mset ν 0 (fun _ => 2))) M w hA hl (m_fails l D cI cZ cJ b (mset ν 0 (fun _ => 0)) 2 ) gX7_addEntry_X7_fails rfl ⟨rfl, rfl, by decide, by decide⟩ ⟨Nat.zero_le _, Nat.zero_le _⟩ 1 ⟨rfl, by decide +kernel⟩ rfl [true, true, true, true, true, true, true, true, true, true, true, true, true, true, true, true, true, true, true, true, true] rfl rfl 0 rfl rfl rfl (Nat.le_of_ble_eq_true rfl) rfl dX7_addEntry_36 (fun H locs w => ?_)
        have hk1 : k = 2 := by omega
        subst hk1
        exact kret _ _ _ _ _ dX7_addEntry_39 w rfl
    · refine q_aln M dX7_addEntry_19 (lv_at hl 0 rfl) ?_
      refine q_ic M dX7_addEntry_20 ?_
      refine qc_iV (As := [.int (iI 1)]) (rest := []) (wc := WMod cI cZ b (mset ν 0 (fun _ => 0))) (wc2 := WMod cI cZ b (mset ν 0 (fun _ => 1))) (ws2 := WMod cI cZ b (mset ν 0 (fun _ => 1))) M w hA hl (m_fails l D cI cZ cJ b (mset ν 0 (fun _ => 0)) 1 ) gX7_addEntry_X7_fails rfl ⟨rfl, rfl, by decide, by decide⟩ ⟨Nat.zero_le _, Nat.zero_le _⟩ 1 ⟨rfl, by decide +kernel⟩ rfl [true, true, true, true, true, true, true, true, true, true, true, true, true, true, true, true, true, true, true, true, true] rfl rfl 0 rfl rfl rfl (Nat.le_of_ble_eq_true rfl) rfl dX7_addEntry_21 (fun H locs w => ?_)
      have hk1 : k = 1 := by omega
      subst hk1
      exact kret _ _ _ _ _ dX7_addEntry_24 w rfl

set_option maxHeartbeats 4000000 in
set_option maxRecDepth 100000 in
/-- loaded -/
theorem m_loaded (l : Launch) (D : va_G) (cI cZ cJ : ClassId) (b : Nat → Nat) (ν : Nat → Int → Int) (s : Int) (hs : -2147483648 ≤ s ∧ s < 2147483648)  (hok : (0 ≤ s ∧ s ≤ 7)) : Ci l D (tY cI cZ cJ) yX7_loaded wsX7_loaded rmX7_loaded [.ref (b 0), .int (iI s)] (WMod cI cZ b ν) (ν 25 s) (WMod cI cZ b (mset ν 0 (fun _ => 0))) := by
  refine qi_of (by decide +kernel) rfl (Nat.le_of_ble_eq_true rfl) ?_
  intro zp ze zs zm zargs zbelow zmeth zc A Q ls M hA w hl kret
  have hl : lv_has ls 2 [(0, .ref (b 0)), (1, .int (iI s))] := hl
  have in7 : ∀ w ∈ u_ws RX7 TX7 31, w ∈ wsX7_loaded := by decide +kernel
  refine q_aln M dX7_loaded_0 (lv_at hl 0 rfl) ?_
  refine q_ic M dX7_loaded_1 ?_
  refine q_put (ws2 := WMod cI cZ b (mset ν 0 (fun _ => 0))) M w in7 0 0 tyX7 tyX7_ok nmX7 rfl rfl (by decide) (by decide +kernel) rfl rfl rfl rfl (Nat.le_of_ble_eq_true rfl) rfl dX7_loaded_2 (fun H locs w => ?_)
  refine q_iln M dX7_loaded_5 (lv_at hl 1 rfl) ?_
  refine qc_iS (As := [.int (iI s)]) (rest := []) (wc := []) (wc2 := []) (ws2 := WMod cI cZ b (mset ν 0 (fun _ => 0))) M w hA hl (m_isSample l D cI cZ cJ s (by omega)) gX7_loaded_X7_isSample rfl ⟨rfl, rfl, by decide, by decide⟩ ⟨Nat.zero_le _, Nat.zero_le _⟩ 1 (by decide +kernel) rfl [] rfl rfl rfl (Nat.le_of_ble_eq_true rfl) rfl dX7_loaded_6 (fun H locs w => ?_)
  have q6 := inF_c s 0 7
  refine q_if_eq (tgt := 21) M dX7_loaded_9 (by decide) (by omega) (fun c9 => ?_) (fun c9 => ?_)
  · exfalso; omega
  · refine q_aln M dX7_loaded_12 (lv_at hl 0 rfl) ?_
    refine q_get (v := .ref (b 25)) M w in7 0 25 rfl rfl (by decide) (by decide +kernel) rfl rfl dX7_loaded_13 ?_
    refine q_iln M dX7_loaded_16 (lv_at hl 1 rfl) ?_
    refine q_iald (f := ν 25) M w 20 0 rfl rfl (by omega) dX7_loaded_17 ?_
    refine q_go (tgt := 26) M dX7_loaded_18 (by decide) ?_
    exact kret _ _ _ _ _ dX7_loaded_26 w rfl

set_option maxHeartbeats 4000000 in
set_option maxRecDepth 100000 in
/-- loaded -/
theorem m_loaded_x (l : Launch) (D : va_G) (cI cZ cJ : ClassId) (b : Nat → Nat) (ν : Nat → Int → Int) (s : Int) (hs : -2147483648 ≤ s ∧ s < 2147483648)  (k : Int) (hk : (¬ (0 ≤ s ∧ s ≤ 7) ∧ k = 1)) : Ci l D (tY cI cZ cJ) yX7_loaded wsX7_loaded rmX7_loaded [.ref (b 0), .int (iI s)] (WMod cI cZ b ν) (0) (WMod cI cZ b (mset ν 0 (fun _ => k))) := by
  refine qi_of (by decide +kernel) rfl (Nat.le_of_ble_eq_true rfl) ?_
  intro zp ze zs zm zargs zbelow zmeth zc A Q ls M hA w hl kret
  have hl : lv_has ls 2 [(0, .ref (b 0)), (1, .int (iI s))] := hl
  have in7 : ∀ w ∈ u_ws RX7 TX7 31, w ∈ wsX7_loaded := by decide +kernel
  refine q_aln M dX7_loaded_0 (lv_at hl 0 rfl) ?_
  refine q_ic M dX7_loaded_1 ?_
  refine q_put (ws2 := WMod cI cZ b (mset ν 0 (fun _ => 0))) M w in7 0 0 tyX7 tyX7_ok nmX7 rfl rfl (by decide) (by decide +kernel) rfl rfl rfl rfl (Nat.le_of_ble_eq_true rfl) rfl dX7_loaded_2 (fun H locs w => ?_)
  refine q_iln M dX7_loaded_5 (lv_at hl 1 rfl) ?_
  refine qc_iS (As := [.int (iI s)]) (rest := []) (wc := []) (wc2 := []) (ws2 := WMod cI cZ b (mset ν 0 (fun _ => 0))) M w hA hl (m_isSample l D cI cZ cJ s (by omega)) gX7_loaded_X7_isSample rfl ⟨rfl, rfl, by decide, by decide⟩ ⟨Nat.zero_le _, Nat.zero_le _⟩ 1 (by decide +kernel) rfl [] rfl rfl rfl (Nat.le_of_ble_eq_true rfl) rfl dX7_loaded_6 (fun H locs w => ?_)
  have q6 := inF_c s 0 7
  refine q_if_eq (tgt := 21) M dX7_loaded_9 (by decide) (by omega) (fun c9 => ?_) (fun c9 => ?_)
  · refine q_aln M dX7_loaded_21 (lv_at hl 0 rfl) ?_
    refine q_ic M dX7_loaded_22 ?_
    refine qc_iV (As := [.int (iI 1)]) (rest := []) (wc := WMod cI cZ b (mset ν 0 (fun _ => 0))) (wc2 := WMod cI cZ b (mset ν 0 (fun _ => 1))) (ws2 := WMod cI cZ b (mset ν 0 (fun _ => 1))) M w hA hl (m_fails l D cI cZ cJ b (mset ν 0 (fun _ => 0)) 1 ) gX7_loaded_X7_fails rfl ⟨rfl, rfl, by decide, by decide⟩ ⟨Nat.zero_le _, Nat.zero_le _⟩ 1 ⟨rfl, by decide +kernel⟩ rfl [true, true, true, true, true, true, true, true, true, true, true, true, true, true, true, true, true, true, true, true, true] rfl rfl 0 rfl rfl rfl (Nat.le_of_ble_eq_true rfl) rfl dX7_loaded_23 (fun H locs w => ?_)
    have hk1 : k = 1 := by omega
    subst hk1
    exact kret _ _ _ _ _ dX7_loaded_26 w rfl
  · exfalso; omega

set_option maxHeartbeats 4000000 in
set_option maxRecDepth 100000 in
/-- sounds -/
theorem m_sounds (l : Launch) (D : va_G) (cI cZ cJ : ClassId) (b : Nat → Nat) (ν : Nat → Int → Int)  : Ci l D (tY cI cZ cJ) yX7_sounds wsX7_sounds rmX7_sounds [.ref (b 0)] (WMod cI cZ b ν) (ν 28 0) (WMod cI cZ b (mset ν 0 (fun _ => 0))) := by
  refine qi_of (by decide +kernel) rfl (Nat.le_of_ble_eq_true rfl) ?_
  intro zp ze zs zm zargs zbelow zmeth zc A Q ls M hA w hl kret
  have hl : lv_has ls 1 [(0, .ref (b 0))] := hl
  have in7 : ∀ w ∈ u_ws RX7 TX7 31, w ∈ wsX7_sounds := by decide +kernel
  refine q_aln M dX7_sounds_0 (lv_at hl 0 rfl) ?_
  refine q_ic M dX7_sounds_1 ?_
  refine q_put (ws2 := WMod cI cZ b (mset ν 0 (fun _ => 0))) M w in7 0 0 tyX7 tyX7_ok nmX7 rfl rfl (by decide) (by decide +kernel) rfl rfl rfl rfl (Nat.le_of_ble_eq_true rfl) rfl dX7_sounds_2 (fun H locs w => ?_)
  refine q_aln M dX7_sounds_5 (lv_at hl 0 rfl) ?_
  refine q_get (v := .int (iI (ν 28 0))) M w in7 0 28 rfl rfl (by decide) (by decide +kernel) rfl rfl dX7_sounds_6 ?_
  exact kret _ _ _ _ _ dX7_sounds_9 w rfl

set_option maxHeartbeats 4000000 in
set_option maxRecDepth 100000 in
/-- misses -/
theorem m_misses (l : Launch) (D : va_G) (cI cZ cJ : ClassId) (b : Nat → Nat) (ν : Nat → Int → Int)  : Ci l D (tY cI cZ cJ) yX7_misses wsX7_misses rmX7_misses [.ref (b 0)] (WMod cI cZ b ν) (ν 29 0) (WMod cI cZ b (mset ν 0 (fun _ => 0))) := by
  refine qi_of (by decide +kernel) rfl (Nat.le_of_ble_eq_true rfl) ?_
  intro zp ze zs zm zargs zbelow zmeth zc A Q ls M hA w hl kret
  have hl : lv_has ls 1 [(0, .ref (b 0))] := hl
  have in7 : ∀ w ∈ u_ws RX7 TX7 31, w ∈ wsX7_misses := by decide +kernel
  refine q_aln M dX7_misses_0 (lv_at hl 0 rfl) ?_
  refine q_ic M dX7_misses_1 ?_
  refine q_put (ws2 := WMod cI cZ b (mset ν 0 (fun _ => 0))) M w in7 0 0 tyX7 tyX7_ok nmX7 rfl rfl (by decide) (by decide +kernel) rfl rfl rfl rfl (Nat.le_of_ble_eq_true rfl) rfl dX7_misses_2 (fun H locs w => ?_)
  refine q_aln M dX7_misses_5 (lv_at hl 0 rfl) ?_
  refine q_get (v := .int (iI (ν 29 0))) M w in7 0 29 rfl rfl (by decide) (by decide +kernel) rfl rfl dX7_misses_6 ?_
  exact kret _ _ _ _ _ dX7_misses_9 w rfl

set_option maxHeartbeats 4000000 in
set_option maxRecDepth 100000 in
/-- soundNumber -/
theorem m_soundNumber (l : Launch) (D : va_G) (cI cZ cJ : ClassId) (b : Nat → Nat) (ν : Nat → Int → Int)  : Ci l D (tY cI cZ cJ) yX7_soundNumber wsX7_soundNumber rmX7_soundNumber [.ref (b 0)] (WMod cI cZ b ν) (ν 30 0) (WMod cI cZ b (mset ν 0 (fun _ => 0))) := by
  refine qi_of (by decide +kernel) rfl (Nat.le_of_ble_eq_true rfl) ?_
  intro zp ze zs zm zargs zbelow zmeth zc A Q ls M hA w hl kret
  have hl : lv_has ls 1 [(0, .ref (b 0))] := hl
  have in7 : ∀ w ∈ u_ws RX7 TX7 31, w ∈ wsX7_soundNumber := by decide +kernel
  refine q_aln M dX7_soundNumber_0 (lv_at hl 0 rfl) ?_
  refine q_ic M dX7_soundNumber_1 ?_
  refine q_put (ws2 := WMod cI cZ b (mset ν 0 (fun _ => 0))) M w in7 0 0 tyX7 tyX7_ok nmX7 rfl rfl (by decide) (by decide +kernel) rfl rfl rfl rfl (Nat.le_of_ble_eq_true rfl) rfl dX7_soundNumber_2 (fun H locs w => ?_)
  refine q_aln M dX7_soundNumber_5 (lv_at hl 0 rfl) ?_
  refine q_get (v := .int (iI (ν 30 0))) M w in7 0 30 rfl rfl (by decide) (by decide +kernel) rfl rfl dX7_soundNumber_6 ?_
  exact kret _ _ _ _ _ dX7_soundNumber_9 w rfl

set_option maxHeartbeats 4000000 in
set_option maxRecDepth 100000 in
/-- inHand -/
theorem m_inHand (l : Launch) (D : va_G) (cI cZ cJ : ClassId) (b : Nat → Nat) (ν : Nat → Int → Int) (hc : -1 ≤ ν 26 0 ∧ ν 26 0 < 8) : Ci l D (tY cI cZ cJ) yX7_inHand wsX7_inHand rmX7_inHand [.ref (b 0)] (WMod cI cZ b ν) (if ν 26 0 = -1 then -1 else 10 * ν 26 0 + ν 27 0) (WMod cI cZ b (mset ν 0 (fun _ => 0))) := by
  refine qi_of (by decide +kernel) rfl (Nat.le_of_ble_eq_true rfl) ?_
  intro zp ze zs zm zargs zbelow zmeth zc A Q ls M hA w hl kret
  have hl : lv_has ls 1 [(0, .ref (b 0))] := hl
  have in7 : ∀ w ∈ u_ws RX7 TX7 31, w ∈ wsX7_inHand := by decide +kernel
  refine q_aln M dX7_inHand_0 (lv_at hl 0 rfl) ?_
  refine q_ic M dX7_inHand_1 ?_
  refine q_put (ws2 := WMod cI cZ b (mset ν 0 (fun _ => 0))) M w in7 0 0 tyX7 tyX7_ok nmX7 rfl rfl (by decide) (by decide +kernel) rfl rfl rfl rfl (Nat.le_of_ble_eq_true rfl) rfl dX7_inHand_2 (fun H locs w => ?_)
  refine q_aln M dX7_inHand_5 (lv_at hl 0 rfl) ?_
  refine q_get (v := .int (iI (ν 26 0))) M w in7 0 26 rfl rfl (by decide) (by decide +kernel) rfl rfl dX7_inHand_6 ?_
  refine q_ic M dX7_inHand_9 ?_
  refine q_icmp_ne (tgt := 17) M dX7_inHand_10 (by decide) (by omega) (fun c10 => ?_) (fun c10 => ?_)
  · refine q_bp M dX7_inHand_17 (by decide +kernel) ?_
    refine q_aln M dX7_inHand_19 (lv_at hl 0 rfl) ?_
    refine q_get (v := .int (iI (ν 26 0))) M w in7 0 26 rfl rfl (by decide) (by decide +kernel) rfl rfl dX7_inHand_20 ?_
    refine q_mul M dX7_inHand_23 ?_
    refine q_aln M dX7_inHand_24 (lv_at hl 0 rfl) ?_
    refine q_get (v := .int (iI (ν 27 0))) M w in7 0 27 rfl rfl (by decide) (by decide +kernel) rfl rfl dX7_inHand_25 ?_
    refine q_add M dX7_inHand_28 ?_
    exact kret _ _ _ _ _ dX7_inHand_29 w (by rw [if_neg (by omega)])
  · refine q_ic M dX7_inHand_13 ?_
    refine q_go (tgt := 29) M dX7_inHand_14 (by decide) ?_
    exact kret _ _ _ _ _ dX7_inHand_29 w (by rw [if_pos (by omega)])

set_option maxHeartbeats 4000000 in
set_option maxRecDepth 100000 in
/-- place -/
theorem m_place (l : Launch) (D : va_G) (cI cZ cJ : ClassId) (b : Nat → Nat) (ν : Nat → Int → Int) (h21 : ν 21 0 = 0 ∨ ν 21 0 = 1) (h22 : ν 21 0 = 1 → 0 ≤ ν 22 0 ∧ ν 22 0 < 9) : Ci l D (tY cI cZ cJ) yX7_place wsX7_place rmX7_place [.ref (b 0)] (WMod cI cZ b ν) (if ν 21 0 = 1 then 100000 * ν 22 0 + 1000 * (ν 23 0 - ν 18 (ν 22 0)) + ν 24 0 else -1) (WMod cI cZ b (mset ν 0 (fun _ => 0))) := by
  refine qi_of (by decide +kernel) rfl (Nat.le_of_ble_eq_true rfl) ?_
  intro zp ze zs zm zargs zbelow zmeth zc A Q ls M hA w hl kret
  have hl : lv_has ls 1 [(0, .ref (b 0))] := hl
  have in7 : ∀ w ∈ u_ws RX7 TX7 31, w ∈ wsX7_place := by decide +kernel
  refine q_aln M dX7_place_0 (lv_at hl 0 rfl) ?_
  refine q_ic M dX7_place_1 ?_
  refine q_put (ws2 := WMod cI cZ b (mset ν 0 (fun _ => 0))) M w in7 0 0 tyX7 tyX7_ok nmX7 rfl rfl (by decide) (by decide +kernel) rfl rfl rfl rfl (Nat.le_of_ble_eq_true rfl) rfl dX7_place_2 (fun H locs w => ?_)
  refine q_aln M dX7_place_5 (lv_at hl 0 rfl) ?_
  refine q_get (v := .int (iI (ν 21 0))) M w in7 0 21 rfl rfl (by decide) (by decide +kernel) rfl rfl dX7_place_6 ?_
  refine q_if_eq (tgt := 46) M dX7_place_9 (by decide) (by omega) (fun c9 => ?_) (fun c9 => ?_)
  · refine q_ic M dX7_place_46 ?_
    exact kret _ _ _ _ _ dX7_place_47 w (by rw [if_neg (by omega)])
  · have q22 := h22 (by omega)
    refine q_ldc (n := 100000) M (by decide +kernel) dX7_place_12 ?_
    refine q_aln M dX7_place_14 (lv_at hl 0 rfl) ?_
    refine q_get (v := .int (iI (ν 22 0))) M w in7 0 22 rfl rfl (by decide) (by decide +kernel) rfl rfl dX7_place_15 ?_
    refine q_mul M dX7_place_18 ?_
    refine q_sp M dX7_place_19 (by decide +kernel) ?_
    refine q_aln M dX7_place_22 (lv_at hl 0 rfl) ?_
    refine q_get (v := .int (iI (ν 23 0))) M w in7 0 23 rfl rfl (by decide) (by decide +kernel) rfl rfl dX7_place_23 ?_
    refine q_aln M dX7_place_26 (lv_at hl 0 rfl) ?_
    refine q_get (v := .ref (b 18)) M w in7 0 18 rfl rfl (by decide) (by decide +kernel) rfl rfl dX7_place_27 ?_
    refine q_aln M dX7_place_30 (lv_at hl 0 rfl) ?_
    refine q_get (v := .int (iI (ν 22 0))) M w in7 0 22 rfl rfl (by decide) (by decide +kernel) rfl rfl dX7_place_31 ?_
    refine q_iald (f := ν 18) M w 17 0 rfl rfl (by omega) dX7_place_34 ?_
    refine q_sub M dX7_place_35 ?_
    refine q_mul M dX7_place_36 ?_
    refine q_add M dX7_place_37 ?_
    refine q_aln M dX7_place_38 (lv_at hl 0 rfl) ?_
    refine q_get (v := .int (iI (ν 24 0))) M w in7 0 24 rfl rfl (by decide) (by decide +kernel) rfl rfl dX7_place_39 ?_
    refine q_add M dX7_place_42 ?_
    refine q_go (tgt := 47) M dX7_place_43 (by decide) ?_
    exact kret _ _ _ _ _ dX7_place_47 w (by rw [if_pos (by omega)])
