/-! THE REFERENCE: songs asked, the set begun -/
theorem lB_in (n : Int) (P R G T : Int → Int) : (0 ≤ lB n P R G T ∧ lB n P R G T ≤ 64) ∧ (∀ j, 0 ≤ j → j < lB n P R G T → (lay P R G T j).1 < n) ∧ (lB n P R G T = 64 ∨ n ≤ (lay P R G T (lB n P R G T)).1) := by
  have key := itI_ind (F := fun i m => if m = i ∧ (lay P R G T i).1 < n then i + 1 else m) (g := (0 : Int)) (fun i (m : Int) => (0 ≤ m ∧ m ≤ i) ∧ (∀ j, 0 ≤ j → j < m → (lay P R G T j).1 < n) ∧ (m = i ∨ n ≤ (lay P R G T m).1)) ⟨by omega, fun j h1 h2 => by omega, Or.inl rfl⟩ (fun i m hi ih => by
    by_cases q : m = i ∧ (lay P R G T i).1 < n
    · rw [if_pos q]
      refine ⟨by omega, fun j h1 h2 => ?_, Or.inl rfl⟩
      by_cases e : j = i
      · rw [e]; exact q.2
      · exact ih.2.1 j h1 (by omega)
    · rw [if_neg q]
      refine ⟨by omega, ih.2.1, ?_⟩
      rcases ih.2.2 with h | h
      · right
        rw [h]
        omega
      · exact Or.inr h) (i := 64) (by omega)
  exact key
theorem lay_ok {n : Int} {P R G T : Int → Int} (hS : SD n P R G T) {k : Int} (hk : 0 ≤ k) (h : k ≤ lB n P R G T) : lsOK n P R G T k := by
  obtain ⟨m, rfl⟩ := Int.eq_ofNat_of_zero_le hk
  induction m with
  | zero => exact lsOK_0 hS
  | succ m ih => exact lsOK_s hS (by omega) (ih (by omega) (by omega)) ((lB_in n P R G T).2.1 m (by omega) (by omega))
theorem lBs_bd (m : Nat → Int → Int) (s : Int) : 0 ≤ lBs m s ∧ lBs m s ≤ 64 := (lB_in _ _ _ _ _).1
theorem bP_bd {m : Nat → Int → Int} {s : Int} (hS : SDs m s) {k : Int} (hk : 0 ≤ k ∧ k < lBs m s) : (0 ≤ bP m s k ∧ bP m s k < 12) ∧ 0 ≤ bT m s k ∧ bT m s k < 1000 := by
  have h1 : lsOK (m 8 s) (sP m s) (sR m s) (sG m s) (sT m s) k := lay_ok hS hk.1 (by have := hk.2; unfold lBs at this; omega)
  have h2 : (ly m s k).1 < m 8 s := (lB_in _ _ _ _ _).2.1 k hk.1 hk.2
  have h3 := hS.2 (ly m s k).1 h1.1.1 h2
  have h4 := h1.2.2.2.1 (bP m s k)
  have h5 := lBs_bd m s
  refine ⟨h3.1, ?_⟩
  unfold bT
  unfold ly
  omega
theorem cB_ly {ν : Nat → Int → Int} {s q x : Int} (hx : 0 ≤ x ∧ x < lBs (vw ν) s) : cB (lyW ν s q) (q + x) = cdF (vw ν) (bP (vw ν) s x) (bT (vw ν) s x) := by
  have e1 : (lyW ν s q) 16 (q + x) = bP (vw ν) s x := (if_pos ⟨by omega, by omega⟩).trans (by rw [show q + x - q = x by omega])
  have e2 : (lyW ν s q) 17 (q + x) = fB (vw ν) s x := (if_pos ⟨by omega, by omega⟩).trans (by rw [show q + x - q = x by omega])
  unfold cB
  rw [e1, e2]
  rfl
theorem ly_16 {ν : Nat → Int → Int} {s q x : Int} (hS : SDs (vw ν) s) (hx : 0 ≤ x ∧ x < lBs (vw ν) s) : (0 ≤ (lyW ν s q) 16 (q + x) ∧ (lyW ν s q) 16 (q + x) < 12) ∧ 0 ≤ (lyW ν s q) 17 (q + x) ∧ (lyW ν s q) 17 (q + x) ≤ 1 := by
  have e1 : (lyW ν s q) 16 (q + x) = bP (vw ν) s x := (if_pos ⟨by omega, by omega⟩).trans (by rw [show q + x - q = x by omega])
  have e2 : (lyW ν s q) 17 (q + x) = fB (vw ν) s x := (if_pos ⟨by omega, by omega⟩).trans (by rw [show q + x - q = x by omega])
  rw [e1, e2]
  exact ⟨(bP_bd hS hx).1, fB_bd _ _ _⟩
def r0 (ν : Nat → Int → Int) : Nat → Int → Int := mset ν 0 (fun _ => 0)
def jmR (ν : Nat → Int → Int) (s e g t : Int) : Nat → Int → Int := mset (mset (mset ν 0 (fun _ => 0)) 12 (iU (ν 12) (s * 8 + e) g)) 13 (iU (ν 13) (s * 8 + e) t)
noncomputable def btR (m : Nat → Int → Int) (s : Int) : Int → Int := fun x => if sA m (cdF m (bP m s (x / 64)) (bT m s (x / 64))) (x / 16 % 4) (x % 16) = -1 then 0 else 1
noncomputable def fsR (ν : Nat → Int → Int) (k : Int) : Int := sI (fun j => lBs (vw ν) (ν 15 j)) k
theorem fsR_bd (ν : Nat → Int → Int) {k : Int} (hk : 0 ≤ k) : 0 ≤ fsR ν k ∧ fsR ν k ≤ 64 * k := sI_bd _ (fun j => lBs_bd _ _) hk
noncomputable def stX (ν : Nat → Int → Int) (k : Int) : (Int → Int) × (Int → Int) × (Int → Int) × (Int → Int) × (Int → Int) := itI (fun j x => (cpF x.1 (bP (vw ν) (ν 15 j)) (fsR ν j) (lBs (vw ν) (ν 15 j)), cpF x.2.1 (fB (vw ν) (ν 15 j)) (fsR ν j) (lBs (vw ν) (ν 15 j)), iU x.2.2.1 j (fsR ν j), dnE (vw ν) (ν 15 j) (lBs (vw ν) (ν 15 j)), (ly (vw ν) (ν 15 j) (lBs (vw ν) (ν 15 j))).2.2.2)) (ν 16, ν 17, ν 18, ν 19, ν 20) k
theorem WMod_c25 {D : va_G} {A : Nat → Prop} {H0 H : Heap} {locs : List Loc} {cI cZ : ClassId} {b : Nat → Nat} {ν : Nat → Int → Int} {f g : Int → Int} (w : wW D A H0 (WMod cI cZ b (mset ν 25 f)) H locs) (h : ∀ i, 0 ≤ i → i < 8 → f i = g i) : wW D A H0 (WMod cI cZ b (mset ν 25 g)) H locs := by
  refine WMod_cong w fun j i h1 h2 => ?_
  unfold mset
  cases q : Nat.beq j 25
  · rfl
  · rw [Nat.eq_of_beq_eq_true q] at h2
    exact h i h1 h2

set_option maxHeartbeats 4000000 in
set_option maxRecDepth 100000 in
/-- jump -/
theorem m_jump (l : Launch) (D : va_G) (cI cZ cJ : ClassId) (b : Nat → Nat) (ν : Nat → Int → Int) (s e g t : Int) (hs : -2147483648 ≤ s ∧ s < 2147483648) (he : -2147483648 ≤ e ∧ e < 2147483648) (hg : -2147483648 ≤ g ∧ g < 2147483648) (ht : -2147483648 ≤ t ∧ t < 2147483648) (h21 : ν 21 0 = 0 ∨ ν 21 0 = 1) (h9 : ∀ i, 0 ≤ i → i < 6 → 0 ≤ ν 9 i ∧ ν 9 i ≤ 8) (hI : IP (vw ν)) (hS : SDs (vw (jmR ν s e g t)) s) (hok : (0 ≤ s ∧ s ≤ 5) ∧ (0 ≤ e ∧ e ≤ ν 9 s - 1) ∧ (0 ≤ g ∧ g ≤ ν 9 s - 1) ∧ (0 ≤ t ∧ t ≤ 3) ∧ (ν 21 0 = 0)) : Ci l D (tY cI cZ cJ) yX7_jump wsX7_jump rmX7_jump [.ref (b 0), .int (iI s), .int (iI e), .int (iI g), .int (iI t)] (WMod cI cZ b ν) (lBs (vw (jmR ν s e g t)) s) (WMod cI cZ b (lyW (jmR ν s e g t) s 512)) := by
  refine qi_of (by decide +kernel) rfl (Nat.le_of_ble_eq_true rfl) ?_
  intro zp ze zs zm zargs zbelow zmeth zc A Q ls M hA w hl kret
  have hl : lv_has ls 5 [(0, .ref (b 0)), (1, .int (iI s)), (2, .int (iI e)), (3, .int (iI g)), (4, .int (iI t))] := hl
  have in7 : ∀ w ∈ u_ws RX7 TX7 31, w ∈ wsX7_jump := by decide +kernel
  refine q_aln M dX7_jump_0 (lv_at hl 0 rfl) ?_
  refine q_ic M dX7_jump_1 ?_
  refine q_put (ws2 := WMod cI cZ b (mset ν 0 (fun _ => 0))) M w in7 0 0 tyX7 tyX7_ok nmX7 rfl rfl (by decide) (by decide +kernel) rfl rfl rfl rfl (Nat.le_of_ble_eq_true rfl) rfl dX7_jump_2 (fun H locs w => ?_)
  refine q_iln M dX7_jump_5 (lv_at hl 1 rfl) ?_
  refine qc_iS (As := [.int (iI s)]) (rest := []) (wc := []) (wc2 := []) (ws2 := WMod cI cZ b (mset ν 0 (fun _ => 0))) M w hA hl (m_isSong l D cI cZ cJ s (by omega)) gX7_jump_X7_isSong rfl ⟨rfl, rfl, by decide, by decide⟩ ⟨Nat.zero_le _, Nat.zero_le _⟩ 1 (by decide +kernel) rfl [] rfl rfl rfl (Nat.le_of_ble_eq_true rfl) rfl dX7_jump_6 (fun H locs w => ?_)
  have q6 := inF_c s 0 5
  refine q_if_eq (tgt := 44) M dX7_jump_9 (by decide) (by omega) (fun c9 => ?_) (fun c9 => ?_)
  · exfalso; omega
  · have q9 := h9 s (by omega) (by omega)
    refine q_iln M dX7_jump_12 (lv_at hl 2 rfl) ?_
    refine q_ic M dX7_jump_13 ?_
    refine q_aln M dX7_jump_14 (lv_at hl 0 rfl) ?_
    refine q_get (v := .ref (b 9)) M w in7 0 9 rfl rfl (by decide) (by decide +kernel) rfl rfl dX7_jump_15 ?_
    refine q_iln M dX7_jump_18 (lv_at hl 1 rfl) ?_
    refine q_iald (f := ν 9) M w 9 0 rfl rfl (by omega) dX7_jump_19 ?_
    refine q_ic M dX7_jump_20 ?_
    refine q_sub M dX7_jump_21 ?_
    refine qc_iS (As := [.int (iI e), .int (iI 0), .int (iI (((ν 9) s) - 1))]) (rest := []) (wc := []) (wc2 := []) (ws2 := WMod cI cZ b (mset ν 0 (fun _ => 0))) M w hA hl (m_in l D cI cZ cJ e 0 (((ν 9) s) - 1) (by omega)) gX7_jump_X7_in rfl ⟨rfl, rfl, by decide, by decide⟩ ⟨Nat.zero_le _, Nat.zero_le _⟩ 3 (by decide +kernel) rfl [] rfl rfl rfl (Nat.le_of_ble_eq_true rfl) rfl dX7_jump_22 (fun H locs w => ?_)
    have q22 := inF_c e 0 (((ν 9) s) - 1)
    refine q_if_eq (tgt := 44) M dX7_jump_25 (by decide) (by omega) (fun c25 => ?_) (fun c25 => ?_)
    · exfalso; omega
    · refine q_iln M dX7_jump_28 (lv_at hl 3 rfl) ?_
      refine q_ic M dX7_jump_29 ?_
      refine q_aln M dX7_jump_30 (lv_at hl 0 rfl) ?_
      refine q_get (v := .ref (b 9)) M w in7 0 9 rfl rfl (by decide) (by decide +kernel) rfl rfl dX7_jump_31 ?_
      refine q_iln M dX7_jump_34 (lv_at hl 1 rfl) ?_
      refine q_iald (f := ν 9) M w 9 0 rfl rfl (by omega) dX7_jump_35 ?_
      refine q_ic M dX7_jump_36 ?_
      refine q_sub M dX7_jump_37 ?_
      refine qc_iS (As := [.int (iI g), .int (iI 0), .int (iI (((ν 9) s) - 1))]) (rest := []) (wc := []) (wc2 := []) (ws2 := WMod cI cZ b (mset ν 0 (fun _ => 0))) M w hA hl (m_in l D cI cZ cJ g 0 (((ν 9) s) - 1) (by omega)) gX7_jump_X7_in rfl ⟨rfl, rfl, by decide, by decide⟩ ⟨Nat.zero_le _, Nat.zero_le _⟩ 3 (by decide +kernel) rfl [] rfl rfl rfl (Nat.le_of_ble_eq_true rfl) rfl dX7_jump_38 (fun H locs w => ?_)
      have q38 := inF_c g 0 (((ν 9) s) - 1)
      refine q_if_ne (tgt := 50) M dX7_jump_41 (by decide) (by omega) (fun c41 => ?_) (fun c41 => ?_)
      · refine q_il M dX7_jump_50 (lv_at hl 4 rfl) ?_
        refine q_ic M dX7_jump_52 ?_
        refine q_ic M dX7_jump_53 ?_
        refine qc_iS (As := [.int (iI t), .int (iI 0), .int (iI 3)]) (rest := []) (wc := []) (wc2 := []) (ws2 := WMod cI cZ b (mset ν 0 (fun _ => 0))) M w hA hl (m_in l D cI cZ cJ t 0 3 (by omega)) gX7_jump_X7_in rfl ⟨rfl, rfl, by decide, by decide⟩ ⟨Nat.zero_le _, Nat.zero_le _⟩ 3 (by decide +kernel) rfl [] rfl rfl rfl (Nat.le_of_ble_eq_true rfl) rfl dX7_jump_54 (fun H locs w => ?_)
        have q54 := inF_c t 0 3
        refine q_if_ne (tgt := 66) M dX7_jump_57 (by decide) (by omega) (fun c57 => ?_) (fun c57 => ?_)
        · refine q_aln M dX7_jump_66 (lv_at hl 0 rfl) ?_
          refine q_get (v := .int (iI (ν 21 0))) M w in7 0 21 rfl rfl (by decide) (by decide +kernel) rfl rfl dX7_jump_67 ?_
          refine q_if_eq (tgt := 79) M dX7_jump_70 (by decide) (by omega) (fun c70 => ?_) (fun c70 => ?_)
          · refine q_aln M dX7_jump_79 (lv_at hl 0 rfl) ?_
            refine q_get (v := .ref (b 12)) M w in7 0 12 rfl rfl (by decide) (by decide +kernel) rfl rfl dX7_jump_80 ?_
            refine q_bp M dX7_jump_83 (by decide +kernel) ?_
            refine q_iln M dX7_jump_85 (lv_at hl 1 rfl) ?_
            refine q_mul M dX7_jump_86 ?_
            refine q_iln M dX7_jump_87 (lv_at hl 2 rfl) ?_
            refine q_add M dX7_jump_88 ?_
            refine q_top (y := s * 8 + e) (by omega) ?_
            refine q_iln M dX7_jump_89 (lv_at hl 3 rfl) ?_
            refine q_iast (f := ν 12) (ws2 := WMod cI cZ b (mset (mset ν 0 (fun _ => 0)) 12 (iU (ν 12) (s * 8 + e) g))) M w 12 0 rfl rfl (by omega) rfl dX7_jump_90 (fun H locs w => ?_)
            refine q_aln M dX7_jump_91 (lv_at hl 0 rfl) ?_
            refine q_get (v := .ref (b 13)) M w in7 0 13 rfl rfl (by decide) (by decide +kernel) rfl rfl dX7_jump_92 ?_
            refine q_bp M dX7_jump_95 (by decide +kernel) ?_
            refine q_iln M dX7_jump_97 (lv_at hl 1 rfl) ?_
            refine q_mul M dX7_jump_98 ?_
            refine q_iln M dX7_jump_99 (lv_at hl 2 rfl) ?_
            refine q_add M dX7_jump_100 ?_
            refine q_top (y := s * 8 + e) (by omega) ?_
            refine q_il M dX7_jump_101 (lv_at hl 4 rfl) ?_
            refine q_iast (f := ν 13) (ws2 := WMod cI cZ b (mset (mset (mset ν 0 (fun _ => 0)) 12 (iU (ν 12) (s * 8 + e) g)) 13 (iU (ν 13) (s * 8 + e) t))) M w 13 0 rfl rfl (by omega) rfl dX7_jump_103 (fun H locs w => ?_)
            have w : wW D A zs.heap (WMod cI cZ b (jmR ν s e g t)) H locs := w
            refine q_aln M dX7_jump_104 (lv_at hl 0 rfl) ?_
            refine q_iln M dX7_jump_105 (lv_at hl 1 rfl) ?_
            refine q_sp M dX7_jump_106 (by decide +kernel) ?_
            refine qc_iV (As := [.int (iI s), .int (iI 512)]) (rest := []) (wc := WMod cI cZ b (jmR ν s e g t)) (wc2 := WMod cI cZ b (lyW (jmR ν s e g t) s 512)) (ws2 := WMod cI cZ b (lyW (jmR ν s e g t) s 512)) M w hA hl (m_lays l D cI cZ cJ b (jmR ν s e g t) s 512 hI (hS) (by omega)) gX7_jump_X7_lays rfl ⟨rfl, rfl, by decide, by decide⟩ ⟨Nat.zero_le _, Nat.zero_le _⟩ 2 ⟨rfl, by decide +kernel⟩ rfl [true, true, true, true, true, true, true, true, true, true, true, true, true, true, true, true, true, true, true, true, true] rfl rfl 0 rfl rfl rfl (Nat.le_of_ble_eq_true rfl) rfl dX7_jump_109 (fun H locs w => ?_)
            exact kret _ _ _ _ _ dX7_jump_112 w rfl
          · exfalso; omega
        · exfalso; omega
      · exfalso; omega

set_option maxHeartbeats 4000000 in
set_option maxRecDepth 100000 in
/-- jump -/
theorem m_jump_x (l : Launch) (D : va_G) (cI cZ cJ : ClassId) (b : Nat → Nat) (ν : Nat → Int → Int) (s e g t : Int) (hs : -2147483648 ≤ s ∧ s < 2147483648) (he : -2147483648 ≤ e ∧ e < 2147483648) (hg : -2147483648 ≤ g ∧ g < 2147483648) (ht : -2147483648 ≤ t ∧ t < 2147483648) (h21 : ν 21 0 = 0 ∨ ν 21 0 = 1) (h9 : ∀ i, 0 ≤ i → i < 6 → 0 ≤ ν 9 i ∧ ν 9 i ≤ 8) (k : Int) (hk : (¬ (0 ≤ s ∧ s ≤ 5) ∧ k = 1) ∨ ((0 ≤ s ∧ s ≤ 5) ∧ ¬ (0 ≤ e ∧ e ≤ ν 9 s - 1) ∧ k = 1) ∨ ((0 ≤ s ∧ s ≤ 5) ∧ (0 ≤ e ∧ e ≤ ν 9 s - 1) ∧ ¬ (0 ≤ g ∧ g ≤ ν 9 s - 1) ∧ k = 1) ∨ ((0 ≤ s ∧ s ≤ 5) ∧ (0 ≤ e ∧ e ≤ ν 9 s - 1) ∧ (0 ≤ g ∧ g ≤ ν 9 s - 1) ∧ ¬ (0 ≤ t ∧ t ≤ 3) ∧ k = 2) ∨ ((0 ≤ s ∧ s ≤ 5) ∧ (0 ≤ e ∧ e ≤ ν 9 s - 1) ∧ (0 ≤ g ∧ g ≤ ν 9 s - 1) ∧ (0 ≤ t ∧ t ≤ 3) ∧ ¬ (ν 21 0 = 0) ∧ k = 3)) : Ci l D (tY cI cZ cJ) yX7_jump wsX7_jump rmX7_jump [.ref (b 0), .int (iI s), .int (iI e), .int (iI g), .int (iI t)] (WMod cI cZ b ν) (0) (WMod cI cZ b (mset ν 0 (fun _ => k))) := by
  refine qi_of (by decide +kernel) rfl (Nat.le_of_ble_eq_true rfl) ?_
  intro zp ze zs zm zargs zbelow zmeth zc A Q ls M hA w hl kret
  have hl : lv_has ls 5 [(0, .ref (b 0)), (1, .int (iI s)), (2, .int (iI e)), (3, .int (iI g)), (4, .int (iI t))] := hl
  have in7 : ∀ w ∈ u_ws RX7 TX7 31, w ∈ wsX7_jump := by decide +kernel
  refine q_aln M dX7_jump_0 (lv_at hl 0 rfl) ?_
  refine q_ic M dX7_jump_1 ?_
  refine q_put (ws2 := WMod cI cZ b (mset ν 0 (fun _ => 0))) M w in7 0 0 tyX7 tyX7_ok nmX7 rfl rfl (by decide) (by decide +kernel) rfl rfl rfl rfl (Nat.le_of_ble_eq_true rfl) rfl dX7_jump_2 (fun H locs w => ?_)
  refine q_iln M dX7_jump_5 (lv_at hl 1 rfl) ?_
  refine qc_iS (As := [.int (iI s)]) (rest := []) (wc := []) (wc2 := []) (ws2 := WMod cI cZ b (mset ν 0 (fun _ => 0))) M w hA hl (m_isSong l D cI cZ cJ s (by omega)) gX7_jump_X7_isSong rfl ⟨rfl, rfl, by decide, by decide⟩ ⟨Nat.zero_le _, Nat.zero_le _⟩ 1 (by decide +kernel) rfl [] rfl rfl rfl (Nat.le_of_ble_eq_true rfl) rfl dX7_jump_6 (fun H locs w => ?_)
  have q6 := inF_c s 0 5
  refine q_if_eq (tgt := 44) M dX7_jump_9 (by decide) (by omega) (fun c9 => ?_) (fun c9 => ?_)
  · refine q_aln M dX7_jump_44 (lv_at hl 0 rfl) ?_
    refine q_ic M dX7_jump_45 ?_
    refine qc_iV (As := [.int (iI 1)]) (rest := []) (wc := WMod cI cZ b (mset ν 0 (fun _ => 0))) (wc2 := WMod cI cZ b (mset ν 0 (fun _ => 1))) (ws2 := WMod cI cZ b (mset ν 0 (fun _ => 1))) M w hA hl (m_fails l D cI cZ cJ b (mset ν 0 (fun _ => 0)) 1 ) gX7_jump_X7_fails rfl ⟨rfl, rfl, by decide, by decide⟩ ⟨Nat.zero_le _, Nat.zero_le _⟩ 1 ⟨rfl, by decide +kernel⟩ rfl [true, true, true, true, true, true, true, true, true, true, true, true, true, true, true, true, true, true, true, true, true] rfl rfl 0 rfl rfl rfl (Nat.le_of_ble_eq_true rfl) rfl dX7_jump_46 (fun H locs w => ?_)
    have hk1 : k = 1 := by omega
    subst hk1
    exact kret _ _ _ _ _ dX7_jump_49 w rfl
  · have q9 := h9 s (by omega) (by omega)
    refine q_iln M dX7_jump_12 (lv_at hl 2 rfl) ?_
    refine q_ic M dX7_jump_13 ?_
    refine q_aln M dX7_jump_14 (lv_at hl 0 rfl) ?_
    refine q_get (v := .ref (b 9)) M w in7 0 9 rfl rfl (by decide) (by decide +kernel) rfl rfl dX7_jump_15 ?_
    refine q_iln M dX7_jump_18 (lv_at hl 1 rfl) ?_
    refine q_iald (f := ν 9) M w 9 0 rfl rfl (by omega) dX7_jump_19 ?_
    refine q_ic M dX7_jump_20 ?_
    refine q_sub M dX7_jump_21 ?_
    refine qc_iS (As := [.int (iI e), .int (iI 0), .int (iI (((ν 9) s) - 1))]) (rest := []) (wc := []) (wc2 := []) (ws2 := WMod cI cZ b (mset ν 0 (fun _ => 0))) M w hA hl (m_in l D cI cZ cJ e 0 (((ν 9) s) - 1) (by omega)) gX7_jump_X7_in rfl ⟨rfl, rfl, by decide, by decide⟩ ⟨Nat.zero_le _, Nat.zero_le _⟩ 3 (by decide +kernel) rfl [] rfl rfl rfl (Nat.le_of_ble_eq_true rfl) rfl dX7_jump_22 (fun H locs w => ?_)
    have q22 := inF_c e 0 (((ν 9) s) - 1)
    refine q_if_eq (tgt := 44) M dX7_jump_25 (by decide) (by omega) (fun c25 => ?_) (fun c25 => ?_)
    · refine q_aln M dX7_jump_44 (lv_at hl 0 rfl) ?_
      refine q_ic M dX7_jump_45 ?_
      refine qc_iV (As := [.int (iI 1)]) (rest := []) (wc := WMod cI cZ b (mset ν 0 (fun _ => 0))) (wc2 := WMod cI cZ b (mset ν 0 (fun _ => 1))) (ws2 := WMod cI cZ b (mset ν 0 (fun _ => 1))) M w hA hl (m_fails l D cI cZ cJ b (mset ν 0 (fun _ => 0)) 1 ) gX7_jump_X7_fails rfl ⟨rfl, rfl, by decide, by decide⟩ ⟨Nat.zero_le _, Nat.zero_le _⟩ 1 ⟨rfl, by decide +kernel⟩ rfl [true, true, true, true, true, true, true, true, true, true, true, true, true, true, true, true, true, true, true, true, true] rfl rfl 0 rfl rfl rfl (Nat.le_of_ble_eq_true rfl) rfl dX7_jump_46 (fun H locs w => ?_)
      have hk1 : k = 1 := by omega
      subst hk1
      exact kret _ _ _ _ _ dX7_jump_49 w rfl
    · refine q_iln M dX7_jump_28 (lv_at hl 3 rfl) ?_
      refine q_ic M dX7_jump_29 ?_
      refine q_aln M dX7_jump_30 (lv_at hl 0 rfl) ?_
      refine q_get (v := .ref (b 9)) M w in7 0 9 rfl rfl (by decide) (by decide +kernel) rfl rfl dX7_jump_31 ?_
      refine q_iln M dX7_jump_34 (lv_at hl 1 rfl) ?_
      refine q_iald (f := ν 9) M w 9 0 rfl rfl (by omega) dX7_jump_35 ?_
      refine q_ic M dX7_jump_36 ?_
      refine q_sub M dX7_jump_37 ?_
      refine qc_iS (As := [.int (iI g), .int (iI 0), .int (iI (((ν 9) s) - 1))]) (rest := []) (wc := []) (wc2 := []) (ws2 := WMod cI cZ b (mset ν 0 (fun _ => 0))) M w hA hl (m_in l D cI cZ cJ g 0 (((ν 9) s) - 1) (by omega)) gX7_jump_X7_in rfl ⟨rfl, rfl, by decide, by decide⟩ ⟨Nat.zero_le _, Nat.zero_le _⟩ 3 (by decide +kernel) rfl [] rfl rfl rfl (Nat.le_of_ble_eq_true rfl) rfl dX7_jump_38 (fun H locs w => ?_)
      have q38 := inF_c g 0 (((ν 9) s) - 1)
      refine q_if_ne (tgt := 50) M dX7_jump_41 (by decide) (by omega) (fun c41 => ?_) (fun c41 => ?_)
      · refine q_il M dX7_jump_50 (lv_at hl 4 rfl) ?_
        refine q_ic M dX7_jump_52 ?_
        refine q_ic M dX7_jump_53 ?_
        refine qc_iS (As := [.int (iI t), .int (iI 0), .int (iI 3)]) (rest := []) (wc := []) (wc2 := []) (ws2 := WMod cI cZ b (mset ν 0 (fun _ => 0))) M w hA hl (m_in l D cI cZ cJ t 0 3 (by omega)) gX7_jump_X7_in rfl ⟨rfl, rfl, by decide, by decide⟩ ⟨Nat.zero_le _, Nat.zero_le _⟩ 3 (by decide +kernel) rfl [] rfl rfl rfl (Nat.le_of_ble_eq_true rfl) rfl dX7_jump_54 (fun H locs w => ?_)
        have q54 := inF_c t 0 3
        refine q_if_ne (tgt := 66) M dX7_jump_57 (by decide) (by omega) (fun c57 => ?_) (fun c57 => ?_)
        · refine q_aln M dX7_jump_66 (lv_at hl 0 rfl) ?_
          refine q_get (v := .int (iI (ν 21 0))) M w in7 0 21 rfl rfl (by decide) (by decide +kernel) rfl rfl dX7_jump_67 ?_
          refine q_if_eq (tgt := 79) M dX7_jump_70 (by decide) (by omega) (fun c70 => ?_) (fun c70 => ?_)
          · exfalso; omega
          · refine q_aln M dX7_jump_73 (lv_at hl 0 rfl) ?_
            refine q_ic M dX7_jump_74 ?_
            refine qc_iV (As := [.int (iI 3)]) (rest := []) (wc := WMod cI cZ b (mset ν 0 (fun _ => 0))) (wc2 := WMod cI cZ b (mset ν 0 (fun _ => 3))) (ws2 := WMod cI cZ b (mset ν 0 (fun _ => 3))) M w hA hl (m_fails l D cI cZ cJ b (mset ν 0 (fun _ => 0)) 3 ) gX7_jump_X7_fails rfl ⟨rfl, rfl, by decide, by decide⟩ ⟨Nat.zero_le _, Nat.zero_le _⟩ 1 ⟨rfl, by decide +kernel⟩ rfl [true, true, true, true, true, true, true, true, true, true, true, true, true, true, true, true, true, true, true, true, true] rfl rfl 0 rfl rfl rfl (Nat.le_of_ble_eq_true rfl) rfl dX7_jump_75 (fun H locs w => ?_)
            have hk1 : k = 3 := by omega
            subst hk1
            exact kret _ _ _ _ _ dX7_jump_78 w rfl
        · refine q_aln M dX7_jump_60 (lv_at hl 0 rfl) ?_
          refine q_ic M dX7_jump_61 ?_
          refine qc_iV (As := [.int (iI 2)]) (rest := []) (wc := WMod cI cZ b (mset ν 0 (fun _ => 0))) (wc2 := WMod cI cZ b (mset ν 0 (fun _ => 2))) (ws2 := WMod cI cZ b (mset ν 0 (fun _ => 2))) M w hA hl (m_fails l D cI cZ cJ b (mset ν 0 (fun _ => 0)) 2 ) gX7_jump_X7_fails rfl ⟨rfl, rfl, by decide, by decide⟩ ⟨Nat.zero_le _, Nat.zero_le _⟩ 1 ⟨rfl, by decide +kernel⟩ rfl [true, true, true, true, true, true, true, true, true, true, true, true, true, true, true, true, true, true, true, true, true] rfl rfl 0 rfl rfl rfl (Nat.le_of_ble_eq_true rfl) rfl dX7_jump_62 (fun H locs w => ?_)
          have hk1 : k = 2 := by omega
          subst hk1
          exact kret _ _ _ _ _ dX7_jump_65 w rfl
      · refine q_aln M dX7_jump_44 (lv_at hl 0 rfl) ?_
        refine q_ic M dX7_jump_45 ?_
        refine qc_iV (As := [.int (iI 1)]) (rest := []) (wc := WMod cI cZ b (mset ν 0 (fun _ => 0))) (wc2 := WMod cI cZ b (mset ν 0 (fun _ => 1))) (ws2 := WMod cI cZ b (mset ν 0 (fun _ => 1))) M w hA hl (m_fails l D cI cZ cJ b (mset ν 0 (fun _ => 0)) 1 ) gX7_jump_X7_fails rfl ⟨rfl, rfl, by decide, by decide⟩ ⟨Nat.zero_le _, Nat.zero_le _⟩ 1 ⟨rfl, by decide +kernel⟩ rfl [true, true, true, true, true, true, true, true, true, true, true, true, true, true, true, true, true, true, true, true, true] rfl rfl 0 rfl rfl rfl (Nat.le_of_ble_eq_true rfl) rfl dX7_jump_46 (fun H locs w => ?_)
        have hk1 : k = 1 := by omega
        subst hk1
        exact kret _ _ _ _ _ dX7_jump_49 w rfl

set_option maxHeartbeats 4000000 in
set_option maxRecDepth 100000 in
/-- bars -/
theorem m_bars (l : Launch) (D : va_G) (cI cZ cJ : ClassId) (b : Nat → Nat) (ν : Nat → Int → Int) (s : Int) (hs : -2147483648 ≤ s ∧ s < 2147483648) (hI : IP (vw ν)) (hS : SDs (vw ν) s) (hok : 0 ≤ s ∧ s ≤ 5) : Ci l D (tY cI cZ cJ) yX7_bars wsX7_bars rmX7_bars [.ref (b 0), .int (iI s)] (WMod cI cZ b ν) (lBs (vw ν) s) (WMod cI cZ b (lyW (r0 ν) s 512)) := by
  refine qi_of (by decide +kernel) rfl (Nat.le_of_ble_eq_true rfl) ?_
  intro zp ze zs zm zargs zbelow zmeth zc A Q ls M hA w hl kret
  have hl : lv_has ls 2 [(0, .ref (b 0)), (1, .int (iI s))] := hl
  have in7 : ∀ w ∈ u_ws RX7 TX7 31, w ∈ wsX7_bars := by decide +kernel
  refine q_aln M dX7_bars_0 (lv_at hl 0 rfl) ?_
  refine q_ic M dX7_bars_1 ?_
  refine q_put (ws2 := WMod cI cZ b (mset ν 0 (fun _ => 0))) M w in7 0 0 tyX7 tyX7_ok nmX7 rfl rfl (by decide) (by decide +kernel) rfl rfl rfl rfl (Nat.le_of_ble_eq_true rfl) rfl dX7_bars_2 (fun H locs w => ?_)
  refine q_iln M dX7_bars_5 (lv_at hl 1 rfl) ?_
  refine qc_iS (As := [.int (iI s)]) (rest := []) (wc := []) (wc2 := []) (ws2 := WMod cI cZ b (mset ν 0 (fun _ => 0))) M w hA hl (m_isSong l D cI cZ cJ s (by omega)) gX7_bars_X7_isSong rfl ⟨rfl, rfl, by decide, by decide⟩ ⟨Nat.zero_le _, Nat.zero_le _⟩ 1 (by decide +kernel) rfl [] rfl rfl rfl (Nat.le_of_ble_eq_true rfl) rfl dX7_bars_6 (fun H locs w => ?_)
  have q6 := inF_c s 0 5
  refine q_if_eq (tgt := 23) M dX7_bars_9 (by decide) (by omega) (fun c9 => ?_) (fun c9 => ?_)
  · exfalso; omega
  · have w : wW D A zs.heap (WMod cI cZ b (r0 ν)) H locs := w
    refine q_aln M dX7_bars_12 (lv_at hl 0 rfl) ?_
    refine q_iln M dX7_bars_13 (lv_at hl 1 rfl) ?_
    refine q_sp M dX7_bars_14 (by decide +kernel) ?_
    refine qc_iV (As := [.int (iI s), .int (iI 512)]) (rest := []) (wc := WMod cI cZ b (r0 ν)) (wc2 := WMod cI cZ b (lyW (r0 ν) s 512)) (ws2 := WMod cI cZ b (lyW (r0 ν) s 512)) M w hA hl (m_lays l D cI cZ cJ b (r0 ν) s 512 hI (hS) (by omega)) gX7_bars_X7_lays rfl ⟨rfl, rfl, by decide, by decide⟩ ⟨Nat.zero_le _, Nat.zero_le _⟩ 2 ⟨rfl, by decide +kernel⟩ rfl [true, true, true, true, true, true, true, true, true, true, true, true, true, true, true, true, true, true, true, true, true] rfl rfl 0 rfl rfl rfl (Nat.le_of_ble_eq_true rfl) rfl dX7_bars_17 (fun H locs w => ?_)
    refine q_go (tgt := 28) M dX7_bars_20 (by decide) ?_
    exact kret _ _ _ _ _ dX7_bars_28 w rfl

set_option maxHeartbeats 4000000 in
set_option maxRecDepth 100000 in
/-- bars -/
theorem m_bars_x (l : Launch) (D : va_G) (cI cZ cJ : ClassId) (b : Nat → Nat) (ν : Nat → Int → Int) (s : Int) (hs : -2147483648 ≤ s ∧ s < 2147483648) (k : Int) (hk : ¬ (0 ≤ s ∧ s ≤ 5) ∧ k = 1) : Ci l D (tY cI cZ cJ) yX7_bars wsX7_bars rmX7_bars [.ref (b 0), .int (iI s)] (WMod cI cZ b ν) (0) (WMod cI cZ b (mset ν 0 (fun _ => k))) := by
  refine qi_of (by decide +kernel) rfl (Nat.le_of_ble_eq_true rfl) ?_
  intro zp ze zs zm zargs zbelow zmeth zc A Q ls M hA w hl kret
  have hl : lv_has ls 2 [(0, .ref (b 0)), (1, .int (iI s))] := hl
  have in7 : ∀ w ∈ u_ws RX7 TX7 31, w ∈ wsX7_bars := by decide +kernel
  refine q_aln M dX7_bars_0 (lv_at hl 0 rfl) ?_
  refine q_ic M dX7_bars_1 ?_
  refine q_put (ws2 := WMod cI cZ b (mset ν 0 (fun _ => 0))) M w in7 0 0 tyX7 tyX7_ok nmX7 rfl rfl (by decide) (by decide +kernel) rfl rfl rfl rfl (Nat.le_of_ble_eq_true rfl) rfl dX7_bars_2 (fun H locs w => ?_)
  refine q_iln M dX7_bars_5 (lv_at hl 1 rfl) ?_
  refine qc_iS (As := [.int (iI s)]) (rest := []) (wc := []) (wc2 := []) (ws2 := WMod cI cZ b (mset ν 0 (fun _ => 0))) M w hA hl (m_isSong l D cI cZ cJ s (by omega)) gX7_bars_X7_isSong rfl ⟨rfl, rfl, by decide, by decide⟩ ⟨Nat.zero_le _, Nat.zero_le _⟩ 1 (by decide +kernel) rfl [] rfl rfl rfl (Nat.le_of_ble_eq_true rfl) rfl dX7_bars_6 (fun H locs w => ?_)
  have q6 := inF_c s 0 5
  refine q_if_eq (tgt := 23) M dX7_bars_9 (by decide) (by omega) (fun c9 => ?_) (fun c9 => ?_)
  · refine q_aln M dX7_bars_23 (lv_at hl 0 rfl) ?_
    refine q_ic M dX7_bars_24 ?_
    refine qc_iV (As := [.int (iI 1)]) (rest := []) (wc := WMod cI cZ b (mset ν 0 (fun _ => 0))) (wc2 := WMod cI cZ b (mset ν 0 (fun _ => 1))) (ws2 := WMod cI cZ b (mset ν 0 (fun _ => 1))) M w hA hl (m_fails l D cI cZ cJ b (mset ν 0 (fun _ => 0)) 1 ) gX7_bars_X7_fails rfl ⟨rfl, rfl, by decide, by decide⟩ ⟨Nat.zero_le _, Nat.zero_le _⟩ 1 ⟨rfl, by decide +kernel⟩ rfl [true, true, true, true, true, true, true, true, true, true, true, true, true, true, true, true, true, true, true, true, true] rfl rfl 0 rfl rfl rfl (Nat.le_of_ble_eq_true rfl) rfl dX7_bars_25 (fun H locs w => ?_)
    have hk1 : k = 1 := by omega
    subst hk1
    exact kret _ _ _ _ _ dX7_bars_28 w rfl
  · exfalso; omega

set_option maxHeartbeats 4000000 in
set_option maxRecDepth 100000 in
/-- barAt -/
theorem m_barAt (l : Launch) (D : va_G) (cI cZ cJ : ClassId) (b : Nat → Nat) (ν : Nat → Int → Int) (s x : Int) (hs : -2147483648 ≤ s ∧ s < 2147483648) (hx : -2147483648 ≤ x ∧ x < 2147483648) (hI : IP (vw ν)) (hS : SDs (vw ν) s) (hok : (0 ≤ s ∧ s ≤ 5) ∧ (0 ≤ x ∧ x ≤ lBs (vw ν) s - 1)) : Ci l D (tY cI cZ cJ) yX7_barAt wsX7_barAt rmX7_barAt [.ref (b 0), .int (iI s), .int (iI x)] (WMod cI cZ b ν) ((cdF (vw ν) (bP (vw ν) s x) (bT (vw ν) s x))) (WMod cI cZ b (lyW (r0 ν) s 512)) := by
  refine qi_of (by decide +kernel) rfl (Nat.le_of_ble_eq_true rfl) ?_
  intro zp ze zs zm zargs zbelow zmeth zc A Q ls M hA w hl kret
  have hl : lv_has ls 3 [(0, .ref (b 0)), (1, .int (iI s)), (2, .int (iI x))] := hl
  have in7 : ∀ w ∈ u_ws RX7 TX7 31, w ∈ wsX7_barAt := by decide +kernel
  refine q_aln M dX7_barAt_0 (lv_at hl 0 rfl) ?_
  refine q_ic M dX7_barAt_1 ?_
  refine q_put (ws2 := WMod cI cZ b (mset ν 0 (fun _ => 0))) M w in7 0 0 tyX7 tyX7_ok nmX7 rfl rfl (by decide) (by decide +kernel) rfl rfl rfl rfl (Nat.le_of_ble_eq_true rfl) rfl dX7_barAt_2 (fun H locs w => ?_)
  refine q_iln M dX7_barAt_5 (lv_at hl 1 rfl) ?_
  refine qc_iS (As := [.int (iI s)]) (rest := []) (wc := []) (wc2 := []) (ws2 := WMod cI cZ b (mset ν 0 (fun _ => 0))) M w hA hl (m_isSong l D cI cZ cJ s (by omega)) gX7_barAt_X7_isSong rfl ⟨rfl, rfl, by decide, by decide⟩ ⟨Nat.zero_le _, Nat.zero_le _⟩ 1 (by decide +kernel) rfl [] rfl rfl rfl (Nat.le_of_ble_eq_true rfl) rfl dX7_barAt_6 (fun H locs w => ?_)
  have q6 := inF_c s 0 5
  refine q_if_eq (tgt := 30) M dX7_barAt_9 (by decide) (by omega) (fun c9 => ?_) (fun c9 => ?_)
  · exfalso; omega
  · refine q_iln M dX7_barAt_12 (lv_at hl 2 rfl) ?_
    refine q_ic M dX7_barAt_13 ?_
    have w : wW D A zs.heap (WMod cI cZ b (r0 ν)) H locs := w
    have q8 := lBs_bd (vw ν) s
    refine q_aln M dX7_barAt_14 (lv_at hl 0 rfl) ?_
    refine q_iln M dX7_barAt_15 (lv_at hl 1 rfl) ?_
    refine q_sp M dX7_barAt_16 (by decide +kernel) ?_
    refine qc_iV (As := [.int (iI s), .int (iI 512)]) (rest := [.int (iI 0), .int (iI x)]) (wc := WMod cI cZ b (r0 ν)) (wc2 := WMod cI cZ b (lyW (r0 ν) s 512)) (ws2 := WMod cI cZ b (lyW (r0 ν) s 512)) M w hA hl (m_lays l D cI cZ cJ b (r0 ν) s 512 hI (hS) (by omega)) gX7_barAt_X7_lays rfl ⟨rfl, rfl, by decide, by decide⟩ ⟨Nat.zero_le _, Nat.zero_le _⟩ 2 ⟨rfl, by decide +kernel⟩ rfl [true, true, true, true, true, true, true, true, true, true, true, true, true, true, true, true, true, true, true, true, true] rfl rfl 0 rfl rfl rfl (Nat.le_of_ble_eq_true rfl) rfl dX7_barAt_19 (fun H locs w => ?_)
    refine q_top (y := lBs (vw ν) s) (by rfl) ?_
    refine q_ic M dX7_barAt_22 ?_
    refine q_sub M dX7_barAt_23 ?_
    refine qc_iS (As := [.int (iI x), .int (iI 0), .int (iI ((lBs (vw ν) s) - 1))]) (rest := []) (wc := []) (wc2 := []) (ws2 := WMod cI cZ b (lyW (r0 ν) s 512)) M w hA hl (m_in l D cI cZ cJ x 0 ((lBs (vw ν) s) - 1) (by omega)) gX7_barAt_X7_in rfl ⟨rfl, rfl, by decide, by decide⟩ ⟨Nat.zero_le _, Nat.zero_le _⟩ 3 (by decide +kernel) rfl [] rfl rfl rfl (Nat.le_of_ble_eq_true rfl) rfl dX7_barAt_24 (fun H locs w => ?_)
    have q24 := inF_c x 0 ((lBs (vw ν) s) - 1)
    refine q_if_ne (tgt := 36) M dX7_barAt_27 (by decide) (by omega) (fun c27 => ?_) (fun c27 => ?_)
    · have g1 : cB (lyW (r0 ν) s 512) (512 + x) = (cdF (vw ν) (bP (vw ν) s x) (bT (vw ν) s x)) := cB_ly ⟨by omega, by show x < lBs (vw ν) s; omega⟩
      have g2 := ly_16 (q := 512) (ν := r0 ν) (s := s) (x := x) hS ⟨by omega, by show x < lBs (vw ν) s; omega⟩
      refine q_bp M dX7_barAt_36 (by decide +kernel) ?_
      refine q_aln M dX7_barAt_38 (lv_at hl 0 rfl) ?_
      refine q_get (v := .ref (b 16)) M w in7 0 16 rfl rfl (by decide) (by decide +kernel) rfl rfl dX7_barAt_39 ?_
      refine q_sp M dX7_barAt_42 (by decide +kernel) ?_
      refine q_iln M dX7_barAt_45 (lv_at hl 2 rfl) ?_
      refine q_add M dX7_barAt_46 ?_
      refine q_iald (f := (lyW (r0 ν) s 512) 16) M w 15 0 rfl rfl (by omega) dX7_barAt_47 ?_
      refine q_mul M dX7_barAt_48 ?_
      refine q_aln M dX7_barAt_49 (lv_at hl 0 rfl) ?_
      refine q_get (v := .ref (b 17)) M w in7 0 17 rfl rfl (by decide) (by decide +kernel) rfl rfl dX7_barAt_50 ?_
      refine q_sp M dX7_barAt_53 (by decide +kernel) ?_
      refine q_iln M dX7_barAt_56 (lv_at hl 2 rfl) ?_
      refine q_add M dX7_barAt_57 ?_
      refine q_zald (f := (lyW (r0 ν) s 512) 17) M w 16 1 rfl rfl (by omega) dX7_barAt_58 ?_
      refine q_if_eq (tgt := 66) M dX7_barAt_59 (by decide) (by omega) (fun c59 => ?_) (fun c59 => ?_)
      · refine q_ic M dX7_barAt_66 ?_
        refine q_add M dX7_barAt_67 ?_
        exact kret _ _ _ _ _ dX7_barAt_68 w (by rw [← g1]; unfold cB; omega)
      · refine q_ic M dX7_barAt_62 ?_
        refine q_go (tgt := 67) M dX7_barAt_63 (by decide) ?_
        refine q_add M dX7_barAt_67 ?_
        exact kret _ _ _ _ _ dX7_barAt_68 w (by rw [← g1]; unfold cB; omega)
    · exfalso; omega

set_option maxHeartbeats 4000000 in
set_option maxRecDepth 100000 in
/-- barAt -/
theorem m_barAt_x (l : Launch) (D : va_G) (cI cZ cJ : ClassId) (b : Nat → Nat) (ν : Nat → Int → Int) (s x : Int) (hs : -2147483648 ≤ s ∧ s < 2147483648) (hx : -2147483648 ≤ x ∧ x < 2147483648) (k : Int) (hk : ¬ (0 ≤ s ∧ s ≤ 5) ∧ k = 1) : Ci l D (tY cI cZ cJ) yX7_barAt wsX7_barAt rmX7_barAt [.ref (b 0), .int (iI s), .int (iI x)] (WMod cI cZ b ν) (0) (WMod cI cZ b (mset ν 0 (fun _ => k))) := by
  refine qi_of (by decide +kernel) rfl (Nat.le_of_ble_eq_true rfl) ?_
  intro zp ze zs zm zargs zbelow zmeth zc A Q ls M hA w hl kret
  have hl : lv_has ls 3 [(0, .ref (b 0)), (1, .int (iI s)), (2, .int (iI x))] := hl
  have in7 : ∀ w ∈ u_ws RX7 TX7 31, w ∈ wsX7_barAt := by decide +kernel
  refine q_aln M dX7_barAt_0 (lv_at hl 0 rfl) ?_
  refine q_ic M dX7_barAt_1 ?_
  refine q_put (ws2 := WMod cI cZ b (mset ν 0 (fun _ => 0))) M w in7 0 0 tyX7 tyX7_ok nmX7 rfl rfl (by decide) (by decide +kernel) rfl rfl rfl rfl (Nat.le_of_ble_eq_true rfl) rfl dX7_barAt_2 (fun H locs w => ?_)
  refine q_iln M dX7_barAt_5 (lv_at hl 1 rfl) ?_
  refine qc_iS (As := [.int (iI s)]) (rest := []) (wc := []) (wc2 := []) (ws2 := WMod cI cZ b (mset ν 0 (fun _ => 0))) M w hA hl (m_isSong l D cI cZ cJ s (by omega)) gX7_barAt_X7_isSong rfl ⟨rfl, rfl, by decide, by decide⟩ ⟨Nat.zero_le _, Nat.zero_le _⟩ 1 (by decide +kernel) rfl [] rfl rfl rfl (Nat.le_of_ble_eq_true rfl) rfl dX7_barAt_6 (fun H locs w => ?_)
  have q6 := inF_c s 0 5
  refine q_if_eq (tgt := 30) M dX7_barAt_9 (by decide) (by omega) (fun c9 => ?_) (fun c9 => ?_)
  · refine q_aln M dX7_barAt_30 (lv_at hl 0 rfl) ?_
    refine q_ic M dX7_barAt_31 ?_
    refine qc_iV (As := [.int (iI 1)]) (rest := []) (wc := WMod cI cZ b (mset ν 0 (fun _ => 0))) (wc2 := WMod cI cZ b (mset ν 0 (fun _ => 1))) (ws2 := WMod cI cZ b (mset ν 0 (fun _ => 1))) M w hA hl (m_fails l D cI cZ cJ b (mset ν 0 (fun _ => 0)) 1 ) gX7_barAt_X7_fails rfl ⟨rfl, rfl, by decide, by decide⟩ ⟨Nat.zero_le _, Nat.zero_le _⟩ 1 ⟨rfl, by decide +kernel⟩ rfl [true, true, true, true, true, true, true, true, true, true, true, true, true, true, true, true, true, true, true, true, true] rfl rfl 0 rfl rfl rfl (Nat.le_of_ble_eq_true rfl) rfl dX7_barAt_32 (fun H locs w => ?_)
    have hk1 : k = 1 := by omega
    subst hk1
    exact kret _ _ _ _ _ dX7_barAt_35 w rfl
  · exfalso; omega

set_option maxHeartbeats 4000000 in
set_option maxRecDepth 100000 in
/-- barAt -/
theorem m_barAt_y (l : Launch) (D : va_G) (cI cZ cJ : ClassId) (b : Nat → Nat) (ν : Nat → Int → Int) (s x : Int) (hs : -2147483648 ≤ s ∧ s < 2147483648) (hx : -2147483648 ≤ x ∧ x < 2147483648) (hI : IP (vw ν)) (hS : SDs (vw ν) s) (hk : (0 ≤ s ∧ s ≤ 5) ∧ ¬ (0 ≤ x ∧ x ≤ lBs (vw ν) s - 1)) : Ci l D (tY cI cZ cJ) yX7_barAt wsX7_barAt rmX7_barAt [.ref (b 0), .int (iI s), .int (iI x)] (WMod cI cZ b ν) (0) (WMod cI cZ b (mset (lyW (r0 ν) s 512) 0 (fun _ => 1))) := by
  refine qi_of (by decide +kernel) rfl (Nat.le_of_ble_eq_true rfl) ?_
  intro zp ze zs zm zargs zbelow zmeth zc A Q ls M hA w hl kret
  have hl : lv_has ls 3 [(0, .ref (b 0)), (1, .int (iI s)), (2, .int (iI x))] := hl
  have in7 : ∀ w ∈ u_ws RX7 TX7 31, w ∈ wsX7_barAt := by decide +kernel
  refine q_aln M dX7_barAt_0 (lv_at hl 0 rfl) ?_
  refine q_ic M dX7_barAt_1 ?_
  refine q_put (ws2 := WMod cI cZ b (mset ν 0 (fun _ => 0))) M w in7 0 0 tyX7 tyX7_ok nmX7 rfl rfl (by decide) (by decide +kernel) rfl rfl rfl rfl (Nat.le_of_ble_eq_true rfl) rfl dX7_barAt_2 (fun H locs w => ?_)
  refine q_iln M dX7_barAt_5 (lv_at hl 1 rfl) ?_
  refine qc_iS (As := [.int (iI s)]) (rest := []) (wc := []) (wc2 := []) (ws2 := WMod cI cZ b (mset ν 0 (fun _ => 0))) M w hA hl (m_isSong l D cI cZ cJ s (by omega)) gX7_barAt_X7_isSong rfl ⟨rfl, rfl, by decide, by decide⟩ ⟨Nat.zero_le _, Nat.zero_le _⟩ 1 (by decide +kernel) rfl [] rfl rfl rfl (Nat.le_of_ble_eq_true rfl) rfl dX7_barAt_6 (fun H locs w => ?_)
  have q6 := inF_c s 0 5
  refine q_if_eq (tgt := 30) M dX7_barAt_9 (by decide) (by omega) (fun c9 => ?_) (fun c9 => ?_)
  · exfalso; omega
  · refine q_iln M dX7_barAt_12 (lv_at hl 2 rfl) ?_
    refine q_ic M dX7_barAt_13 ?_
    have w : wW D A zs.heap (WMod cI cZ b (r0 ν)) H locs := w
    have q8 := lBs_bd (vw ν) s
    refine q_aln M dX7_barAt_14 (lv_at hl 0 rfl) ?_
    refine q_iln M dX7_barAt_15 (lv_at hl 1 rfl) ?_
    refine q_sp M dX7_barAt_16 (by decide +kernel) ?_
    refine qc_iV (As := [.int (iI s), .int (iI 512)]) (rest := [.int (iI 0), .int (iI x)]) (wc := WMod cI cZ b (r0 ν)) (wc2 := WMod cI cZ b (lyW (r0 ν) s 512)) (ws2 := WMod cI cZ b (lyW (r0 ν) s 512)) M w hA hl (m_lays l D cI cZ cJ b (r0 ν) s 512 hI (hS) (by omega)) gX7_barAt_X7_lays rfl ⟨rfl, rfl, by decide, by decide⟩ ⟨Nat.zero_le _, Nat.zero_le _⟩ 2 ⟨rfl, by decide +kernel⟩ rfl [true, true, true, true, true, true, true, true, true, true, true, true, true, true, true, true, true, true, true, true, true] rfl rfl 0 rfl rfl rfl (Nat.le_of_ble_eq_true rfl) rfl dX7_barAt_19 (fun H locs w => ?_)
    refine q_top (y := lBs (vw ν) s) (by rfl) ?_
    refine q_ic M dX7_barAt_22 ?_
    refine q_sub M dX7_barAt_23 ?_
    refine qc_iS (As := [.int (iI x), .int (iI 0), .int (iI ((lBs (vw ν) s) - 1))]) (rest := []) (wc := []) (wc2 := []) (ws2 := WMod cI cZ b (lyW (r0 ν) s 512)) M w hA hl (m_in l D cI cZ cJ x 0 ((lBs (vw ν) s) - 1) (by omega)) gX7_barAt_X7_in rfl ⟨rfl, rfl, by decide, by decide⟩ ⟨Nat.zero_le _, Nat.zero_le _⟩ 3 (by decide +kernel) rfl [] rfl rfl rfl (Nat.le_of_ble_eq_true rfl) rfl dX7_barAt_24 (fun H locs w => ?_)
    have q24 := inF_c x 0 ((lBs (vw ν) s) - 1)
    refine q_if_ne (tgt := 36) M dX7_barAt_27 (by decide) (by omega) (fun c27 => ?_) (fun c27 => ?_)
    · exfalso; omega
    · refine q_aln M dX7_barAt_30 (lv_at hl 0 rfl) ?_
      refine q_ic M dX7_barAt_31 ?_
      refine qc_iV (As := [.int (iI 1)]) (rest := []) (wc := WMod cI cZ b (lyW (r0 ν) s 512)) (wc2 := WMod cI cZ b (mset (lyW (r0 ν) s 512) 0 (fun _ => 1))) (ws2 := WMod cI cZ b (mset (lyW (r0 ν) s 512) 0 (fun _ => 1))) M w hA hl (m_fails l D cI cZ cJ b (lyW (r0 ν) s 512) 1 ) gX7_barAt_X7_fails rfl ⟨rfl, rfl, by decide, by decide⟩ ⟨Nat.zero_le _, Nat.zero_le _⟩ 1 ⟨rfl, by decide +kernel⟩ rfl [true, true, true, true, true, true, true, true, true, true, true, true, true, true, true, true, true, true, true, true, true] rfl rfl 0 rfl rfl rfl (Nat.le_of_ble_eq_true rfl) rfl dX7_barAt_32 (fun H locs w => ?_)
      exact kret _ _ _ _ _ dX7_barAt_35 w rfl

set_option maxHeartbeats 4000000 in
set_option maxRecDepth 100000 in
/-- beatsOf -/
theorem m_beatsOf (l : Launch) (D : va_G) (cI cZ cJ : ClassId) (b : Nat → Nat) (ν : Nat → Int → Int) (s : Int) (hs : -2147483648 ≤ s ∧ s < 2147483648) (hI : IP (vw ν)) (hS : SDs (vw ν) s) (hc : 0 ≤ s ∧ s < 6) : Ci l D (tY cI cZ cJ) yX7_beatsOf wsX7_beatsOf rmX7_beatsOf [.ref (b 0), .int (iI s)] (WMod cI cZ b ν) (sI (btR (vw ν) s) (lBs (vw ν) s * 64)) (WMod cI cZ b (lyW ν s 512)) := by
  refine qi_of (by decide +kernel) rfl (Nat.le_of_ble_eq_true rfl) ?_
  intro zp ze zs zm zargs zbelow zmeth zc A Q ls M hA w hl kret
  have hl : lv_has ls 5 [(0, .ref (b 0)), (1, .int (iI s))] := hl
  refine q_aln M dX7_beatsOf_0 (lv_at hl 0 rfl) ?_
  refine q_iln M dX7_beatsOf_1 (lv_at hl 1 rfl) ?_
  refine q_sp M dX7_beatsOf_2 (by decide +kernel) ?_
  refine qc_iV (As := [.int (iI s), .int (iI 512)]) (rest := []) (wc := WMod cI cZ b ν) (wc2 := WMod cI cZ b (lyW ν s 512)) (ws2 := WMod cI cZ b (lyW ν s 512)) M w hA hl (m_lays l D cI cZ cJ b ν s 512 hI (hS) (by omega)) gX7_beatsOf_X7_lays rfl ⟨rfl, rfl, by decide, by decide⟩ ⟨Nat.zero_le _, Nat.zero_le _⟩ 2 ⟨rfl, by decide +kernel⟩ rfl [true, true, true, true, true, true, true, true, true, true, true, true, true, true, true, true, true, true, true, true, true] rfl rfl 0 rfl rfl rfl (Nat.le_of_ble_eq_true rfl) rfl dX7_beatsOf_5 (fun H locs w => ?_)
  have q8 := lBs_bd (vw ν) s
  refine q_isn (lv' := [(2, .int (iI (lBs (vw ν) s))), (0, .ref (b 0)), (1, .int (iI s))]) M dX7_beatsOf_8 rfl hl (by decide) rfl (fun ls hl => ?_)
  refine q_ic M dX7_beatsOf_9 ?_
  refine q_isn (lv' := [(3, .int (iI 0)), (2, .int (iI (lBs (vw ν) s))), (0, .ref (b 0)), (1, .int (iI s))]) M dX7_beatsOf_10 rfl hl (by decide) rfl (fun ls hl => ?_)
  refine q_ic M dX7_beatsOf_11 ?_
  refine q_is (lv' := [(4, .int (iI 0)), (3, .int (iI 0)), (2, .int (iI (lBs (vw ν) s))), (0, .ref (b 0)), (1, .int (iI s))]) M dX7_beatsOf_12 hl (by decide) rfl (fun ls hl => ?_)
  have lp14 : ∀ (n14 : Nat) (x : Int), (0 ≤ x ∧ x ≤ lBs (vw ν) s * 64) → (lBs (vw ν) s * 64 - x : Int) < (n14 : Int) → ∀ (H : Heap) (locs : List Loc) (ls : Array Slot), wW D A zs.heap (WMod cI cZ b (lyW ν s 512)) H locs → lv_has ls 5 [(0, .ref (b 0)), (1, .int (iI s)), (2, .int (iI (lBs (vw ν) s))), (3, .int (iI (sI (btR (vw ν) s) x))), (4, .int (iI x))] → W zp l ze rmX7_beatsOf zs zm zargs zbelow zmeth zc H locs 0 0 Q (F0 zm 14 ls []) := by
    intro n14
    induction n14 with
    | zero => intro x hj hm H locs ls w hl; exfalso; omega
    | succ n14 ih14 =>
      intro x hj hm14 H locs ls w hl
      refine q_il M dX7_beatsOf_14 (lv_at hl 4 rfl) ?_
      refine q_iln M dX7_beatsOf_16 (lv_at hl 2 rfl) ?_
      refine q_bp M dX7_beatsOf_17 (by decide +kernel) ?_
      refine q_mul M dX7_beatsOf_19 ?_
      refine q_icmp_ge (tgt := 66) M dX7_beatsOf_20 (by decide) (by omega) (fun c20 => ?_) (fun c20 => ?_)
      · refine q_iln M dX7_beatsOf_66 (lv_at hl 3 rfl) ?_
        exact kret _ _ _ _ _ dX7_beatsOf_67 w (by rw [show x = lBs (vw ν) s * 64 by omega])
      · have g1 := cB_ly (ν := ν) (s := s) (q := 512) (x := x / 64) ⟨by omega, by omega⟩
        have g2 := ly_16 (q := 512) (ν := ν) (s := s) (x := x / 64) hS ⟨by omega, by omega⟩
        have g3 := sA_bd hI (cdF (vw ν) (bP (vw ν) s (x / 64)) (bT (vw ν) s (x / 64))) (x / 16 % 4) (x % 16)
        refine q_iln M dX7_beatsOf_23 (lv_at hl 3 rfl) ?_
        refine q_aln M dX7_beatsOf_24 (lv_at hl 0 rfl) ?_
        refine q_sp M dX7_beatsOf_25 (by decide +kernel) ?_
        refine q_il M dX7_beatsOf_28 (lv_at hl 4 rfl) ?_
        refine q_bp M dX7_beatsOf_30 (by decide +kernel) ?_
        refine q_div M dX7_beatsOf_32 (by omega) ?_
        refine q_add M dX7_beatsOf_33 ?_
        refine q_il M dX7_beatsOf_34 (lv_at hl 4 rfl) ?_
        refine q_bp M dX7_beatsOf_36 (by decide +kernel) ?_
        refine q_div M dX7_beatsOf_38 (by omega) ?_
        refine q_ic M dX7_beatsOf_39 ?_
        refine q_rem M dX7_beatsOf_40 (by omega) ?_
        refine q_il M dX7_beatsOf_41 (lv_at hl 4 rfl) ?_
        refine q_bp M dX7_beatsOf_43 (by decide +kernel) ?_
        refine q_rem M dX7_beatsOf_45 (by omega) ?_
        refine qc_iV (As := [.int (iI (512 + (x / 64))), .int (iI ((x / 16) % 4)), .int (iI (x % 16))]) (rest := [.int (iI (sI (btR (vw ν) s) x))]) (wc := WMod cI cZ b (lyW ν s 512)) (wc2 := WMod cI cZ b (lyW ν s 512)) (ws2 := WMod cI cZ b (lyW ν s 512)) M w hA hl (m_sampleAt l D cI cZ cJ b (lyW ν s 512) (512 + (x / 64)) ((x / 16) % 4) (x % 16) g2.1 g2.2 (by omega)) gX7_beatsOf_X7_sampleAt rfl ⟨rfl, rfl, by decide, by decide⟩ ⟨Nat.zero_le _, Nat.zero_le _⟩ 3 ⟨rfl, by decide +kernel⟩ rfl [true, true, true, true, true, true, true, true, true, true, true, true, true, true, true, true, true, true, true, true, true] rfl rfl 0 rfl rfl rfl (Nat.le_of_ble_eq_true rfl) rfl dX7_beatsOf_46 (fun H locs w => ?_)
        refine q_top (y := sA (vw ν) (cdF (vw ν) (bP (vw ν) s (x / 64)) (bT (vw ν) s (x / 64))) (x / 16 % 4) (x % 16)) (by rw [g1]; rfl) ?_
        refine q_ic M dX7_beatsOf_49 ?_
        refine q_icmp_eq (tgt := 57) M dX7_beatsOf_50 (by decide) (by omega) (fun c50 => ?_) (fun c50 => ?_)
        · refine q_ic M dX7_beatsOf_57 ?_
          refine q_add M dX7_beatsOf_58 ?_
          refine q_isn (lv' := [(3, .int (iI ((sI (btR (vw ν) s) x) + 0))), (0, .ref (b 0)), (1, .int (iI s)), (2, .int (iI (lBs (vw ν) s))), (4, .int (iI x))]) M dX7_beatsOf_59 rfl hl (by decide) rfl (fun ls hl => ?_)
          have ef : (btR (vw ν) s) x = 0 := if_pos (by omega)
          have er := sI_s (btR (vw ν) s) hj.1
          rw [ef] at er
          have hl : lv_has ls 5 [(3, .int (iI (sI (btR (vw ν) s) (x + 1)))), (0, .ref (b 0)), (1, .int (iI s)), (2, .int (iI (lBs (vw ν) s))), (4, .int (iI x))] := by rw [er]; exact hl
          refine q_inc (z := x) (lv' := [(4, .int (iI (x + 1))), (3, .int (iI (sI (btR (vw ν) s) (x + 1)))), (0, .ref (b 0)), (1, .int (iI s)), (2, .int (iI (lBs (vw ν) s)))]) M dX7_beatsOf_60 hl (k := 4) rfl (by decide) rfl (fun ls hl => ?_)
          refine q_go (tgt := 14) M dX7_beatsOf_63 (by decide) ?_
          exact ih14 (x + 1) (by omega) (by omega) _ _ _ w (lv_sub hl [2, 3, 4, 1, 0] rfl)
        · refine q_ic M dX7_beatsOf_53 ?_
          refine q_go (tgt := 58) M dX7_beatsOf_54 (by decide) ?_
          refine q_add M dX7_beatsOf_58 ?_
          refine q_isn (lv' := [(3, .int (iI ((sI (btR (vw ν) s) x) + 1))), (0, .ref (b 0)), (1, .int (iI s)), (2, .int (iI (lBs (vw ν) s))), (4, .int (iI x))]) M dX7_beatsOf_59 rfl hl (by decide) rfl (fun ls hl => ?_)
          have ef : (btR (vw ν) s) x = 1 := if_neg (by omega)
          have er := sI_s (btR (vw ν) s) hj.1
          rw [ef] at er
          have hl : lv_has ls 5 [(3, .int (iI (sI (btR (vw ν) s) (x + 1)))), (0, .ref (b 0)), (1, .int (iI s)), (2, .int (iI (lBs (vw ν) s))), (4, .int (iI x))] := by rw [er]; exact hl
          refine q_inc (z := x) (lv' := [(4, .int (iI (x + 1))), (3, .int (iI (sI (btR (vw ν) s) (x + 1)))), (0, .ref (b 0)), (1, .int (iI s)), (2, .int (iI (lBs (vw ν) s)))]) M dX7_beatsOf_60 hl (k := 4) rfl (by decide) rfl (fun ls hl => ?_)
          refine q_go (tgt := 14) M dX7_beatsOf_63 (by decide) ?_
          exact ih14 (x + 1) (by omega) (by omega) _ _ _ w (lv_sub hl [2, 3, 4, 1, 0] rfl)
  have e0 := sI_0 (btR (vw ν) s)
  have hl : lv_has ls 5 [(4, .int (iI 0)), (3, .int (iI (sI (btR (vw ν) s) 0))), (2, .int (iI (lBs (vw ν) s))), (0, .ref (b 0)), (1, .int (iI s))] := by rw [e0]; exact hl
  exact lp14 4097 0 (by omega) (by omega) _ _ _ w (lv_sub hl [3, 4, 2, 1, 0] rfl)

set_option maxHeartbeats 4000000 in
set_option maxRecDepth 100000 in
/-- beats -/
theorem m_beats (l : Launch) (D : va_G) (cI cZ cJ : ClassId) (b : Nat → Nat) (ν : Nat → Int → Int) (s : Int) (hs : -2147483648 ≤ s ∧ s < 2147483648) (hI : IP (vw ν)) (hS : SDs (vw ν) s) (hok : 0 ≤ s ∧ s ≤ 5) : Ci l D (tY cI cZ cJ) yX7_beats wsX7_beats rmX7_beats [.ref (b 0), .int (iI s)] (WMod cI cZ b ν) (sI (btR (vw ν) s) (lBs (vw ν) s * 64)) (WMod cI cZ b (lyW (r0 ν) s 512)) := by
  refine qi_of (by decide +kernel) rfl (Nat.le_of_ble_eq_true rfl) ?_
  intro zp ze zs zm zargs zbelow zmeth zc A Q ls M hA w hl kret
  have hl : lv_has ls 2 [(0, .ref (b 0)), (1, .int (iI s))] := hl
  have in7 : ∀ w ∈ u_ws RX7 TX7 31, w ∈ wsX7_beats := by decide +kernel
  refine q_aln M dX7_beats_0 (lv_at hl 0 rfl) ?_
  refine q_ic M dX7_beats_1 ?_
  refine q_put (ws2 := WMod cI cZ b (mset ν 0 (fun _ => 0))) M w in7 0 0 tyX7 tyX7_ok nmX7 rfl rfl (by decide) (by decide +kernel) rfl rfl rfl rfl (Nat.le_of_ble_eq_true rfl) rfl dX7_beats_2 (fun H locs w => ?_)
  refine q_iln M dX7_beats_5 (lv_at hl 1 rfl) ?_
  refine qc_iS (As := [.int (iI s)]) (rest := []) (wc := []) (wc2 := []) (ws2 := WMod cI cZ b (mset ν 0 (fun _ => 0))) M w hA hl (m_isSong l D cI cZ cJ s (by omega)) gX7_beats_X7_isSong rfl ⟨rfl, rfl, by decide, by decide⟩ ⟨Nat.zero_le _, Nat.zero_le _⟩ 1 (by decide +kernel) rfl [] rfl rfl rfl (Nat.le_of_ble_eq_true rfl) rfl dX7_beats_6 (fun H locs w => ?_)
  have q6 := inF_c s 0 5
  refine q_if_eq (tgt := 20) M dX7_beats_9 (by decide) (by omega) (fun c9 => ?_) (fun c9 => ?_)
  · exfalso; omega
  · have w : wW D A zs.heap (WMod cI cZ b (r0 ν)) H locs := w
    refine q_aln M dX7_beats_12 (lv_at hl 0 rfl) ?_
    refine q_iln M dX7_beats_13 (lv_at hl 1 rfl) ?_
    refine qc_iV (As := [.int (iI s)]) (rest := []) (wc := WMod cI cZ b (r0 ν)) (wc2 := WMod cI cZ b (lyW (r0 ν) s 512)) (ws2 := WMod cI cZ b (lyW (r0 ν) s 512)) M w hA hl (m_beatsOf l D cI cZ cJ b (r0 ν) s (by omega) hI hS (by omega)) gX7_beats_X7_beatsOf rfl ⟨rfl, rfl, by decide, by decide⟩ ⟨Nat.zero_le _, Nat.zero_le _⟩ 1 ⟨rfl, by decide +kernel⟩ rfl [true, true, true, true, true, true, true, true, true, true, true, true, true, true, true, true, true, true, true, true, true] rfl rfl 0 rfl rfl rfl (Nat.le_of_ble_eq_true rfl) rfl dX7_beats_14 (fun H locs w => ?_)
    refine q_go (tgt := 25) M dX7_beats_17 (by decide) ?_
    exact kret _ _ _ _ _ dX7_beats_25 w rfl

set_option maxHeartbeats 4000000 in
set_option maxRecDepth 100000 in
/-- beats -/
theorem m_beats_x (l : Launch) (D : va_G) (cI cZ cJ : ClassId) (b : Nat → Nat) (ν : Nat → Int → Int) (s : Int) (hs : -2147483648 ≤ s ∧ s < 2147483648) (k : Int) (hk : ¬ (0 ≤ s ∧ s ≤ 5) ∧ k = 1) : Ci l D (tY cI cZ cJ) yX7_beats wsX7_beats rmX7_beats [.ref (b 0), .int (iI s)] (WMod cI cZ b ν) (0) (WMod cI cZ b (mset ν 0 (fun _ => k))) := by
  refine qi_of (by decide +kernel) rfl (Nat.le_of_ble_eq_true rfl) ?_
  intro zp ze zs zm zargs zbelow zmeth zc A Q ls M hA w hl kret
  have hl : lv_has ls 2 [(0, .ref (b 0)), (1, .int (iI s))] := hl
  have in7 : ∀ w ∈ u_ws RX7 TX7 31, w ∈ wsX7_beats := by decide +kernel
  refine q_aln M dX7_beats_0 (lv_at hl 0 rfl) ?_
  refine q_ic M dX7_beats_1 ?_
  refine q_put (ws2 := WMod cI cZ b (mset ν 0 (fun _ => 0))) M w in7 0 0 tyX7 tyX7_ok nmX7 rfl rfl (by decide) (by decide +kernel) rfl rfl rfl rfl (Nat.le_of_ble_eq_true rfl) rfl dX7_beats_2 (fun H locs w => ?_)
  refine q_iln M dX7_beats_5 (lv_at hl 1 rfl) ?_
  refine qc_iS (As := [.int (iI s)]) (rest := []) (wc := []) (wc2 := []) (ws2 := WMod cI cZ b (mset ν 0 (fun _ => 0))) M w hA hl (m_isSong l D cI cZ cJ s (by omega)) gX7_beats_X7_isSong rfl ⟨rfl, rfl, by decide, by decide⟩ ⟨Nat.zero_le _, Nat.zero_le _⟩ 1 (by decide +kernel) rfl [] rfl rfl rfl (Nat.le_of_ble_eq_true rfl) rfl dX7_beats_6 (fun H locs w => ?_)
  have q6 := inF_c s 0 5
  refine q_if_eq (tgt := 20) M dX7_beats_9 (by decide) (by omega) (fun c9 => ?_) (fun c9 => ?_)
  · refine q_aln M dX7_beats_20 (lv_at hl 0 rfl) ?_
    refine q_ic M dX7_beats_21 ?_
    refine qc_iV (As := [.int (iI 1)]) (rest := []) (wc := WMod cI cZ b (mset ν 0 (fun _ => 0))) (wc2 := WMod cI cZ b (mset ν 0 (fun _ => 1))) (ws2 := WMod cI cZ b (mset ν 0 (fun _ => 1))) M w hA hl (m_fails l D cI cZ cJ b (mset ν 0 (fun _ => 0)) 1 ) gX7_beats_X7_fails rfl ⟨rfl, rfl, by decide, by decide⟩ ⟨Nat.zero_le _, Nat.zero_le _⟩ 1 ⟨rfl, by decide +kernel⟩ rfl [true, true, true, true, true, true, true, true, true, true, true, true, true, true, true, true, true, true, true, true, true] rfl rfl 0 rfl rfl rfl (Nat.le_of_ble_eq_true rfl) rfl dX7_beats_22 (fun H locs w => ?_)
    have hk1 : k = 1 := by omega
    subst hk1
    exact kret _ _ _ _ _ dX7_beats_25 w rfl
  · exfalso; omega

set_option maxHeartbeats 4000000 in
set_option maxRecDepth 100000 in
/-- beatsByTicks -/
theorem m_beatsByTicks (l : Launch) (D : va_G) (cI cZ cJ : ClassId) (b : Nat → Nat) (ν : Nat → Int → Int) (s : Int) (hs : -2147483648 ≤ s ∧ s < 2147483648) (hI : IP (vw ν)) (hS : SDs (vw ν) s) (hok : 0 ≤ s ∧ s ≤ 5) : Ci l D (tY cI cZ cJ) yX7_beatsByTicks wsX7_beatsByTicks rmX7_beatsByTicks [.ref (b 0), .int (iI s)] (WMod cI cZ b ν) (sI (btR (vw ν) s) (lBs (vw ν) s * 64)) (WMod cI cZ b (lyW (r0 ν) s 512)) := by
  refine qi_of (by decide +kernel) rfl (Nat.le_of_ble_eq_true rfl) ?_
  intro zp ze zs zm zargs zbelow zmeth zc A Q ls M hA w hl kret
  have hl : lv_has ls 2 [(0, .ref (b 0)), (1, .int (iI s))] := hl
  have in7 : ∀ w ∈ u_ws RX7 TX7 31, w ∈ wsX7_beatsByTicks := by decide +kernel
  refine q_aln M dX7_beatsByTicks_0 (lv_at hl 0 rfl) ?_
  refine q_ic M dX7_beatsByTicks_1 ?_
  refine q_put (ws2 := WMod cI cZ b (mset ν 0 (fun _ => 0))) M w in7 0 0 tyX7 tyX7_ok nmX7 rfl rfl (by decide) (by decide +kernel) rfl rfl rfl rfl (Nat.le_of_ble_eq_true rfl) rfl dX7_beatsByTicks_2 (fun H locs w => ?_)
  refine q_iln M dX7_beatsByTicks_5 (lv_at hl 1 rfl) ?_
  refine qc_iS (As := [.int (iI s)]) (rest := []) (wc := []) (wc2 := []) (ws2 := WMod cI cZ b (mset ν 0 (fun _ => 0))) M w hA hl (m_isSong l D cI cZ cJ s (by omega)) gX7_beatsByTicks_X7_isSong rfl ⟨rfl, rfl, by decide, by decide⟩ ⟨Nat.zero_le _, Nat.zero_le _⟩ 1 (by decide +kernel) rfl [] rfl rfl rfl (Nat.le_of_ble_eq_true rfl) rfl dX7_beatsByTicks_6 (fun H locs w => ?_)
  have q6 := inF_c s 0 5
  refine q_if_eq (tgt := 20) M dX7_beatsByTicks_9 (by decide) (by omega) (fun c9 => ?_) (fun c9 => ?_)
  · exfalso; omega
  · have w : wW D A zs.heap (WMod cI cZ b (r0 ν)) H locs := w
    refine q_aln M dX7_beatsByTicks_12 (lv_at hl 0 rfl) ?_
    refine q_iln M dX7_beatsByTicks_13 (lv_at hl 1 rfl) ?_
    refine qc_iV (As := [.int (iI s)]) (rest := []) (wc := WMod cI cZ b (r0 ν)) (wc2 := WMod cI cZ b (lyW (r0 ν) s 512)) (ws2 := WMod cI cZ b (lyW (r0 ν) s 512)) M w hA hl (m_beatsOf l D cI cZ cJ b (r0 ν) s (by omega) hI hS (by omega)) gX7_beatsByTicks_X7_beatsOf rfl ⟨rfl, rfl, by decide, by decide⟩ ⟨Nat.zero_le _, Nat.zero_le _⟩ 1 ⟨rfl, by decide +kernel⟩ rfl [true, true, true, true, true, true, true, true, true, true, true, true, true, true, true, true, true, true, true, true, true] rfl rfl 0 rfl rfl rfl (Nat.le_of_ble_eq_true rfl) rfl dX7_beatsByTicks_14 (fun H locs w => ?_)
    refine q_go (tgt := 25) M dX7_beatsByTicks_17 (by decide) ?_
    exact kret _ _ _ _ _ dX7_beatsByTicks_25 w rfl

set_option maxHeartbeats 4000000 in
set_option maxRecDepth 100000 in
/-- beatsByTicks -/
theorem m_beatsByTicks_x (l : Launch) (D : va_G) (cI cZ cJ : ClassId) (b : Nat → Nat) (ν : Nat → Int → Int) (s : Int) (hs : -2147483648 ≤ s ∧ s < 2147483648) (k : Int) (hk : ¬ (0 ≤ s ∧ s ≤ 5) ∧ k = 1) : Ci l D (tY cI cZ cJ) yX7_beatsByTicks wsX7_beatsByTicks rmX7_beatsByTicks [.ref (b 0), .int (iI s)] (WMod cI cZ b ν) (0) (WMod cI cZ b (mset ν 0 (fun _ => k))) := by
  refine qi_of (by decide +kernel) rfl (Nat.le_of_ble_eq_true rfl) ?_
  intro zp ze zs zm zargs zbelow zmeth zc A Q ls M hA w hl kret
  have hl : lv_has ls 2 [(0, .ref (b 0)), (1, .int (iI s))] := hl
  have in7 : ∀ w ∈ u_ws RX7 TX7 31, w ∈ wsX7_beatsByTicks := by decide +kernel
  refine q_aln M dX7_beatsByTicks_0 (lv_at hl 0 rfl) ?_
  refine q_ic M dX7_beatsByTicks_1 ?_
  refine q_put (ws2 := WMod cI cZ b (mset ν 0 (fun _ => 0))) M w in7 0 0 tyX7 tyX7_ok nmX7 rfl rfl (by decide) (by decide +kernel) rfl rfl rfl rfl (Nat.le_of_ble_eq_true rfl) rfl dX7_beatsByTicks_2 (fun H locs w => ?_)
  refine q_iln M dX7_beatsByTicks_5 (lv_at hl 1 rfl) ?_
  refine qc_iS (As := [.int (iI s)]) (rest := []) (wc := []) (wc2 := []) (ws2 := WMod cI cZ b (mset ν 0 (fun _ => 0))) M w hA hl (m_isSong l D cI cZ cJ s (by omega)) gX7_beatsByTicks_X7_isSong rfl ⟨rfl, rfl, by decide, by decide⟩ ⟨Nat.zero_le _, Nat.zero_le _⟩ 1 (by decide +kernel) rfl [] rfl rfl rfl (Nat.le_of_ble_eq_true rfl) rfl dX7_beatsByTicks_6 (fun H locs w => ?_)
  have q6 := inF_c s 0 5
  refine q_if_eq (tgt := 20) M dX7_beatsByTicks_9 (by decide) (by omega) (fun c9 => ?_) (fun c9 => ?_)
  · refine q_aln M dX7_beatsByTicks_20 (lv_at hl 0 rfl) ?_
    refine q_ic M dX7_beatsByTicks_21 ?_
    refine qc_iV (As := [.int (iI 1)]) (rest := []) (wc := WMod cI cZ b (mset ν 0 (fun _ => 0))) (wc2 := WMod cI cZ b (mset ν 0 (fun _ => 1))) (ws2 := WMod cI cZ b (mset ν 0 (fun _ => 1))) M w hA hl (m_fails l D cI cZ cJ b (mset ν 0 (fun _ => 0)) 1 ) gX7_beatsByTicks_X7_fails rfl ⟨rfl, rfl, by decide, by decide⟩ ⟨Nat.zero_le _, Nat.zero_le _⟩ 1 ⟨rfl, by decide +kernel⟩ rfl [true, true, true, true, true, true, true, true, true, true, true, true, true, true, true, true, true, true, true, true, true] rfl rfl 0 rfl rfl rfl (Nat.le_of_ble_eq_true rfl) rfl dX7_beatsByTicks_22 (fun H locs w => ?_)
    have hk1 : k = 1 := by omega
    subst hk1
    exact kret _ _ _ _ _ dX7_beatsByTicks_25 w rfl
  · exfalso; omega
