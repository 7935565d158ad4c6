/-! MEMORY: pages, their count, the sample of the page in hand, its ticks -/
/-- the nearest next use (u: by sample) of a sample whose pages (g) are fewer than its size (z) -/
noncomputable def fNr (u z g : Int → Int) (k : Int) : Int × Int := itI (fun s st => if u s < st.2 ∧ g s < z s then (s, u s) else st) (-1, 768) k
noncomputable def fFr (u g : Int → Int) (x k : Int) : Int × Int := itI (fun s st => if s ≠ x ∧ 0 < g s ∧ st.2 ≤ u s then (s, u s) else st) (-1, 0) k
theorem fNr_bd (u z g : Int → Int) {k : Int} (hk : 0 ≤ k) : -1 ≤ (fNr u z g k).1 ∧ (fNr u z g k).1 < k ∧ (∀ (hu : ∀ s, -200 ≤ u s ∧ u s ≤ 768), -200 ≤ (fNr u z g k).2 ∧ (fNr u z g k).2 ≤ 768) := by
  refine itI_ind (fun n (st : Int × Int) => -1 ≤ st.1 ∧ st.1 < n ∧ (∀ (hu : ∀ s, -200 ≤ u s ∧ u s ≤ 768), -200 ≤ st.2 ∧ st.2 ≤ 768)) ⟨by dsimp only; omega, by dsimp only; omega, fun _ => by dsimp only; omega⟩ (fun j st hj ih => ?_) hk
  split
  · exact ⟨by dsimp only; omega, by dsimp only; omega, fun hu => hu j⟩
  · exact ⟨ih.1, by omega, ih.2.2⟩
theorem fFr_bd (u g : Int → Int) (x : Int) {k : Int} (hk : 0 ≤ k) : -1 ≤ (fFr u g x k).1 ∧ (fFr u g x k).1 < k ∧ (∀ (hu : ∀ s, -200 ≤ u s ∧ u s ≤ 768), -200 ≤ (fFr u g x k).2 ∧ (fFr u g x k).2 ≤ 768) := by
  refine itI_ind (fun n (st : Int × Int) => -1 ≤ st.1 ∧ st.1 < n ∧ (∀ (hu : ∀ s, -200 ≤ u s ∧ u s ≤ 768), -200 ≤ st.2 ∧ st.2 ≤ 768)) ⟨by dsimp only; omega, by dsimp only; omega, fun _ => by dsimp only; omega⟩ (fun j st hj ih => ?_) hk
  split
  · exact ⟨by dsimp only; omega, by dsimp only; omega, fun hu => hu j⟩
  · exact ⟨ih.1, by omega, ih.2.2⟩
/-- (pages, their count, hand, work) -/
noncomputable def tkF (u z : Int → Int) (m : (Int → Int) × Int × Int × Int) : (Int → Int) × Int × Int × Int :=
  if (fNr u z m.1 8).1 = -1 then m
  else if m.2.1 < 12 then (m.1, m.2.1, (fNr u z m.1 8).1, 0)
  else if (fFr u m.1 (fNr u z m.1 8).1 8).1 = -1 ∨ u (fFr u m.1 (fNr u z m.1 8).1 8).1 ≤ u (fNr u z m.1 8).1 then m
  else (iU m.1 (fFr u m.1 (fNr u z m.1 8).1 8).1 (m.1 (fFr u m.1 (fNr u z m.1 8).1 8).1 + -1), m.2.1 + -1, (fNr u z m.1 8).1, 0)
def wkF (m : (Int → Int) × Int × Int × Int) : (Int → Int) × Int × Int × Int :=
  if m.2.2.2 + 1 < 8 then (m.1, m.2.1, m.2.2.1, m.2.2.2 + 1)
  else (iU m.1 m.2.2.1 (m.1 m.2.2.1 + 1), m.2.1 + 1, -1, m.2.2.2 + 1)
noncomputable def ldF (u z : Int → Int) (m : (Int → Int) × Int × Int × Int) : (Int → Int) × Int × Int × Int :=
  if m.2.2.1 = -1 then (if (tkF u z m).2.2.1 = -1 then tkF u z m else wkF (tkF u z m)) else wkF m
/-- the next uses from a tick, by sample -/
def uAt (U : Int → Int) (t : Int) : Int → Int := fun s => U (t * 8 + s)

set_option maxHeartbeats 4000000 in
set_option maxRecDepth 100000 in
/-- Memory.empty -/
theorem k_empty (l : Launch) (D : va_G) (cI cZ cJ : ClassId) (a : Nat → Nat) (μ : Nat → Int → Int) (g : Int → Int) (pc hd wk : Int) : Cv l D (tY cI cZ cJ) yX1_empty wsX1_empty rmX1_empty [.ref (a 5)] (WMy cI a μ g (fun _ => pc) (fun _ => hd) (fun _ => wk)) (WMy cI a μ (fun _ => 0) (fun _ => 0) (fun _ => (-1)) (fun _ => wk)) := by
  refine qv_of (by decide +kernel) rfl (Nat.le_of_ble_eq_true rfl) ?_
  intro zp ze zs zm zargs zbelow zmeth zc A Q ls M hA w hl kret
  have hl : lv_has ls 1 [(0, .ref (a 5))] := hl
  have in1 : ∀ w ∈ u_ws RX1 TX1 6, w ∈ wsX1_empty := by decide +kernel
  refine q_aln M dX1_empty_0 (lv_at hl 0 rfl) ?_
  refine q_get (v := .ref (a 52)) M w in1 0 2 rfl rfl (by decide) (by decide +kernel) rfl rfl dX1_empty_1 ?_
  refine q_ic M dX1_empty_4 ?_
  refine qc_vV (As := [.int (iI 0)]) (rest := []) (wc := WRow cI (a 52) (a 53) 8 g) (wc2 := WRow cI (a 52) (a 53) 8 (fun _ => 0)) (ws2 := WMy cI a μ (fun _ => 0) (fun _ => pc) (fun _ => hd) (fun _ => wk)) M w hA hl (k_setAll l D cI cZ cJ _ _ _ _ 0 (by omega)) gX1_empty_X3_setAll rfl ⟨rfl, rfl, by decide, by decide⟩ ⟨Nat.zero_le _, Nat.zero_le _⟩ 1 ⟨rfl, by decide +kernel⟩ rfl [false, true, true] rfl rfl 1 rfl rfl rfl (Nat.le_of_ble_eq_true rfl) rfl dX1_empty_5 (fun H locs w => ?_)
  refine q_aln M dX1_empty_8 (lv_at hl 0 rfl) ?_
  refine q_ic M dX1_empty_9 ?_
  refine q_put (ws2 := WMy cI a μ (fun _ => 0) (fun _ => 0) (fun _ => hd) (fun _ => wk)) M w in1 0 3 tyX1 tyX1_ok nmX1 rfl rfl (by decide) (by decide +kernel) rfl rfl rfl rfl (Nat.le_of_ble_eq_true rfl) rfl dX1_empty_10 (fun H locs w => ?_)
  refine q_aln M dX1_empty_13 (lv_at hl 0 rfl) ?_
  refine q_ic M dX1_empty_14 ?_
  refine q_put (ws2 := WMy cI a μ (fun _ => 0) (fun _ => 0) (fun _ => (-1)) (fun _ => wk)) M w in1 0 4 tyX1 tyX1_ok nmX1 rfl rfl (by decide) (by decide +kernel) rfl rfl rfl rfl (Nat.le_of_ble_eq_true rfl) rfl dX1_empty_15 (fun H locs w => ?_)
  exact kret _ _ _ _ dX1_empty_18 w

set_option maxHeartbeats 4000000 in
set_option maxRecDepth 100000 in
/-- Memory.countPages -/
theorem k_countPages (l : Launch) (D : va_G) (cI cZ cJ : ClassId) (a : Nat → Nat) (μ : Nat → Int → Int) (g : Int → Int) (pc hd wk : Int) (s : Int) (hc : 0 ≤ s ∧ s < 8) : Ci l D (tY cI cZ cJ) yX1_countPages wsX1_countPages rmX1_countPages [.ref (a 5), .int (iI s)] (WMy cI a μ g (fun _ => pc) (fun _ => hd) (fun _ => wk)) (g s) (WMy cI a μ g (fun _ => pc) (fun _ => hd) (fun _ => wk)) := by
  refine qi_of (by decide +kernel) rfl (Nat.le_of_ble_eq_true rfl) ?_
  intro zp ze zs zm zargs zbelow zmeth zc A Q ls M hA w hl kret
  have hl : lv_has ls 2 [(0, .ref (a 5)), (1, .int (iI s))] := hl
  have in1 : ∀ w ∈ u_ws RX1 TX1 6, w ∈ wsX1_countPages := by decide +kernel
  refine q_aln M dX1_countPages_0 (lv_at hl 0 rfl) ?_
  refine q_get (v := .ref (a 52)) M w in1 0 2 rfl rfl (by decide) (by decide +kernel) rfl rfl dX1_countPages_1 ?_
  refine q_iln M dX1_countPages_4 (lv_at hl 1 rfl) ?_
  refine qc_iV (As := [.int (iI s)]) (rest := []) (wc := WRow cI (a 52) (a 53) 8 g) (wc2 := WRow cI (a 52) (a 53) 8 g) (ws2 := WMy cI a μ g (fun _ => pc) (fun _ => hd) (fun _ => wk)) M w hA hl (k_get l D cI cZ cJ _ _ _ _ s (by omega)) gX1_countPages_X3_get rfl ⟨rfl, rfl, by decide, by decide⟩ ⟨Nat.zero_le _, Nat.zero_le _⟩ 1 ⟨rfl, by decide +kernel⟩ rfl [false, true, true] rfl rfl 1 rfl rfl rfl (Nat.le_of_ble_eq_true rfl) rfl dX1_countPages_5 (fun H locs w => ?_)
  exact kret _ _ _ _ _ dX1_countPages_8 w rfl

set_option maxHeartbeats 4000000 in
set_option maxRecDepth 100000 in
/-- Memory.hasAllPages -/
theorem k_hasAllPages (l : Launch) (D : va_G) (cI cZ cJ : ClassId) (a : Nat → Nat) (μ : Nat → Int → Int) (g : Int → Int) (pc hd wk : Int) (s : Int) (hg : ∀ i, -100 ≤ g i ∧ g i ≤ 1000) (hz : ∀ i, 1 ≤ μ 0 i ∧ μ 0 i ≤ 6) (hc : 0 ≤ s ∧ s < 8) : Ci l D (tY cI cZ cJ) yX1_hasAllPages wsX1_hasAllPages rmX1_hasAllPages [.ref (a 5), .int (iI s)] (WMy cI a μ g (fun _ => pc) (fun _ => hd) (fun _ => wk)) (if μ 0 s ≤ g s then 1 else 0) (WMy cI a μ g (fun _ => pc) (fun _ => hd) (fun _ => wk)) := by
  refine qz_of (by decide +kernel) rfl (Nat.le_of_ble_eq_true rfl) (by split <;> omega) ?_
  intro zp ze zs zm zargs zbelow zmeth zc A Q ls M hA w hl kret
  have hl : lv_has ls 2 [(0, .ref (a 5)), (1, .int (iI s))] := hl
  have in1 : ∀ w ∈ u_ws RX1 TX1 6, w ∈ wsX1_hasAllPages := by decide +kernel
  refine q_aln M dX1_hasAllPages_0 (lv_at hl 0 rfl) ?_
  refine q_get (v := .ref (a 52)) M w in1 0 2 rfl rfl (by decide) (by decide +kernel) rfl rfl dX1_hasAllPages_1 ?_
  refine q_iln M dX1_hasAllPages_4 (lv_at hl 1 rfl) ?_
  refine qc_iV (As := [.int (iI s)]) (rest := []) (wc := WRow cI (a 52) (a 53) 8 g) (wc2 := WRow cI (a 52) (a 53) 8 g) (ws2 := WMy cI a μ g (fun _ => pc) (fun _ => hd) (fun _ => wk)) M w hA hl (k_get l D cI cZ cJ _ _ _ _ s (by omega)) gX1_hasAllPages_X3_get rfl ⟨rfl, rfl, by decide, by decide⟩ ⟨Nat.zero_le _, Nat.zero_le _⟩ 1 ⟨rfl, by decide +kernel⟩ rfl [false, true, true] rfl rfl 1 rfl rfl rfl (Nat.le_of_ble_eq_true rfl) rfl dX1_hasAllPages_5 (fun H locs w => ?_)
  refine q_aln M dX1_hasAllPages_8 (lv_at hl 0 rfl) ?_
  refine q_get (v := .ref (a 10)) M w in1 0 0 rfl rfl (by decide) (by decide +kernel) rfl rfl dX1_hasAllPages_9 ?_
  refine q_iln M dX1_hasAllPages_12 (lv_at hl 1 rfl) ?_
  refine qc_iV (As := [.int (iI s)]) (rest := [.int (iI (g s))]) (wc := WRow cI (a 10) (a 11) 8 (μ 0)) (wc2 := WRow cI (a 10) (a 11) 8 (μ 0)) (ws2 := WMy cI a μ g (fun _ => pc) (fun _ => hd) (fun _ => wk)) M w hA hl (k_get l D cI cZ cJ _ _ _ _ s (by omega)) gX1_hasAllPages_X3_get rfl ⟨rfl, rfl, by decide, by decide⟩ ⟨Nat.zero_le _, Nat.zero_le _⟩ 1 ⟨rfl, by decide +kernel⟩ rfl [false, false, false, true, true] rfl rfl 3 rfl rfl rfl (Nat.le_of_ble_eq_true rfl) rfl dX1_hasAllPages_13 (fun H locs w => ?_)
  have q1 := hg s
  have q2 := hz s
  refine q_icmp_lt (tgt := 23) M dX1_hasAllPages_16 (by decide) (by omega) (fun c16 => ?_) (fun c16 => ?_)
  · refine q_ic M dX1_hasAllPages_23 ?_
    exact kret _ _ _ _ _ dX1_hasAllPages_24 w (by split <;> omega)
  · refine q_ic M dX1_hasAllPages_19 ?_
    refine q_go (tgt := 24) M dX1_hasAllPages_20 (by decide) ?_
    exact kret _ _ _ _ _ dX1_hasAllPages_24 w (by split <;> omega)

set_option maxHeartbeats 4000000 in
set_option maxRecDepth 100000 in
/-- Memory.handNumber -/
theorem k_handNumber (l : Launch) (D : va_G) (cI cZ cJ : ClassId) (a : Nat → Nat) (μ : Nat → Int → Int) (g : Int → Int) (pc hd wk : Int) (hc : -1 ≤ hd ∧ hd < 8) : Ci l D (tY cI cZ cJ) yX1_handNumber wsX1_handNumber rmX1_handNumber [.ref (a 5)] (WMy cI a μ g (fun _ => pc) (fun _ => hd) (fun _ => wk)) (if hd = -1 then -1 else 10 * hd + wk) (WMy cI a μ g (fun _ => pc) (fun _ => hd) (fun _ => wk)) := by
  refine qi_of (by decide +kernel) rfl (Nat.le_of_ble_eq_true rfl) ?_
  intro zp ze zs zm zargs zbelow zmeth zc A Q ls M hA w hl kret
  have hl : lv_has ls 1 [(0, .ref (a 5))] := hl
  have in1 : ∀ w ∈ u_ws RX1 TX1 6, w ∈ wsX1_handNumber := by decide +kernel
  refine q_aln M dX1_handNumber_0 (lv_at hl 0 rfl) ?_
  refine q_get (v := .int (iI hd)) M w in1 0 4 rfl rfl (by decide) (by decide +kernel) rfl rfl dX1_handNumber_1 ?_
  refine q_ic M dX1_handNumber_4 ?_
  refine q_icmp_ne (tgt := 12) M dX1_handNumber_5 (by decide) (by omega) (fun c5 => ?_) (fun c5 => ?_)
  · refine q_bp M dX1_handNumber_12 (by decide +kernel) ?_
    refine q_aln M dX1_handNumber_14 (lv_at hl 0 rfl) ?_
    refine q_get (v := .int (iI hd)) M w in1 0 4 rfl rfl (by decide) (by decide +kernel) rfl rfl dX1_handNumber_15 ?_
    refine q_mul M dX1_handNumber_18 ?_
    refine q_aln M dX1_handNumber_19 (lv_at hl 0 rfl) ?_
    refine q_get (v := .int (iI wk)) M w in1 0 5 rfl rfl (by decide) (by decide +kernel) rfl rfl dX1_handNumber_20 ?_
    refine q_add M dX1_handNumber_23 ?_
    exact kret _ _ _ _ _ dX1_handNumber_24 w (by split <;> omega)
  · refine q_ic M dX1_handNumber_8 ?_
    refine q_go (tgt := 24) M dX1_handNumber_9 (by decide) ?_
    exact kret _ _ _ _ _ dX1_handNumber_24 w (by split <;> omega)

set_option maxHeartbeats 4000000 in
set_option maxRecDepth 100000 in
/-- Memory.addPage -/
theorem k_addPage (l : Launch) (D : va_G) (cI cZ cJ : ClassId) (a : Nat → Nat) (μ : Nat → Int → Int) (g : Int → Int) (pc hd wk : Int) (s v : Int) (hc : 0 ≤ s ∧ s < 8) : Cv l D (tY cI cZ cJ) yX1_addPage wsX1_addPage rmX1_addPage [.ref (a 5), .int (iI s), .int (iI v)] (WMy cI a μ g (fun _ => pc) (fun _ => hd) (fun _ => wk)) (WMy cI a μ (iU g s (g s + v)) (fun _ => pc + v) (fun _ => hd) (fun _ => wk)) := by
  refine qv_of (by decide +kernel) rfl (Nat.le_of_ble_eq_true rfl) ?_
  intro zp ze zs zm zargs zbelow zmeth zc A Q ls M hA w hl kret
  have hl : lv_has ls 3 [(0, .ref (a 5)), (1, .int (iI s)), (2, .int (iI v))] := hl
  have in1 : ∀ w ∈ u_ws RX1 TX1 6, w ∈ wsX1_addPage := by decide +kernel
  refine q_aln M dX1_addPage_0 (lv_at hl 0 rfl) ?_
  refine q_get (v := .ref (a 52)) M w in1 0 2 rfl rfl (by decide) (by decide +kernel) rfl rfl dX1_addPage_1 ?_
  refine q_iln M dX1_addPage_4 (lv_at hl 1 rfl) ?_
  refine q_aln M dX1_addPage_5 (lv_at hl 0 rfl) ?_
  refine q_get (v := .ref (a 52)) M w in1 0 2 rfl rfl (by decide) (by decide +kernel) rfl rfl dX1_addPage_6 ?_
  refine q_iln M dX1_addPage_9 (lv_at hl 1 rfl) ?_
  refine qc_iV (As := [.int (iI s)]) (rest := [.int (iI s), .ref (a 52)]) (wc := WRow cI (a 52) (a 53) 8 g) (wc2 := WRow cI (a 52) (a 53) 8 g) (ws2 := WMy cI a μ g (fun _ => pc) (fun _ => hd) (fun _ => wk)) M w hA hl (k_get l D cI cZ cJ _ _ _ _ s (by omega)) gX1_addPage_X3_get rfl ⟨rfl, rfl, by decide, by decide⟩ ⟨Nat.zero_le _, Nat.zero_le _⟩ 1 ⟨rfl, by decide +kernel⟩ rfl [false, true, true] rfl rfl 1 rfl rfl rfl (Nat.le_of_ble_eq_true rfl) rfl dX1_addPage_10 (fun H locs w => ?_)
  refine q_iln M dX1_addPage_13 (lv_at hl 2 rfl) ?_
  refine q_add M dX1_addPage_14 ?_
  refine qc_iV (As := [.int (iI s), .int (iI ((g s) + v))]) (rest := []) (wc := WRow cI (a 52) (a 53) 8 g) (wc2 := WRow cI (a 52) (a 53) 8 (iU g s ((g s) + v))) (ws2 := WMy cI a μ (iU g s ((g s) + v)) (fun _ => pc) (fun _ => hd) (fun _ => wk)) M w hA hl (k_replace l D cI cZ cJ _ _ _ _ s ((g s) + v) (by omega)) gX1_addPage_X3_replace rfl ⟨rfl, rfl, by decide, by decide⟩ ⟨Nat.zero_le _, Nat.zero_le _⟩ 2 ⟨rfl, by decide +kernel⟩ rfl [false, true, true] rfl rfl 1 rfl rfl rfl (Nat.le_of_ble_eq_true rfl) rfl dX1_addPage_15 (fun H locs w => ?_)
  refine q_pop M dX1_addPage_18 rfl ?_
  refine q_aln M dX1_addPage_19 (lv_at hl 0 rfl) ?_
  refine q_dup M dX1_addPage_20 rfl ?_
  refine q_get (v := .int (iI pc)) M w in1 0 3 rfl rfl (by decide) (by decide +kernel) rfl rfl dX1_addPage_21 ?_
  refine q_iln M dX1_addPage_24 (lv_at hl 2 rfl) ?_
  refine q_add M dX1_addPage_25 ?_
  refine q_put (ws2 := WMy cI a μ (iU g s ((g s) + v)) (fun _ => pc + v) (fun _ => hd) (fun _ => wk)) M w in1 0 3 tyX1 tyX1_ok nmX1 rfl rfl (by decide) (by decide +kernel) rfl rfl rfl rfl (Nat.le_of_ble_eq_true rfl) rfl dX1_addPage_26 (fun H locs w => ?_)
  exact kret _ _ _ _ dX1_addPage_29 w

set_option maxHeartbeats 4000000 in
set_option maxRecDepth 100000 in
/-- Memory.workOn -/
theorem k_workOn (l : Launch) (D : va_G) (cI cZ cJ : ClassId) (a : Nat → Nat) (μ : Nat → Int → Int) (g : Int → Int) (pc hd wk : Int) (hc : (0 ≤ hd ∧ hd < 8) ∧ 0 ≤ wk ∧ wk ≤ 100) : Cv l D (tY cI cZ cJ) yX1_workOn wsX1_workOn rmX1_workOn [.ref (a 5)] (WMy cI a μ g (fun _ => pc) (fun _ => hd) (fun _ => wk)) (WMy cI a μ ((wkF (g, pc, hd, wk)).1) (fun _ => (wkF (g, pc, hd, wk)).2.1) (fun _ => (wkF (g, pc, hd, wk)).2.2.1) (fun _ => (wkF (g, pc, hd, wk)).2.2.2)) := by
  refine qv_of (by decide +kernel) rfl (Nat.le_of_ble_eq_true rfl) ?_
  intro zp ze zs zm zargs zbelow zmeth zc A Q ls M hA w hl kret
  have hl : lv_has ls 1 [(0, .ref (a 5))] := hl
  have in1 : ∀ w ∈ u_ws RX1 TX1 6, w ∈ wsX1_workOn := by decide +kernel
  refine q_aln M dX1_workOn_0 (lv_at hl 0 rfl) ?_
  refine q_dup M dX1_workOn_1 rfl ?_
  refine q_get (v := .int (iI wk)) M w in1 0 5 rfl rfl (by decide) (by decide +kernel) rfl rfl dX1_workOn_2 ?_
  refine q_ic M dX1_workOn_5 ?_
  refine q_add M dX1_workOn_6 ?_
  refine q_put (ws2 := WMy cI a μ g (fun _ => pc) (fun _ => hd) (fun _ => wk + 1)) M w in1 0 5 tyX1 tyX1_ok nmX1 rfl rfl (by decide) (by decide +kernel) rfl rfl rfl rfl (Nat.le_of_ble_eq_true rfl) rfl dX1_workOn_7 (fun H locs w => ?_)
  refine q_aln M dX1_workOn_10 (lv_at hl 0 rfl) ?_
  refine q_get (v := .int (iI (wk + 1))) M w in1 0 5 rfl rfl (by decide) (by decide +kernel) rfl rfl dX1_workOn_11 ?_
  refine q_bp M dX1_workOn_14 (by decide +kernel) ?_
  refine q_icmp_lt (tgt := 33) M dX1_workOn_16 (by decide) (by omega) (fun c16 => ?_) (fun c16 => ?_)
  · have e : wkF (g, pc, hd, wk) = (g, pc, hd, wk + 1) := if_pos (by show (wk + 1 < 8); omega)
    have w : wW D A zs.heap (WMy cI a μ ((wkF (g, pc, hd, wk)).1) (fun _ => (wkF (g, pc, hd, wk)).2.1) (fun _ => (wkF (g, pc, hd, wk)).2.2.1) (fun _ => (wkF (g, pc, hd, wk)).2.2.2)) H locs := by rw [e]; exact w
    exact kret _ _ _ _ dX1_workOn_33 w
  · refine q_aln M dX1_workOn_19 (lv_at hl 0 rfl) ?_
    refine q_aln M dX1_workOn_20 (lv_at hl 0 rfl) ?_
    refine q_get (v := .int (iI hd)) M w in1 0 4 rfl rfl (by decide) (by decide +kernel) rfl rfl dX1_workOn_21 ?_
    refine q_ic M dX1_workOn_24 ?_
    refine qc_vV (As := [.int (iI hd), .int (iI 1)]) (rest := []) (wc := WMy cI a μ g (fun _ => pc) (fun _ => hd) (fun _ => wk + 1)) (wc2 := WMy cI a μ (iU g hd (g hd + 1)) (fun _ => pc + 1) (fun _ => hd) (fun _ => wk + 1)) (ws2 := WMy cI a μ (iU g hd (g hd + 1)) (fun _ => pc + 1) (fun _ => hd) (fun _ => wk + 1)) M w hA hl (k_addPage l D cI cZ cJ a μ g pc hd (wk + 1) hd 1 (by omega)) gX1_workOn_X1_addPage rfl ⟨rfl, rfl, by decide, by decide⟩ ⟨Nat.zero_le _, Nat.zero_le _⟩ 2 ⟨rfl, by decide +kernel⟩ rfl [true, true, true, true, true] rfl rfl 0 rfl rfl rfl (Nat.le_of_ble_eq_true rfl) rfl dX1_workOn_25 (fun H locs w => ?_)
    refine q_aln M dX1_workOn_28 (lv_at hl 0 rfl) ?_
    refine q_ic M dX1_workOn_29 ?_
    refine q_put (ws2 := WMy cI a μ (iU g hd (g hd + 1)) (fun _ => pc + 1) (fun _ => (-1)) (fun _ => wk + 1)) M w in1 0 4 tyX1 tyX1_ok nmX1 rfl rfl (by decide) (by decide +kernel) rfl rfl rfl rfl (Nat.le_of_ble_eq_true rfl) rfl dX1_workOn_30 (fun H locs w => ?_)
    have e : wkF (g, pc, hd, wk) = (iU g hd (g hd + 1), pc + 1, (-1), wk + 1) := if_neg (by show ¬ (wk + 1 < 8); omega)
    have w : wW D A zs.heap (WMy cI a μ ((wkF (g, pc, hd, wk)).1) (fun _ => (wkF (g, pc, hd, wk)).2.1) (fun _ => (wkF (g, pc, hd, wk)).2.2.1) (fun _ => (wkF (g, pc, hd, wk)).2.2.2)) H locs := by rw [e]; exact w
    exact kret _ _ _ _ dX1_workOn_33 w

set_option maxHeartbeats 4000000 in
set_option maxRecDepth 100000 in
/-- Memory.findNearest -/
theorem k_findNearest (l : Launch) (D : va_G) (cI cZ cJ : ClassId) (a : Nat → Nat) (μ : Nat → Int → Int) (g : Int → Int) (pc hd wk : Int) (t : Int) (hu : ∀ i, -200 ≤ μ 19 i ∧ μ 19 i ≤ 768) (hg : ∀ i, -100 ≤ g i ∧ g i ≤ 1000) (hz : ∀ i, 1 ≤ μ 0 i ∧ μ 0 i ≤ 6) (hc : 0 ≤ t ∧ t < 192) : Ci l D (tY cI cZ cJ) yX1_findNearest wsX1_findNearest rmX1_findNearest [.ref (a 5), .int (iI t)] (WMem cI a μ g (fun _ => pc) (fun _ => hd) (fun _ => wk)) ((fNr (uAt (μ 19) t) (μ 0) g 8).1) (WMem cI a μ g (fun _ => pc) (fun _ => hd) (fun _ => wk)) := by
  refine qi_of (by decide +kernel) rfl (Nat.le_of_ble_eq_true rfl) ?_
  intro zp ze zs zm zargs zbelow zmeth zc A Q ls M hA w hl kret
  have hl : lv_has ls 6 [(0, .ref (a 5)), (1, .int (iI t))] := hl
  have in1 : ∀ w ∈ u_ws RX1 TX1 6, w ∈ wsX1_findNearest := by decide +kernel
  refine q_ic M dX1_findNearest_0 ?_
  refine q_isn (lv' := [(2, .int (iI (-1))), (0, .ref (a 5)), (1, .int (iI t))]) M dX1_findNearest_1 rfl hl (by decide) rfl (fun ls hl => ?_)
  refine q_sp M dX1_findNearest_2 (by decide +kernel) ?_
  refine q_isn (lv' := [(3, .int (iI 768)), (2, .int (iI (-1))), (0, .ref (a 5)), (1, .int (iI t))]) M dX1_findNearest_5 rfl hl (by decide) rfl (fun ls hl => ?_)
  refine q_ic M dX1_findNearest_6 ?_
  refine q_is (lv' := [(4, .int (iI 0)), (3, .int (iI 768)), (2, .int (iI (-1))), (0, .ref (a 5)), (1, .int (iI t))]) M dX1_findNearest_7 hl (by decide) rfl (fun ls hl => ?_)
  have lp9 : ∀ (n9 : Nat) (s : Int), (0 ≤ s ∧ s ≤ 8) → (8 - s : Int) < (n9 : Int) → ∀ (H : Heap) (locs : List Loc) (ls : Array Slot), wW D A zs.heap (WMem cI a μ g (fun _ => pc) (fun _ => hd) (fun _ => wk)) H locs → lv_has ls 6 [(0, .ref (a 5)), (1, .int (iI t)), (2, .int (iI ((fNr (uAt (μ 19) t) (μ 0) g s).1))), (3, .int (iI ((fNr (uAt (μ 19) t) (μ 0) g s).2))), (4, .int (iI s))] → W zp l ze rmX1_findNearest zs zm zargs zbelow zmeth zc H locs 0 0 Q (F0 zm 9 ls []) := by
    intro n9
    induction n9 with
    | zero => intro s hj hm H locs ls w hl; exfalso; omega
    | succ n9 ih9 =>
      intro s hj hm9 H locs ls w hl
      have b1 := fNr_bd (uAt (μ 19) t) (μ 0) g hj.1
      have b2 := b1.2.2 (fun i => hu _)
      refine q_il M dX1_findNearest_9 (lv_at hl 4 rfl) ?_
      refine q_bp M dX1_findNearest_11 (by decide +kernel) ?_
      refine q_icmp_ge (tgt := 55) M dX1_findNearest_13 (by decide) (by omega) (fun c13 => ?_) (fun c13 => ?_)
      · refine q_iln M dX1_findNearest_55 (lv_at hl 2 rfl) ?_
        exact kret _ _ _ _ _ dX1_findNearest_56 w (by rw [show s = 8 by omega])
      · refine q_aln M dX1_findNearest_16 (lv_at hl 0 rfl) ?_
        refine q_get (v := .ref (a 4)) M w in1 5 1 rfl rfl (by decide) (by decide +kernel) rfl rfl dX1_findNearest_17 ?_
        refine q_iln M dX1_findNearest_20 (lv_at hl 1 rfl) ?_
        refine q_il M dX1_findNearest_21 (lv_at hl 4 rfl) ?_
        refine qc_iV (As := [.int (iI t), .int (iI s)]) (rest := []) (wc := WLk0 cI a μ (μ 19) (μ 20)) (wc2 := WLk0 cI a μ (μ 19) (μ 20)) (ws2 := WMem cI a μ g (fun _ => pc) (fun _ => hd) (fun _ => wk)) M w hA hl (k_useAfter l D cI cZ cJ a μ (μ 19) (μ 20) t s (by omega)) gX1_findNearest_X0_useAfter rfl ⟨rfl, rfl, by decide, by decide⟩ ⟨Nat.zero_le _, Nat.zero_le _⟩ 2 ⟨rfl, by decide +kernel⟩ rfl [true, true, true, true, true] rfl rfl 0 rfl rfl rfl (Nat.le_of_ble_eq_true rfl) rfl dX1_findNearest_23 (fun H locs w => ?_)
        refine q_is (lv' := [(5, .int (iI ((μ 19) (t * 8 + s)))), (0, .ref (a 5)), (1, .int (iI t)), (2, .int (iI ((fNr (uAt (μ 19) t) (μ 0) g s).1))), (3, .int (iI ((fNr (uAt (μ 19) t) (μ 0) g s).2))), (4, .int (iI s))]) M dX1_findNearest_26 hl (by decide) rfl (fun ls hl => ?_)
        have q4 := hu (t * 8 + s)
        refine q_il M dX1_findNearest_28 (lv_at hl 0 rfl) ?_
        refine q_iln M dX1_findNearest_30 (lv_at hl 4 rfl) ?_
        refine q_icmp_ge (tgt := 49) M dX1_findNearest_31 (by decide) (by omega) (fun c31 => ?_) (fun c31 => ?_)
        · have e : fNr (uAt (μ 19) t) (μ 0) g (s + 1) = ((fNr (uAt (μ 19) t) (μ 0) g s).1, (fNr (uAt (μ 19) t) (μ 0) g s).2) := (itI_s _ _ hj.1).trans (if_neg (show ¬ (uAt (μ 19) t s < (fNr (uAt (μ 19) t) (μ 0) g s).2 ∧ g s < μ 0 s) from fun q => by have q1 : μ 19 (t * 8 + s) < (fNr (uAt (μ 19) t) (μ 0) g s).2 := q.1; have q2 := q.2; omega))
          have hl : lv_has ls 6 [(5, .int (iI ((μ 19) (t * 8 + s)))), (0, .ref (a 5)), (1, .int (iI t)), (2, .int (iI ((fNr (uAt (μ 19) t) (μ 0) g (s + 1)).1))), (3, .int (iI ((fNr (uAt (μ 19) t) (μ 0) g (s + 1)).2))), (4, .int (iI s))] := by rw [e]; exact hl
          refine q_inc (z := s) (lv' := [(4, .int (iI (s + 1))), (5, .int (iI ((μ 19) (t * 8 + s)))), (0, .ref (a 5)), (1, .int (iI t)), (2, .int (iI ((fNr (uAt (μ 19) t) (μ 0) g (s + 1)).1))), (3, .int (iI ((fNr (uAt (μ 19) t) (μ 0) g (s + 1)).2)))]) M dX1_findNearest_49 hl (k := 5) rfl (by decide) rfl (fun ls hl => ?_)
          refine q_go (tgt := 9) M dX1_findNearest_52 (by decide) ?_
          exact ih9 (s + 1) (by omega) (by omega) _ _ _ w (lv_sub hl [2, 3, 4, 5, 0] rfl)
        · refine q_aln M dX1_findNearest_34 (lv_at hl 1 rfl) ?_
          refine q_il M dX1_findNearest_35 (lv_at hl 5 rfl) ?_
          refine qc_iV (As := [.int (iI s)]) (rest := []) (wc := WMy cI a μ g (fun _ => pc) (fun _ => hd) (fun _ => wk)) (wc2 := WMy cI a μ g (fun _ => pc) (fun _ => hd) (fun _ => wk)) (ws2 := WMem cI a μ g (fun _ => pc) (fun _ => hd) (fun _ => wk)) M w hA hl (k_hasAllPages l D cI cZ cJ a μ g pc hd wk s hg hz (by omega)) gX1_findNearest_X1_hasAllPages rfl ⟨rfl, rfl, by decide, by decide⟩ ⟨Nat.zero_le _, Nat.zero_le _⟩ 1 ⟨rfl, by decide +kernel⟩ rfl [false, false, false, false, false, true, true, true, true, true] rfl rfl 5 rfl rfl rfl (Nat.le_of_ble_eq_true rfl) rfl dX1_findNearest_37 (fun H locs w => ?_)
          have q5 : (if μ 0 s ≤ g s then (1 : Int) else 0) = 1 ∧ μ 0 s ≤ g s ∨ (if μ 0 s ≤ g s then (1 : Int) else 0) = 0 ∧ g s < μ 0 s := by split <;> omega
          refine q_if_ne (tgt := 49) M dX1_findNearest_40 (by decide) (by omega) (fun c40 => ?_) (fun c40 => ?_)
          · have e : fNr (uAt (μ 19) t) (μ 0) g (s + 1) = ((fNr (uAt (μ 19) t) (μ 0) g s).1, (fNr (uAt (μ 19) t) (μ 0) g s).2) := (itI_s _ _ hj.1).trans (if_neg (show ¬ (uAt (μ 19) t s < (fNr (uAt (μ 19) t) (μ 0) g s).2 ∧ g s < μ 0 s) from fun q => by have q1 : μ 19 (t * 8 + s) < (fNr (uAt (μ 19) t) (μ 0) g s).2 := q.1; have q2 := q.2; omega))
            have hl : lv_has ls 6 [(5, .int (iI ((μ 19) (t * 8 + s)))), (0, .ref (a 5)), (1, .int (iI t)), (2, .int (iI ((fNr (uAt (μ 19) t) (μ 0) g (s + 1)).1))), (3, .int (iI ((fNr (uAt (μ 19) t) (μ 0) g (s + 1)).2))), (4, .int (iI s))] := by rw [e]; exact hl
            refine q_inc (z := s) (lv' := [(4, .int (iI (s + 1))), (5, .int (iI ((μ 19) (t * 8 + s)))), (0, .ref (a 5)), (1, .int (iI t)), (2, .int (iI ((fNr (uAt (μ 19) t) (μ 0) g (s + 1)).1))), (3, .int (iI ((fNr (uAt (μ 19) t) (μ 0) g (s + 1)).2)))]) M dX1_findNearest_49 hl (k := 5) rfl (by decide) rfl (fun ls hl => ?_)
            refine q_go (tgt := 9) M dX1_findNearest_52 (by decide) ?_
            exact ih9 (s + 1) (by omega) (by omega) _ _ _ w (lv_sub hl [2, 3, 4, 5, 0] rfl)
          · refine q_il M dX1_findNearest_43 (lv_at hl 5 rfl) ?_
            refine q_isn (lv' := [(2, .int (iI s)), (5, .int (iI ((μ 19) (t * 8 + s)))), (0, .ref (a 5)), (1, .int (iI t)), (3, .int (iI ((fNr (uAt (μ 19) t) (μ 0) g s).2))), (4, .int (iI s))]) M dX1_findNearest_45 rfl hl (by decide) rfl (fun ls hl => ?_)
            refine q_il M dX1_findNearest_46 (lv_at hl 1 rfl) ?_
            refine q_isn (lv' := [(3, .int (iI ((μ 19) (t * 8 + s)))), (2, .int (iI s)), (5, .int (iI ((μ 19) (t * 8 + s)))), (0, .ref (a 5)), (1, .int (iI t)), (4, .int (iI s))]) M dX1_findNearest_48 rfl hl (by decide) rfl (fun ls hl => ?_)
            have e : fNr (uAt (μ 19) t) (μ 0) g (s + 1) = (s, (μ 19) (t * 8 + s)) := (itI_s _ _ hj.1).trans (if_pos (show (uAt (μ 19) t s < (fNr (uAt (μ 19) t) (μ 0) g s).2 ∧ g s < μ 0 s) from ⟨c31, by omega⟩))
            have hl : lv_has ls 6 [(3, .int (iI ((fNr (uAt (μ 19) t) (μ 0) g (s + 1)).2))), (2, .int (iI ((fNr (uAt (μ 19) t) (μ 0) g (s + 1)).1))), (5, .int (iI ((μ 19) (t * 8 + s)))), (0, .ref (a 5)), (1, .int (iI t)), (4, .int (iI s))] := by rw [e]; exact hl
            refine q_inc (z := s) (lv' := [(4, .int (iI (s + 1))), (3, .int (iI ((fNr (uAt (μ 19) t) (μ 0) g (s + 1)).2))), (2, .int (iI ((fNr (uAt (μ 19) t) (μ 0) g (s + 1)).1))), (5, .int (iI ((μ 19) (t * 8 + s)))), (0, .ref (a 5)), (1, .int (iI t))]) M dX1_findNearest_49 hl (k := 5) rfl (by decide) rfl (fun ls hl => ?_)
            refine q_go (tgt := 9) M dX1_findNearest_52 (by decide) ?_
            exact ih9 (s + 1) (by omega) (by omega) _ _ _ w (lv_sub hl [4, 5, 2, 1, 0] rfl)
  have e0 : fNr (uAt (μ 19) t) (μ 0) g 0 = (-1, 768) := itI_0 _ _
  have hl : lv_has ls 6 [(4, .int (iI 0)), (3, .int (iI ((fNr (uAt (μ 19) t) (μ 0) g 0).2))), (2, .int (iI ((fNr (uAt (μ 19) t) (μ 0) g 0).1))), (0, .ref (a 5)), (1, .int (iI t))] := by rw [e0]; exact hl
  exact lp9 9 0 (by omega) (by omega) _ _ _ w (lv_sub hl [3, 4, 2, 1, 0] rfl)

set_option maxHeartbeats 4000000 in
set_option maxRecDepth 100000 in
/-- Memory.findFarthest -/
theorem k_findFarthest (l : Launch) (D : va_G) (cI cZ cJ : ClassId) (a : Nat → Nat) (μ : Nat → Int → Int) (g : Int → Int) (pc hd wk : Int) (t x : Int) (hu : ∀ i, -200 ≤ μ 19 i ∧ μ 19 i ≤ 768) (hg : ∀ i, -100 ≤ g i ∧ g i ≤ 1000) (hz : ∀ i, 1 ≤ μ 0 i ∧ μ 0 i ≤ 6) (hc : (0 ≤ t ∧ t < 192) ∧ 0 ≤ x ∧ x < 8) : Ci l D (tY cI cZ cJ) yX1_findFarthest wsX1_findFarthest rmX1_findFarthest [.ref (a 5), .int (iI t), .int (iI x)] (WMem cI a μ g (fun _ => pc) (fun _ => hd) (fun _ => wk)) ((fFr (uAt (μ 19) t) g x 8).1) (WMem cI a μ g (fun _ => pc) (fun _ => hd) (fun _ => wk)) := by
  refine qi_of (by decide +kernel) rfl (Nat.le_of_ble_eq_true rfl) ?_
  intro zp ze zs zm zargs zbelow zmeth zc A Q ls M hA w hl kret
  have hl : lv_has ls 7 [(0, .ref (a 5)), (1, .int (iI t)), (2, .int (iI x))] := hl
  have in1 : ∀ w ∈ u_ws RX1 TX1 6, w ∈ wsX1_findFarthest := by decide +kernel
  refine q_ic M dX1_findFarthest_0 ?_
  refine q_isn (lv' := [(3, .int (iI (-1))), (0, .ref (a 5)), (1, .int (iI t)), (2, .int (iI x))]) M dX1_findFarthest_1 rfl hl (by decide) rfl (fun ls hl => ?_)
  refine q_ic M dX1_findFarthest_2 ?_
  refine q_is (lv' := [(4, .int (iI 0)), (3, .int (iI (-1))), (0, .ref (a 5)), (1, .int (iI t)), (2, .int (iI x))]) M dX1_findFarthest_3 hl (by decide) rfl (fun ls hl => ?_)
  refine q_ic M dX1_findFarthest_5 ?_
  refine q_is (lv' := [(5, .int (iI 0)), (4, .int (iI 0)), (3, .int (iI (-1))), (0, .ref (a 5)), (1, .int (iI t)), (2, .int (iI x))]) M dX1_findFarthest_6 hl (by decide) rfl (fun ls hl => ?_)
  have lp8 : ∀ (n8 : Nat) (s : Int), (0 ≤ s ∧ s ≤ 8) → (8 - s : Int) < (n8 : Int) → ∀ (H : Heap) (locs : List Loc) (ls : Array Slot), wW D A zs.heap (WMem cI a μ g (fun _ => pc) (fun _ => hd) (fun _ => wk)) H locs → lv_has ls 7 [(0, .ref (a 5)), (1, .int (iI t)), (2, .int (iI x)), (3, .int (iI ((fFr (uAt (μ 19) t) g x s).1))), (4, .int (iI ((fFr (uAt (μ 19) t) g x s).2))), (5, .int (iI s))] → W zp l ze rmX1_findFarthest zs zm zargs zbelow zmeth zc H locs 0 0 Q (F0 zm 8 ls []) := by
    intro n8
    induction n8 with
    | zero => intro s hj hm H locs ls w hl; exfalso; omega
    | succ n8 ih8 =>
      intro s hj hm8 H locs ls w hl
      have b1 := fFr_bd (uAt (μ 19) t) g x hj.1
      have b2 := b1.2.2 (fun i => hu _)
      refine q_il M dX1_findFarthest_8 (lv_at hl 5 rfl) ?_
      refine q_bp M dX1_findFarthest_10 (by decide +kernel) ?_
      refine q_icmp_ge (tgt := 65) M dX1_findFarthest_12 (by decide) (by omega) (fun c12 => ?_) (fun c12 => ?_)
      · refine q_iln M dX1_findFarthest_65 (lv_at hl 3 rfl) ?_
        exact kret _ _ _ _ _ dX1_findFarthest_66 w (by rw [show s = 8 by omega])
      · refine q_aln M dX1_findFarthest_15 (lv_at hl 0 rfl) ?_
        refine q_get (v := .ref (a 4)) M w in1 5 1 rfl rfl (by decide) (by decide +kernel) rfl rfl dX1_findFarthest_16 ?_
        refine q_iln M dX1_findFarthest_19 (lv_at hl 1 rfl) ?_
        refine q_il M dX1_findFarthest_20 (lv_at hl 5 rfl) ?_
        refine qc_iV (As := [.int (iI t), .int (iI s)]) (rest := []) (wc := WLk0 cI a μ (μ 19) (μ 20)) (wc2 := WLk0 cI a μ (μ 19) (μ 20)) (ws2 := WMem cI a μ g (fun _ => pc) (fun _ => hd) (fun _ => wk)) M w hA hl (k_useAfter l D cI cZ cJ a μ (μ 19) (μ 20) t s (by omega)) gX1_findFarthest_X0_useAfter rfl ⟨rfl, rfl, by decide, by decide⟩ ⟨Nat.zero_le _, Nat.zero_le _⟩ 2 ⟨rfl, by decide +kernel⟩ rfl [true, true, true, true, true] rfl rfl 0 rfl rfl rfl (Nat.le_of_ble_eq_true rfl) rfl dX1_findFarthest_22 (fun H locs w => ?_)
        refine q_is (lv' := [(6, .int (iI ((μ 19) (t * 8 + s)))), (0, .ref (a 5)), (1, .int (iI t)), (2, .int (iI x)), (3, .int (iI ((fFr (uAt (μ 19) t) g x s).1))), (4, .int (iI ((fFr (uAt (μ 19) t) g x s).2))), (5, .int (iI s))]) M dX1_findFarthest_25 hl (by decide) rfl (fun ls hl => ?_)
        have q4 := hu (t * 8 + s)
        refine q_il M dX1_findFarthest_27 (lv_at hl 6 rfl) ?_
        refine q_iln M dX1_findFarthest_29 (lv_at hl 3 rfl) ?_
        refine q_icmp_eq (tgt := 59) M dX1_findFarthest_30 (by decide) (by omega) (fun c30 => ?_) (fun c30 => ?_)
        · have e : fFr (uAt (μ 19) t) g x (s + 1) = ((fFr (uAt (μ 19) t) g x s).1, (fFr (uAt (μ 19) t) g x s).2) := (itI_s _ _ hj.1).trans (if_neg (show ¬ (s ≠ x ∧ 0 < g s ∧ (fFr (uAt (μ 19) t) g x s).2 ≤ uAt (μ 19) t s) from fun q => by have q1 := q.1; have q2 := q.2.1; have q3 : (fFr (uAt (μ 19) t) g x s).2 ≤ μ 19 (t * 8 + s) := q.2.2; omega))
          have hl : lv_has ls 7 [(6, .int (iI ((μ 19) (t * 8 + s)))), (0, .ref (a 5)), (1, .int (iI t)), (2, .int (iI x)), (3, .int (iI ((fFr (uAt (μ 19) t) g x (s + 1)).1))), (4, .int (iI ((fFr (uAt (μ 19) t) g x (s + 1)).2))), (5, .int (iI s))] := by rw [e]; exact hl
          refine q_inc (z := s) (lv' := [(5, .int (iI (s + 1))), (6, .int (iI ((μ 19) (t * 8 + s)))), (0, .ref (a 5)), (1, .int (iI t)), (2, .int (iI x)), (3, .int (iI ((fFr (uAt (μ 19) t) g x (s + 1)).1))), (4, .int (iI ((fFr (uAt (μ 19) t) g x (s + 1)).2)))]) M dX1_findFarthest_59 hl (k := 6) rfl (by decide) rfl (fun ls hl => ?_)
          refine q_go (tgt := 8) M dX1_findFarthest_62 (by decide) ?_
          exact ih8 (s + 1) (by omega) (by omega) _ _ _ w (lv_sub hl [2, 3, 4, 5, 6, 0] rfl)
        · refine q_aln M dX1_findFarthest_33 (lv_at hl 1 rfl) ?_
          refine q_get (v := .ref (a 52)) M w in1 5 2 rfl rfl (by decide) (by decide +kernel) rfl rfl dX1_findFarthest_34 ?_
          refine q_il M dX1_findFarthest_37 (lv_at hl 6 rfl) ?_
          refine qc_iV (As := [.int (iI s)]) (rest := []) (wc := WRow cI (a 52) (a 53) 8 g) (wc2 := WRow cI (a 52) (a 53) 8 g) (ws2 := WMem cI a μ g (fun _ => pc) (fun _ => hd) (fun _ => wk)) M w hA hl (k_get l D cI cZ cJ _ _ _ _ s (by omega)) gX1_findFarthest_X3_get rfl ⟨rfl, rfl, by decide, by decide⟩ ⟨Nat.zero_le _, Nat.zero_le _⟩ 1 ⟨rfl, by decide +kernel⟩ rfl [false, false, false, false, false, false, true, true] rfl rfl 6 rfl rfl rfl (Nat.le_of_ble_eq_true rfl) rfl dX1_findFarthest_39 (fun H locs w => ?_)
          have q5 := hg s
          refine q_if_le (tgt := 59) M dX1_findFarthest_42 (by decide) (by omega) (fun c42 => ?_) (fun c42 => ?_)
          · have e : fFr (uAt (μ 19) t) g x (s + 1) = ((fFr (uAt (μ 19) t) g x s).1, (fFr (uAt (μ 19) t) g x s).2) := (itI_s _ _ hj.1).trans (if_neg (show ¬ (s ≠ x ∧ 0 < g s ∧ (fFr (uAt (μ 19) t) g x s).2 ≤ uAt (μ 19) t s) from fun q => by have q1 := q.1; have q2 := q.2.1; have q3 : (fFr (uAt (μ 19) t) g x s).2 ≤ μ 19 (t * 8 + s) := q.2.2; omega))
            have hl : lv_has ls 7 [(6, .int (iI ((μ 19) (t * 8 + s)))), (0, .ref (a 5)), (1, .int (iI t)), (2, .int (iI x)), (3, .int (iI ((fFr (uAt (μ 19) t) g x (s + 1)).1))), (4, .int (iI ((fFr (uAt (μ 19) t) g x (s + 1)).2))), (5, .int (iI s))] := by rw [e]; exact hl
            refine q_inc (z := s) (lv' := [(5, .int (iI (s + 1))), (6, .int (iI ((μ 19) (t * 8 + s)))), (0, .ref (a 5)), (1, .int (iI t)), (2, .int (iI x)), (3, .int (iI ((fFr (uAt (μ 19) t) g x (s + 1)).1))), (4, .int (iI ((fFr (uAt (μ 19) t) g x (s + 1)).2)))]) M dX1_findFarthest_59 hl (k := 6) rfl (by decide) rfl (fun ls hl => ?_)
            refine q_go (tgt := 8) M dX1_findFarthest_62 (by decide) ?_
            exact ih8 (s + 1) (by omega) (by omega) _ _ _ w (lv_sub hl [2, 3, 4, 5, 6, 0] rfl)
          · refine q_il M dX1_findFarthest_45 (lv_at hl 0 rfl) ?_
            refine q_il M dX1_findFarthest_47 (lv_at hl 5 rfl) ?_
            refine q_icmp_lt (tgt := 59) M dX1_findFarthest_49 (by decide) (by omega) (fun c49 => ?_) (fun c49 => ?_)
            · have e : fFr (uAt (μ 19) t) g x (s + 1) = ((fFr (uAt (μ 19) t) g x s).1, (fFr (uAt (μ 19) t) g x s).2) := (itI_s _ _ hj.1).trans (if_neg (show ¬ (s ≠ x ∧ 0 < g s ∧ (fFr (uAt (μ 19) t) g x s).2 ≤ uAt (μ 19) t s) from fun q => by have q1 := q.1; have q2 := q.2.1; have q3 : (fFr (uAt (μ 19) t) g x s).2 ≤ μ 19 (t * 8 + s) := q.2.2; omega))
              have hl : lv_has ls 7 [(6, .int (iI ((μ 19) (t * 8 + s)))), (0, .ref (a 5)), (1, .int (iI t)), (2, .int (iI x)), (3, .int (iI ((fFr (uAt (μ 19) t) g x (s + 1)).1))), (4, .int (iI ((fFr (uAt (μ 19) t) g x (s + 1)).2))), (5, .int (iI s))] := by rw [e]; exact hl
              refine q_inc (z := s) (lv' := [(5, .int (iI (s + 1))), (6, .int (iI ((μ 19) (t * 8 + s)))), (0, .ref (a 5)), (1, .int (iI t)), (2, .int (iI x)), (3, .int (iI ((fFr (uAt (μ 19) t) g x (s + 1)).1))), (4, .int (iI ((fFr (uAt (μ 19) t) g x (s + 1)).2)))]) M dX1_findFarthest_59 hl (k := 6) rfl (by decide) rfl (fun ls hl => ?_)
              refine q_go (tgt := 8) M dX1_findFarthest_62 (by decide) ?_
              exact ih8 (s + 1) (by omega) (by omega) _ _ _ w (lv_sub hl [2, 3, 4, 5, 6, 0] rfl)
            · refine q_il M dX1_findFarthest_52 (lv_at hl 6 rfl) ?_
              refine q_isn (lv' := [(3, .int (iI s)), (6, .int (iI ((μ 19) (t * 8 + s)))), (0, .ref (a 5)), (1, .int (iI t)), (2, .int (iI x)), (4, .int (iI ((fFr (uAt (μ 19) t) g x s).2))), (5, .int (iI s))]) M dX1_findFarthest_54 rfl hl (by decide) rfl (fun ls hl => ?_)
              refine q_il M dX1_findFarthest_55 (lv_at hl 1 rfl) ?_
              refine q_is (lv' := [(4, .int (iI ((μ 19) (t * 8 + s)))), (3, .int (iI s)), (6, .int (iI ((μ 19) (t * 8 + s)))), (0, .ref (a 5)), (1, .int (iI t)), (2, .int (iI x)), (5, .int (iI s))]) M dX1_findFarthest_57 hl (by decide) rfl (fun ls hl => ?_)
              have e : fFr (uAt (μ 19) t) g x (s + 1) = (s, (μ 19) (t * 8 + s)) := (itI_s _ _ hj.1).trans (if_pos (show (s ≠ x ∧ 0 < g s ∧ (fFr (uAt (μ 19) t) g x s).2 ≤ uAt (μ 19) t s) from ⟨c30, c42, c49⟩))
              have hl : lv_has ls 7 [(4, .int (iI ((fFr (uAt (μ 19) t) g x (s + 1)).2))), (3, .int (iI ((fFr (uAt (μ 19) t) g x (s + 1)).1))), (6, .int (iI ((μ 19) (t * 8 + s)))), (0, .ref (a 5)), (1, .int (iI t)), (2, .int (iI x)), (5, .int (iI s))] := by rw [e]; exact hl
              refine q_inc (z := s) (lv' := [(5, .int (iI (s + 1))), (4, .int (iI ((fFr (uAt (μ 19) t) g x (s + 1)).2))), (3, .int (iI ((fFr (uAt (μ 19) t) g x (s + 1)).1))), (6, .int (iI ((μ 19) (t * 8 + s)))), (0, .ref (a 5)), (1, .int (iI t)), (2, .int (iI x))]) M dX1_findFarthest_59 hl (k := 6) rfl (by decide) rfl (fun ls hl => ?_)
              refine q_go (tgt := 8) M dX1_findFarthest_62 (by decide) ?_
              exact ih8 (s + 1) (by omega) (by omega) _ _ _ w (lv_sub hl [4, 5, 6, 2, 1, 0] rfl)
  have e0 : fFr (uAt (μ 19) t) g x 0 = (-1, 0) := itI_0 _ _
  have hl : lv_has ls 7 [(5, .int (iI 0)), (4, .int (iI ((fFr (uAt (μ 19) t) g x 0).2))), (3, .int (iI ((fFr (uAt (μ 19) t) g x 0).1))), (0, .ref (a 5)), (1, .int (iI t)), (2, .int (iI x))] := by rw [e0]; exact hl
  exact lp8 9 0 (by omega) (by omega) _ _ _ w (lv_sub hl [3, 4, 5, 2, 1, 0] rfl)

set_option maxHeartbeats 4000000 in
set_option maxRecDepth 100000 in
/-- Memory.takeInHand -/
theorem k_takeInHand (l : Launch) (D : va_G) (cI cZ cJ : ClassId) (a : Nat → Nat) (μ : Nat → Int → Int) (g : Int → Int) (pc hd wk : Int) (t : Int) (hu : ∀ i, -200 ≤ μ 19 i ∧ μ 19 i ≤ 768) (hg : ∀ i, -100 ≤ g i ∧ g i ≤ 1000) (hz : ∀ i, 1 ≤ μ 0 i ∧ μ 0 i ≤ 6) (hc : (0 ≤ t ∧ t < 192) ∧ 0 ≤ pc ∧ pc ≤ 100) : Cv l D (tY cI cZ cJ) yX1_takeInHand wsX1_takeInHand rmX1_takeInHand [.ref (a 5), .int (iI t)] (WMem cI a μ g (fun _ => pc) (fun _ => hd) (fun _ => wk)) (WMem cI a μ ((tkF (uAt (μ 19) t) (μ 0) (g, pc, hd, wk)).1) (fun _ => (tkF (uAt (μ 19) t) (μ 0) (g, pc, hd, wk)).2.1) (fun _ => (tkF (uAt (μ 19) t) (μ 0) (g, pc, hd, wk)).2.2.1) (fun _ => (tkF (uAt (μ 19) t) (μ 0) (g, pc, hd, wk)).2.2.2)) := by
  refine qv_of (by decide +kernel) rfl (Nat.le_of_ble_eq_true rfl) ?_
  intro zp ze zs zm zargs zbelow zmeth zc A Q ls M hA w hl kret
  have hl : lv_has ls 4 [(0, .ref (a 5)), (1, .int (iI t))] := hl
  have in1 : ∀ w ∈ u_ws RX1 TX1 6, w ∈ wsX1_takeInHand := by decide +kernel
  refine q_aln M dX1_takeInHand_0 (lv_at hl 0 rfl) ?_
  refine q_iln M dX1_takeInHand_1 (lv_at hl 1 rfl) ?_
  refine qc_iV (As := [.int (iI t)]) (rest := []) (wc := WMem cI a μ g (fun _ => pc) (fun _ => hd) (fun _ => wk)) (wc2 := WMem cI a μ g (fun _ => pc) (fun _ => hd) (fun _ => wk)) (ws2 := WMem cI a μ g (fun _ => pc) (fun _ => hd) (fun _ => wk)) M w hA hl (k_findNearest l D cI cZ cJ a μ g pc hd wk t hu hg hz (by omega)) gX1_takeInHand_X1_findNearest rfl ⟨rfl, rfl, by decide, by decide⟩ ⟨Nat.zero_le _, Nat.zero_le _⟩ 1 ⟨rfl, by decide +kernel⟩ rfl [true, true, true, true, true, true, true, true, true, true] rfl rfl 5 rfl rfl rfl (Nat.le_of_ble_eq_true rfl) rfl dX1_takeInHand_2 (fun H locs w => ?_)
  have b1 := fNr_bd (uAt (μ 19) t) (μ 0) g (show (0 : Int) ≤ 8 by omega)
  refine q_isn (lv' := [(2, .int (iI ((fNr (uAt (μ 19) t) (μ 0) g 8).1))), (0, .ref (a 5)), (1, .int (iI t))]) M dX1_takeInHand_5 rfl hl (by decide) rfl (fun ls hl => ?_)
  refine q_iln M dX1_takeInHand_6 (lv_at hl 0 rfl) ?_
  refine q_ic M dX1_takeInHand_7 ?_
  refine q_icmp_ne (tgt := 12) M dX1_takeInHand_8 (by decide) (by omega) (fun c8 => ?_) (fun c8 => ?_)
  · refine q_aln M dX1_takeInHand_12 (lv_at hl 1 rfl) ?_
    refine q_get (v := .int (iI pc)) M w in1 5 3 rfl rfl (by decide) (by decide +kernel) rfl rfl dX1_takeInHand_13 ?_
    refine q_bp M dX1_takeInHand_16 (by decide +kernel) ?_
    refine q_icmp_lt (tgt := 61) M dX1_takeInHand_18 (by decide) (by omega) (fun c18 => ?_) (fun c18 => ?_)
    · refine q_aln M dX1_takeInHand_61 (lv_at hl 1 rfl) ?_
      refine q_iln M dX1_takeInHand_62 (lv_at hl 0 rfl) ?_
      refine q_put (ws2 := WMem cI a μ g (fun _ => pc) (fun _ => (fNr (uAt (μ 19) t) (μ 0) g 8).1) (fun _ => wk)) M w in1 5 4 tyX1 tyX1_ok nmX1 rfl rfl (by decide) (by decide +kernel) rfl rfl rfl rfl (Nat.le_of_ble_eq_true rfl) rfl dX1_takeInHand_63 (fun H locs w => ?_)
      refine q_aln M dX1_takeInHand_66 (lv_at hl 1 rfl) ?_
      refine q_ic M dX1_takeInHand_67 ?_
      refine q_put (ws2 := WMem cI a μ g (fun _ => pc) (fun _ => (fNr (uAt (μ 19) t) (μ 0) g 8).1) (fun _ => 0)) M w in1 5 5 tyX1 tyX1_ok nmX1 rfl rfl (by decide) (by decide +kernel) rfl rfl rfl rfl (Nat.le_of_ble_eq_true rfl) rfl dX1_takeInHand_68 (fun H locs w => ?_)
      have e : tkF (uAt (μ 19) t) (μ 0) (g, pc, hd, wk) = (g, pc, (fNr (uAt (μ 19) t) (μ 0) g 8).1, 0) := (if_neg (show ¬ (fNr (uAt (μ 19) t) (μ 0) g 8).1 = -1 by omega)).trans (if_pos (show pc < 12 by omega))
      have w : wW D A zs.heap (WMem cI a μ ((tkF (uAt (μ 19) t) (μ 0) (g, pc, hd, wk)).1) (fun _ => (tkF (uAt (μ 19) t) (μ 0) (g, pc, hd, wk)).2.1) (fun _ => (tkF (uAt (μ 19) t) (μ 0) (g, pc, hd, wk)).2.2.1) (fun _ => (tkF (uAt (μ 19) t) (μ 0) (g, pc, hd, wk)).2.2.2)) H locs := by rw [e]; exact w
      exact kret _ _ _ _ dX1_takeInHand_71 w
    · refine q_aln M dX1_takeInHand_21 (lv_at hl 1 rfl) ?_
      refine q_iln M dX1_takeInHand_22 (lv_at hl 2 rfl) ?_
      refine q_iln M dX1_takeInHand_23 (lv_at hl 0 rfl) ?_
      refine qc_iV (As := [.int (iI t), .int (iI ((fNr (uAt (μ 19) t) (μ 0) g 8).1))]) (rest := []) (wc := WMem cI a μ g (fun _ => pc) (fun _ => hd) (fun _ => wk)) (wc2 := WMem cI a μ g (fun _ => pc) (fun _ => hd) (fun _ => wk)) (ws2 := WMem cI a μ g (fun _ => pc) (fun _ => hd) (fun _ => wk)) M w hA hl (k_findFarthest l D cI cZ cJ a μ g pc hd wk t ((fNr (uAt (μ 19) t) (μ 0) g 8).1) hu hg hz (by omega)) gX1_takeInHand_X1_findFarthest rfl ⟨rfl, rfl, by decide, by decide⟩ ⟨Nat.zero_le _, Nat.zero_le _⟩ 2 ⟨rfl, by decide +kernel⟩ rfl [true, true, true, true, true, true, true, true, true, true] rfl rfl 5 rfl rfl rfl (Nat.le_of_ble_eq_true rfl) rfl dX1_takeInHand_24 (fun H locs w => ?_)
      refine q_isn (lv' := [(3, .int (iI ((fFr (uAt (μ 19) t) g ((fNr (uAt (μ 19) t) (μ 0) g 8).1) 8).1))), (2, .int (iI ((fNr (uAt (μ 19) t) (μ 0) g 8).1))), (0, .ref (a 5)), (1, .int (iI t))]) M dX1_takeInHand_27 rfl hl (by decide) rfl (fun ls hl => ?_)
      have b2 := fFr_bd (uAt (μ 19) t) g (fNr (uAt (μ 19) t) (μ 0) g 8).1 (show (0 : Int) ≤ 8 by omega)
      refine q_iln M dX1_takeInHand_28 (lv_at hl 0 rfl) ?_
      refine q_ic M dX1_takeInHand_29 ?_
      refine q_icmp_eq (tgt := 54) M dX1_takeInHand_30 (by decide) (by omega) (fun c30 => ?_) (fun c30 => ?_)
      · have e : tkF (uAt (μ 19) t) (μ 0) (g, pc, hd, wk) = (g, pc, hd, wk) := (if_neg (show ¬ (fNr (uAt (μ 19) t) (μ 0) g 8).1 = -1 by omega)).trans ((if_neg (show ¬ pc < 12 by omega)).trans (if_pos (show (fFr (uAt (μ 19) t) g (fNr (uAt (μ 19) t) (μ 0) g 8).1 8).1 = -1 ∨ μ 19 (t * 8 + (fFr (uAt (μ 19) t) g (fNr (uAt (μ 19) t) (μ 0) g 8).1 8).1) ≤ μ 19 (t * 8 + (fNr (uAt (μ 19) t) (μ 0) g 8).1) by omega)))
        have w : wW D A zs.heap (WMem cI a μ ((tkF (uAt (μ 19) t) (μ 0) (g, pc, hd, wk)).1) (fun _ => (tkF (uAt (μ 19) t) (μ 0) (g, pc, hd, wk)).2.1) (fun _ => (tkF (uAt (μ 19) t) (μ 0) (g, pc, hd, wk)).2.2.1) (fun _ => (tkF (uAt (μ 19) t) (μ 0) (g, pc, hd, wk)).2.2.2)) H locs := by rw [e]; exact w
        exact kret _ _ _ _ dX1_takeInHand_54 w
      · refine q_aln M dX1_takeInHand_33 (lv_at hl 2 rfl) ?_
        refine q_get (v := .ref (a 4)) M w in1 5 1 rfl rfl (by decide) (by decide +kernel) rfl rfl dX1_takeInHand_34 ?_
        refine q_iln M dX1_takeInHand_37 (lv_at hl 3 rfl) ?_
        refine q_iln M dX1_takeInHand_38 (lv_at hl 0 rfl) ?_
        refine qc_iV (As := [.int (iI t), .int (iI ((fFr (uAt (μ 19) t) g ((fNr (uAt (μ 19) t) (μ 0) g 8).1) 8).1))]) (rest := []) (wc := WLk0 cI a μ (μ 19) (μ 20)) (wc2 := WLk0 cI a μ (μ 19) (μ 20)) (ws2 := WMem cI a μ g (fun _ => pc) (fun _ => hd) (fun _ => wk)) M w hA hl (k_useAfter l D cI cZ cJ a μ (μ 19) (μ 20) t ((fFr (uAt (μ 19) t) g ((fNr (uAt (μ 19) t) (μ 0) g 8).1) 8).1) (by omega)) gX1_takeInHand_X0_useAfter rfl ⟨rfl, rfl, by decide, by decide⟩ ⟨Nat.zero_le _, Nat.zero_le _⟩ 2 ⟨rfl, by decide +kernel⟩ rfl [true, true, true, true, true] rfl rfl 0 rfl rfl rfl (Nat.le_of_ble_eq_true rfl) rfl dX1_takeInHand_39 (fun H locs w => ?_)
        refine q_aln M dX1_takeInHand_42 (lv_at hl 2 rfl) ?_
        refine q_get (v := .ref (a 4)) M w in1 5 1 rfl rfl (by decide) (by decide +kernel) rfl rfl dX1_takeInHand_43 ?_
        refine q_iln M dX1_takeInHand_46 (lv_at hl 3 rfl) ?_
        refine q_iln M dX1_takeInHand_47 (lv_at hl 1 rfl) ?_
        refine qc_iV (As := [.int (iI t), .int (iI ((fNr (uAt (μ 19) t) (μ 0) g 8).1))]) (rest := [.int (iI ((μ 19) (t * 8 + ((fFr (uAt (μ 19) t) g ((fNr (uAt (μ 19) t) (μ 0) g 8).1) 8).1))))]) (wc := WLk0 cI a μ (μ 19) (μ 20)) (wc2 := WLk0 cI a μ (μ 19) (μ 20)) (ws2 := WMem cI a μ g (fun _ => pc) (fun _ => hd) (fun _ => wk)) M w hA hl (k_useAfter l D cI cZ cJ a μ (μ 19) (μ 20) t ((fNr (uAt (μ 19) t) (μ 0) g 8).1) (by omega)) gX1_takeInHand_X0_useAfter rfl ⟨rfl, rfl, by decide, by decide⟩ ⟨Nat.zero_le _, Nat.zero_le _⟩ 2 ⟨rfl, by decide +kernel⟩ rfl [true, true, true, true, true] rfl rfl 0 rfl rfl rfl (Nat.le_of_ble_eq_true rfl) rfl dX1_takeInHand_48 (fun H locs w => ?_)
        have q6 := hu (t * 8 + (fFr (uAt (μ 19) t) g (fNr (uAt (μ 19) t) (μ 0) g 8).1 8).1)
        have q7 := hu (t * 8 + (fNr (uAt (μ 19) t) (μ 0) g 8).1)
        refine q_icmp_gt (tgt := 55) M dX1_takeInHand_51 (by decide) (by omega) (fun c51 => ?_) (fun c51 => ?_)
        · refine q_aln M dX1_takeInHand_55 (lv_at hl 2 rfl) ?_
          refine q_iln M dX1_takeInHand_56 (lv_at hl 0 rfl) ?_
          refine q_ic M dX1_takeInHand_57 ?_
          refine qc_vV (As := [.int (iI ((fFr (uAt (μ 19) t) g ((fNr (uAt (μ 19) t) (μ 0) g 8).1) 8).1)), .int (iI (-1))]) (rest := []) (wc := WMy cI a μ g (fun _ => pc) (fun _ => hd) (fun _ => wk)) (wc2 := WMy cI a μ (iU g ((fFr (uAt (μ 19) t) g ((fNr (uAt (μ 19) t) (μ 0) g 8).1) 8).1) (g ((fFr (uAt (μ 19) t) g ((fNr (uAt (μ 19) t) (μ 0) g 8).1) 8).1) + (-1))) (fun _ => pc + (-1)) (fun _ => hd) (fun _ => wk)) (ws2 := WMem cI a μ (iU g ((fFr (uAt (μ 19) t) g ((fNr (uAt (μ 19) t) (μ 0) g 8).1) 8).1) (g ((fFr (uAt (μ 19) t) g ((fNr (uAt (μ 19) t) (μ 0) g 8).1) 8).1) + (-1))) (fun _ => pc + (-1)) (fun _ => hd) (fun _ => wk)) M w hA hl (k_addPage l D cI cZ cJ a μ g pc hd wk ((fFr (uAt (μ 19) t) g ((fNr (uAt (μ 19) t) (μ 0) g 8).1) 8).1) (-1) (by omega)) gX1_takeInHand_X1_addPage rfl ⟨rfl, rfl, by decide, by decide⟩ ⟨Nat.zero_le _, Nat.zero_le _⟩ 2 ⟨rfl, by decide +kernel⟩ rfl [false, false, false, false, false, true, true, true, true, true] rfl rfl 5 rfl rfl rfl (Nat.le_of_ble_eq_true rfl) rfl dX1_takeInHand_58 (fun H locs w => ?_)
          refine q_aln M dX1_takeInHand_61 (lv_at hl 2 rfl) ?_
          refine q_iln M dX1_takeInHand_62 (lv_at hl 1 rfl) ?_
          refine q_put (ws2 := WMem cI a μ (iU g ((fFr (uAt (μ 19) t) g ((fNr (uAt (μ 19) t) (μ 0) g 8).1) 8).1) (g ((fFr (uAt (μ 19) t) g ((fNr (uAt (μ 19) t) (μ 0) g 8).1) 8).1) + (-1))) (fun _ => pc + (-1)) (fun _ => (fNr (uAt (μ 19) t) (μ 0) g 8).1) (fun _ => wk)) M w in1 5 4 tyX1 tyX1_ok nmX1 rfl rfl (by decide) (by decide +kernel) rfl rfl rfl rfl (Nat.le_of_ble_eq_true rfl) rfl dX1_takeInHand_63 (fun H locs w => ?_)
          refine q_aln M dX1_takeInHand_66 (lv_at hl 2 rfl) ?_
          refine q_ic M dX1_takeInHand_67 ?_
          refine q_put (ws2 := WMem cI a μ (iU g ((fFr (uAt (μ 19) t) g ((fNr (uAt (μ 19) t) (μ 0) g 8).1) 8).1) (g ((fFr (uAt (μ 19) t) g ((fNr (uAt (μ 19) t) (μ 0) g 8).1) 8).1) + (-1))) (fun _ => pc + (-1)) (fun _ => (fNr (uAt (μ 19) t) (μ 0) g 8).1) (fun _ => 0)) M w in1 5 5 tyX1 tyX1_ok nmX1 rfl rfl (by decide) (by decide +kernel) rfl rfl rfl rfl (Nat.le_of_ble_eq_true rfl) rfl dX1_takeInHand_68 (fun H locs w => ?_)
          have e : tkF (uAt (μ 19) t) (μ 0) (g, pc, hd, wk) = (iU g ((fFr (uAt (μ 19) t) g ((fNr (uAt (μ 19) t) (μ 0) g 8).1) 8).1) (g ((fFr (uAt (μ 19) t) g ((fNr (uAt (μ 19) t) (μ 0) g 8).1) 8).1) + (-1)), pc + (-1), (fNr (uAt (μ 19) t) (μ 0) g 8).1, 0) := (if_neg (show ¬ (fNr (uAt (μ 19) t) (μ 0) g 8).1 = -1 by omega)).trans ((if_neg (show ¬ pc < 12 by omega)).trans (if_neg (show ¬ ((fFr (uAt (μ 19) t) g (fNr (uAt (μ 19) t) (μ 0) g 8).1 8).1 = -1 ∨ μ 19 (t * 8 + (fFr (uAt (μ 19) t) g (fNr (uAt (μ 19) t) (μ 0) g 8).1 8).1) ≤ μ 19 (t * 8 + (fNr (uAt (μ 19) t) (μ 0) g 8).1)) by omega)))
          have w : wW D A zs.heap (WMem cI a μ ((tkF (uAt (μ 19) t) (μ 0) (g, pc, hd, wk)).1) (fun _ => (tkF (uAt (μ 19) t) (μ 0) (g, pc, hd, wk)).2.1) (fun _ => (tkF (uAt (μ 19) t) (μ 0) (g, pc, hd, wk)).2.2.1) (fun _ => (tkF (uAt (μ 19) t) (μ 0) (g, pc, hd, wk)).2.2.2)) H locs := by rw [e]; exact w
          exact kret _ _ _ _ dX1_takeInHand_71 w
        · have e : tkF (uAt (μ 19) t) (μ 0) (g, pc, hd, wk) = (g, pc, hd, wk) := (if_neg (show ¬ (fNr (uAt (μ 19) t) (μ 0) g 8).1 = -1 by omega)).trans ((if_neg (show ¬ pc < 12 by omega)).trans (if_pos (show (fFr (uAt (μ 19) t) g (fNr (uAt (μ 19) t) (μ 0) g 8).1 8).1 = -1 ∨ μ 19 (t * 8 + (fFr (uAt (μ 19) t) g (fNr (uAt (μ 19) t) (μ 0) g 8).1 8).1) ≤ μ 19 (t * 8 + (fNr (uAt (μ 19) t) (μ 0) g 8).1) by omega)))
          have w : wW D A zs.heap (WMem cI a μ ((tkF (uAt (μ 19) t) (μ 0) (g, pc, hd, wk)).1) (fun _ => (tkF (uAt (μ 19) t) (μ 0) (g, pc, hd, wk)).2.1) (fun _ => (tkF (uAt (μ 19) t) (μ 0) (g, pc, hd, wk)).2.2.1) (fun _ => (tkF (uAt (μ 19) t) (μ 0) (g, pc, hd, wk)).2.2.2)) H locs := by rw [e]; exact w
          exact kret _ _ _ _ dX1_takeInHand_54 w
  · have e : tkF (uAt (μ 19) t) (μ 0) (g, pc, hd, wk) = (g, pc, hd, wk) := if_pos (show (fNr (uAt (μ 19) t) (μ 0) g 8).1 = -1 by omega)
    have w : wW D A zs.heap (WMem cI a μ ((tkF (uAt (μ 19) t) (μ 0) (g, pc, hd, wk)).1) (fun _ => (tkF (uAt (μ 19) t) (μ 0) (g, pc, hd, wk)).2.1) (fun _ => (tkF (uAt (μ 19) t) (μ 0) (g, pc, hd, wk)).2.2.1) (fun _ => (tkF (uAt (μ 19) t) (μ 0) (g, pc, hd, wk)).2.2.2)) H locs := by rw [e]; exact w
    exact kret _ _ _ _ dX1_takeInHand_11 w

set_option maxHeartbeats 4000000 in
set_option maxRecDepth 100000 in
/-- Memory.load -/
theorem k_load (l : Launch) (D : va_G) (cI cZ cJ : ClassId) (a : Nat → Nat) (μ : Nat → Int → Int) (g : Int → Int) (pc hd wk : Int) (t : Int) (hu : ∀ i, -200 ≤ μ 19 i ∧ μ 19 i ≤ 768) (hg : ∀ i, -100 ≤ g i ∧ g i ≤ 1000) (hz : ∀ i, 1 ≤ μ 0 i ∧ μ 0 i ≤ 6) (hc : (0 ≤ t ∧ t < 192) ∧ (0 ≤ pc ∧ pc ≤ 100) ∧ (-1 ≤ hd ∧ hd < 8) ∧ 0 ≤ wk ∧ wk ≤ 100) (ht : (-1 ≤ (tkF (uAt (μ 19) t) (μ 0) (g, pc, hd, wk)).2.2.1 ∧ (tkF (uAt (μ 19) t) (μ 0) (g, pc, hd, wk)).2.2.1 < 8) ∧ 0 ≤ (tkF (uAt (μ 19) t) (μ 0) (g, pc, hd, wk)).2.2.2 ∧ (tkF (uAt (μ 19) t) (μ 0) (g, pc, hd, wk)).2.2.2 ≤ 100) : Cv l D (tY cI cZ cJ) yX1_load wsX1_load rmX1_load [.ref (a 5), .int (iI t)] (WMem cI a μ g (fun _ => pc) (fun _ => hd) (fun _ => wk)) (WMem cI a μ ((ldF (uAt (μ 19) t) (μ 0) (g, pc, hd, wk)).1) (fun _ => (ldF (uAt (μ 19) t) (μ 0) (g, pc, hd, wk)).2.1) (fun _ => (ldF (uAt (μ 19) t) (μ 0) (g, pc, hd, wk)).2.2.1) (fun _ => (ldF (uAt (μ 19) t) (μ 0) (g, pc, hd, wk)).2.2.2)) := by
  refine qv_of (by decide +kernel) rfl (Nat.le_of_ble_eq_true rfl) ?_
  intro zp ze zs zm zargs zbelow zmeth zc A Q ls M hA w hl kret
  have hl : lv_has ls 2 [(0, .ref (a 5)), (1, .int (iI t))] := hl
  have in1 : ∀ w ∈ u_ws RX1 TX1 6, w ∈ wsX1_load := by decide +kernel
  refine q_aln M dX1_load_0 (lv_at hl 0 rfl) ?_
  refine q_get (v := .int (iI hd)) M w in1 5 4 rfl rfl (by decide) (by decide +kernel) rfl rfl dX1_load_1 ?_
  refine q_ic M dX1_load_4 ?_
  refine q_icmp_ne (tgt := 13) M dX1_load_5 (by decide) (by omega) (fun c5 => ?_) (fun c5 => ?_)
  · have b1 := ht
    refine q_aln M dX1_load_13 (lv_at hl 0 rfl) ?_
    refine q_get (v := .int (iI hd)) M w in1 5 4 rfl rfl (by decide) (by decide +kernel) rfl rfl dX1_load_14 ?_
    refine q_ic M dX1_load_17 ?_
    refine q_icmp_eq (tgt := 25) M dX1_load_18 (by decide) (by omega) (fun c18 => ?_) (fun c18 => ?_)
    · exfalso; omega
    · refine q_aln M dX1_load_21 (lv_at hl 0 rfl) ?_
      refine qc_vV (As := []) (rest := []) (wc := WMy cI a μ g (fun _ => pc) (fun _ => hd) (fun _ => wk)) (wc2 := WMy cI a μ ((wkF (g, pc, hd, wk)).1) (fun _ => (wkF (g, pc, hd, wk)).2.1) (fun _ => (wkF (g, pc, hd, wk)).2.2.1) (fun _ => (wkF (g, pc, hd, wk)).2.2.2)) (ws2 := WMem cI a μ ((wkF (g, pc, hd, wk)).1) (fun _ => (wkF (g, pc, hd, wk)).2.1) (fun _ => (wkF (g, pc, hd, wk)).2.2.1) (fun _ => (wkF (g, pc, hd, wk)).2.2.2)) M w hA hl (k_workOn l D cI cZ cJ a μ g pc hd wk (by omega)) gX1_load_X1_workOn rfl ⟨rfl, rfl, by decide, by decide⟩ ⟨Nat.zero_le _, Nat.zero_le _⟩ 0 ⟨rfl, by decide +kernel⟩ rfl [false, false, false, false, false, true, true, true, true, true] rfl rfl 5 rfl rfl rfl (Nat.le_of_ble_eq_true rfl) rfl dX1_load_22 (fun H locs w => ?_)
      have e : ldF (uAt (μ 19) t) (μ 0) (g, pc, hd, wk) = ((wkF (g, pc, hd, wk)).1, (wkF (g, pc, hd, wk)).2.1, (wkF (g, pc, hd, wk)).2.2.1, (wkF (g, pc, hd, wk)).2.2.2) := if_neg (show ¬ hd = -1 by omega)
      have w : wW D A zs.heap (WMem cI a μ ((ldF (uAt (μ 19) t) (μ 0) (g, pc, hd, wk)).1) (fun _ => (ldF (uAt (μ 19) t) (μ 0) (g, pc, hd, wk)).2.1) (fun _ => (ldF (uAt (μ 19) t) (μ 0) (g, pc, hd, wk)).2.2.1) (fun _ => (ldF (uAt (μ 19) t) (μ 0) (g, pc, hd, wk)).2.2.2)) H locs := by rw [e]; exact w
      exact kret _ _ _ _ dX1_load_25 w
  · refine q_aln M dX1_load_8 (lv_at hl 0 rfl) ?_
    refine q_iln M dX1_load_9 (lv_at hl 1 rfl) ?_
    refine qc_vV (As := [.int (iI t)]) (rest := []) (wc := WMem cI a μ g (fun _ => pc) (fun _ => hd) (fun _ => wk)) (wc2 := WMem cI a μ ((tkF (uAt (μ 19) t) (μ 0) (g, pc, hd, wk)).1) (fun _ => (tkF (uAt (μ 19) t) (μ 0) (g, pc, hd, wk)).2.1) (fun _ => (tkF (uAt (μ 19) t) (μ 0) (g, pc, hd, wk)).2.2.1) (fun _ => (tkF (uAt (μ 19) t) (μ 0) (g, pc, hd, wk)).2.2.2)) (ws2 := WMem cI a μ ((tkF (uAt (μ 19) t) (μ 0) (g, pc, hd, wk)).1) (fun _ => (tkF (uAt (μ 19) t) (μ 0) (g, pc, hd, wk)).2.1) (fun _ => (tkF (uAt (μ 19) t) (μ 0) (g, pc, hd, wk)).2.2.1) (fun _ => (tkF (uAt (μ 19) t) (μ 0) (g, pc, hd, wk)).2.2.2)) M w hA hl (k_takeInHand l D cI cZ cJ a μ g pc hd wk t hu hg hz (by omega)) gX1_load_X1_takeInHand rfl ⟨rfl, rfl, by decide, by decide⟩ ⟨Nat.zero_le _, Nat.zero_le _⟩ 1 ⟨rfl, by decide +kernel⟩ rfl [true, true, true, true, true, true, true, true, true, true] rfl rfl 5 rfl rfl rfl (Nat.le_of_ble_eq_true rfl) rfl dX1_load_10 (fun H locs w => ?_)
    have b1 := ht
    refine q_aln M dX1_load_13 (lv_at hl 0 rfl) ?_
    refine q_get (v := .int (iI ((tkF (uAt (μ 19) t) (μ 0) (g, pc, hd, wk)).2.2.1))) M w in1 5 4 rfl rfl (by decide) (by decide +kernel) rfl rfl dX1_load_14 ?_
    refine q_ic M dX1_load_17 ?_
    refine q_icmp_eq (tgt := 25) M dX1_load_18 (by decide) (by omega) (fun c18 => ?_) (fun c18 => ?_)
    · have e : ldF (uAt (μ 19) t) (μ 0) (g, pc, hd, wk) = ((tkF (uAt (μ 19) t) (μ 0) (g, pc, hd, wk)).1, (tkF (uAt (μ 19) t) (μ 0) (g, pc, hd, wk)).2.1, (tkF (uAt (μ 19) t) (μ 0) (g, pc, hd, wk)).2.2.1, (tkF (uAt (μ 19) t) (μ 0) (g, pc, hd, wk)).2.2.2) := (if_pos (show hd = -1 by omega)).trans (if_pos (show (tkF (uAt (μ 19) t) (μ 0) (g, pc, hd, wk)).2.2.1 = -1 by omega))
      have w : wW D A zs.heap (WMem cI a μ ((ldF (uAt (μ 19) t) (μ 0) (g, pc, hd, wk)).1) (fun _ => (ldF (uAt (μ 19) t) (μ 0) (g, pc, hd, wk)).2.1) (fun _ => (ldF (uAt (μ 19) t) (μ 0) (g, pc, hd, wk)).2.2.1) (fun _ => (ldF (uAt (μ 19) t) (μ 0) (g, pc, hd, wk)).2.2.2)) H locs := by rw [e]; exact w
      exact kret _ _ _ _ dX1_load_25 w
    · refine q_aln M dX1_load_21 (lv_at hl 0 rfl) ?_
      refine qc_vV (As := []) (rest := []) (wc := WMy cI a μ ((tkF (uAt (μ 19) t) (μ 0) (g, pc, hd, wk)).1) (fun _ => (tkF (uAt (μ 19) t) (μ 0) (g, pc, hd, wk)).2.1) (fun _ => (tkF (uAt (μ 19) t) (μ 0) (g, pc, hd, wk)).2.2.1) (fun _ => (tkF (uAt (μ 19) t) (μ 0) (g, pc, hd, wk)).2.2.2)) (wc2 := WMy cI a μ ((wkF (((tkF (uAt (μ 19) t) (μ 0) (g, pc, hd, wk)).1), ((tkF (uAt (μ 19) t) (μ 0) (g, pc, hd, wk)).2.1), ((tkF (uAt (μ 19) t) (μ 0) (g, pc, hd, wk)).2.2.1), ((tkF (uAt (μ 19) t) (μ 0) (g, pc, hd, wk)).2.2.2))).1) (fun _ => (wkF (((tkF (uAt (μ 19) t) (μ 0) (g, pc, hd, wk)).1), ((tkF (uAt (μ 19) t) (μ 0) (g, pc, hd, wk)).2.1), ((tkF (uAt (μ 19) t) (μ 0) (g, pc, hd, wk)).2.2.1), ((tkF (uAt (μ 19) t) (μ 0) (g, pc, hd, wk)).2.2.2))).2.1) (fun _ => (wkF (((tkF (uAt (μ 19) t) (μ 0) (g, pc, hd, wk)).1), ((tkF (uAt (μ 19) t) (μ 0) (g, pc, hd, wk)).2.1), ((tkF (uAt (μ 19) t) (μ 0) (g, pc, hd, wk)).2.2.1), ((tkF (uAt (μ 19) t) (μ 0) (g, pc, hd, wk)).2.2.2))).2.2.1) (fun _ => (wkF (((tkF (uAt (μ 19) t) (μ 0) (g, pc, hd, wk)).1), ((tkF (uAt (μ 19) t) (μ 0) (g, pc, hd, wk)).2.1), ((tkF (uAt (μ 19) t) (μ 0) (g, pc, hd, wk)).2.2.1), ((tkF (uAt (μ 19) t) (μ 0) (g, pc, hd, wk)).2.2.2))).2.2.2)) (ws2 := WMem cI a μ ((wkF (((tkF (uAt (μ 19) t) (μ 0) (g, pc, hd, wk)).1), ((tkF (uAt (μ 19) t) (μ 0) (g, pc, hd, wk)).2.1), ((tkF (uAt (μ 19) t) (μ 0) (g, pc, hd, wk)).2.2.1), ((tkF (uAt (μ 19) t) (μ 0) (g, pc, hd, wk)).2.2.2))).1) (fun _ => (wkF (((tkF (uAt (μ 19) t) (μ 0) (g, pc, hd, wk)).1), ((tkF (uAt (μ 19) t) (μ 0) (g, pc, hd, wk)).2.1), ((tkF (uAt (μ 19) t) (μ 0) (g, pc, hd, wk)).2.2.1), ((tkF (uAt (μ 19) t) (μ 0) (g, pc, hd, wk)).2.2.2))).2.1) (fun _ => (wkF (((tkF (uAt (μ 19) t) (μ 0) (g, pc, hd, wk)).1), ((tkF (uAt (μ 19) t) (μ 0) (g, pc, hd, wk)).2.1), ((tkF (uAt (μ 19) t) (μ 0) (g, pc, hd, wk)).2.2.1), ((tkF (uAt (μ 19) t) (μ 0) (g, pc, hd, wk)).2.2.2))).2.2.1) (fun _ => (wkF (((tkF (uAt (μ 19) t) (μ 0) (g, pc, hd, wk)).1), ((tkF (uAt (μ 19) t) (μ 0) (g, pc, hd, wk)).2.1), ((tkF (uAt (μ 19) t) (μ 0) (g, pc, hd, wk)).2.2.1), ((tkF (uAt (μ 19) t) (μ 0) (g, pc, hd, wk)).2.2.2))).2.2.2)) M w hA hl (k_workOn l D cI cZ cJ a μ ((tkF (uAt (μ 19) t) (μ 0) (g, pc, hd, wk)).1) ((tkF (uAt (μ 19) t) (μ 0) (g, pc, hd, wk)).2.1) ((tkF (uAt (μ 19) t) (μ 0) (g, pc, hd, wk)).2.2.1) ((tkF (uAt (μ 19) t) (μ 0) (g, pc, hd, wk)).2.2.2) (by omega)) gX1_load_X1_workOn rfl ⟨rfl, rfl, by decide, by decide⟩ ⟨Nat.zero_le _, Nat.zero_le _⟩ 0 ⟨rfl, by decide +kernel⟩ rfl [false, false, false, false, false, true, true, true, true, true] rfl rfl 5 rfl rfl rfl (Nat.le_of_ble_eq_true rfl) rfl dX1_load_22 (fun H locs w => ?_)
      have e : ldF (uAt (μ 19) t) (μ 0) (g, pc, hd, wk) = ((wkF (((tkF (uAt (μ 19) t) (μ 0) (g, pc, hd, wk)).1), ((tkF (uAt (μ 19) t) (μ 0) (g, pc, hd, wk)).2.1), ((tkF (uAt (μ 19) t) (μ 0) (g, pc, hd, wk)).2.2.1), ((tkF (uAt (μ 19) t) (μ 0) (g, pc, hd, wk)).2.2.2))).1, (wkF (((tkF (uAt (μ 19) t) (μ 0) (g, pc, hd, wk)).1), ((tkF (uAt (μ 19) t) (μ 0) (g, pc, hd, wk)).2.1), ((tkF (uAt (μ 19) t) (μ 0) (g, pc, hd, wk)).2.2.1), ((tkF (uAt (μ 19) t) (μ 0) (g, pc, hd, wk)).2.2.2))).2.1, (wkF (((tkF (uAt (μ 19) t) (μ 0) (g, pc, hd, wk)).1), ((tkF (uAt (μ 19) t) (μ 0) (g, pc, hd, wk)).2.1), ((tkF (uAt (μ 19) t) (μ 0) (g, pc, hd, wk)).2.2.1), ((tkF (uAt (μ 19) t) (μ 0) (g, pc, hd, wk)).2.2.2))).2.2.1, (wkF (((tkF (uAt (μ 19) t) (μ 0) (g, pc, hd, wk)).1), ((tkF (uAt (μ 19) t) (μ 0) (g, pc, hd, wk)).2.1), ((tkF (uAt (μ 19) t) (μ 0) (g, pc, hd, wk)).2.2.1), ((tkF (uAt (μ 19) t) (μ 0) (g, pc, hd, wk)).2.2.2))).2.2.2) := (if_pos (show hd = -1 by omega)).trans (if_neg (show ¬ (tkF (uAt (μ 19) t) (μ 0) (g, pc, hd, wk)).2.2.1 = -1 by omega))
      have w : wW D A zs.heap (WMem cI a μ ((ldF (uAt (μ 19) t) (μ 0) (g, pc, hd, wk)).1) (fun _ => (ldF (uAt (μ 19) t) (μ 0) (g, pc, hd, wk)).2.1) (fun _ => (ldF (uAt (μ 19) t) (μ 0) (g, pc, hd, wk)).2.2.1) (fun _ => (ldF (uAt (μ 19) t) (μ 0) (g, pc, hd, wk)).2.2.2)) H locs := by rw [e]; exact w
      exact kret _ _ _ _ dX1_load_25 w
