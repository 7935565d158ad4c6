/-! THE REFERENCE: the memory -/
theorem fNr_u (u z g : Int → Int) {k : Int} (hk : 0 ≤ k) : ((fNr u z g k).1 = -1 ∧ (fNr u z g k).2 = 768) ∨ (0 ≤ (fNr u z g k).1 ∧ (fNr u z g k).2 = u (fNr u z g k).1 ∧ (fNr u z g k).2 < 768) := by
  have key := itI_ind (F := fun s (st : Int × Int) => if u s < st.2 ∧ g s < z s then (s, u s) else st) (g := ((-1 : Int), (768 : Int))) (fun n (st : Int × Int) => ((st.1 = -1 ∧ st.2 = 768) ∨ (0 ≤ st.1 ∧ st.2 = u st.1 ∧ st.2 < 768)) ∧ st.2 ≤ 768) ⟨Or.inl ⟨rfl, rfl⟩, by decide⟩ (fun j st hj ih => by
    by_cases q : u j < st.2 ∧ g j < z j
    · rw [if_pos q]
      refine ⟨Or.inr ⟨hj, rfl, ?_⟩, ?_⟩
      · show u j < 768
        have := ih.2; have := q.1; omega
      · show u j ≤ 768
        have := ih.2; have := q.1; omega
    · rw [if_neg q]; exact ih) (i := k) hk
  exact key.1
noncomputable def tkR (ν : Nat → Int → Int) : (Int → Int) × Int × Int × Int := tkF (nU ν) (ν 1) (ν 25, sI (ν 25) 8, ν 26 0, ν 27 0)
/-- what the loader needs -/
def MX (ν : Nat → Int → Int) : Prop := NX ν ∧ (∀ i, 0 ≤ ν 25 i ∧ ν 25 i ≤ 6) ∧ (∀ i, 1 ≤ ν 1 i ∧ ν 1 i ≤ 6) ∧ sI (ν 25) 8 ≤ 12

set_option maxHeartbeats 4000000 in
set_option maxRecDepth 100000 in
/-- pages -/
theorem m_pages (l : Launch) (D : va_G) (cI cZ cJ : ClassId) (b : Nat → Nat) (ν : Nat → Int → Int) (hh : ν 26 0 = -1) : Ci l D (tY cI cZ cJ) yX7_pages wsX7_pages rmX7_pages [.ref (b 0)] (WMod cI cZ b ν) (sI (ν 25) 8) (WMod cI cZ b ν) := by
  refine qi_of (by decide +kernel) rfl (Nat.le_of_ble_eq_true rfl) ?_
  intro zp ze zs zm zargs zbelow zmeth zc A Q ls M hA w hl kret
  have hl : lv_has ls 3 [(0, .ref (b 0))] := hl
  have in7 : ∀ w ∈ u_ws RX7 TX7 31, w ∈ wsX7_pages := by decide +kernel
  refine q_aln M dX7_pages_0 (lv_at hl 0 rfl) ?_
  refine q_get (v := .int (iI (ν 26 0))) M w in7 0 26 rfl rfl (by decide) (by decide +kernel) rfl rfl dX7_pages_1 ?_
  refine q_ic M dX7_pages_4 ?_
  refine q_icmp_ne (tgt := 12) M dX7_pages_5 (by decide) (by omega) (fun c5 => ?_) (fun c5 => ?_)
  · exfalso; omega
  · refine q_ic M dX7_pages_8 ?_
    refine q_go (tgt := 13) M dX7_pages_9 (by decide) ?_
    refine q_isn (lv' := [(1, .int (iI 0)), (0, .ref (b 0))]) M dX7_pages_13 rfl hl (by decide) rfl (fun ls hl => ?_)
    refine q_ic M dX7_pages_14 ?_
    refine q_isn (lv' := [(2, .int (iI 0)), (1, .int (iI 0)), (0, .ref (b 0))]) M dX7_pages_15 rfl hl (by decide) rfl (fun ls hl => ?_)
    have lp16 : ∀ (n16 : Nat) (k : Int), (0 ≤ k ∧ k ≤ 8) → (8 - k : Int) < (n16 : Int) → ∀ (H : Heap) (locs : List Loc) (ls : Array Slot), wW D A zs.heap (WMod cI cZ b ν) H locs → lv_has ls 3 [(0, .ref (b 0)), (1, .int (iI (sI (ν 25) k))), (2, .int (iI k))] → W zp l ze rmX7_pages zs zm zargs zbelow zmeth zc H locs 0 0 Q (F0 zm 16 ls []) := by
      intro n16
      induction n16 with
      | zero => intro k hj hm H locs ls w hl; exfalso; omega
      | succ n16 ih16 =>
        intro k hj hm16 H locs ls w hl
        refine q_iln M dX7_pages_16 (lv_at hl 2 rfl) ?_
        refine q_bp M dX7_pages_17 (by decide +kernel) ?_
        refine q_icmp_ge (tgt := 37) M dX7_pages_19 (by decide) (by omega) (fun c19 => ?_) (fun c19 => ?_)
        · refine q_iln M dX7_pages_37 (lv_at hl 1 rfl) ?_
          exact kret _ _ _ _ _ dX7_pages_38 w (by rw [show k = 8 by omega])
        · refine q_iln M dX7_pages_22 (lv_at hl 1 rfl) ?_
          refine q_aln M dX7_pages_23 (lv_at hl 0 rfl) ?_
          refine q_get (v := .ref (b 25)) M w in7 0 25 rfl rfl (by decide) (by decide +kernel) rfl rfl dX7_pages_24 ?_
          refine q_iln M dX7_pages_27 (lv_at hl 2 rfl) ?_
          refine q_iald (f := ν 25) M w 20 0 rfl rfl (by omega) dX7_pages_28 ?_
          refine q_add M dX7_pages_29 ?_
          refine q_isn (lv' := [(1, .int (iI ((sI (ν 25) k) + ((ν 25) k)))), (0, .ref (b 0)), (2, .int (iI k))]) M dX7_pages_30 rfl hl (by decide) rfl (fun ls hl => ?_)
          have er := sI_s (ν 25) hj.1
          have hl : lv_has ls 3 [(1, .int (iI (sI (ν 25) (k + 1)))), (0, .ref (b 0)), (2, .int (iI k))] := by rw [er]; exact hl
          refine q_inc (z := k) (lv' := [(2, .int (iI (k + 1))), (1, .int (iI (sI (ν 25) (k + 1)))), (0, .ref (b 0))]) M dX7_pages_31 hl (k := 2) rfl (by decide) rfl (fun ls hl => ?_)
          refine q_go (tgt := 16) M dX7_pages_34 (by decide) ?_
          exact ih16 (k + 1) (by omega) (by omega) _ _ _ w (lv_sub hl [2, 1, 0] rfl)
    have e0 := sI_0 (ν 25)
    have hl : lv_has ls 3 [(2, .int (iI 0)), (1, .int (iI (sI (ν 25) 0))), (0, .ref (b 0))] := by rw [e0]; exact hl
    exact lp16 9 0 (by omega) (by omega) _ _ _ w (lv_sub hl [2, 1, 0] rfl)

set_option maxHeartbeats 4000000 in
set_option maxRecDepth 100000 in
/-- last -/
theorem m_last (l : Launch) (D : va_G) (cI cZ cJ : ClassId) (b : Nat → Nat) (ν : Nat → Int → Int) (x : Int) (hx : -2147483648 ≤ x ∧ x < 2147483648) (hM : MX ν) : Ci l D (tY cI cZ cJ) yX7_last wsX7_last rmX7_last [.ref (b 0), .int (iI x)] (WMod cI cZ b ν) ((fFr (nU ν) (ν 25) x 8).1) (WMod cI cZ b ν) := by
  obtain ⟨hN, hg, hz, hsum⟩ := id hM
  refine qi_of (by decide +kernel) rfl (Nat.le_of_ble_eq_true rfl) ?_
  intro zp ze zs zm zargs zbelow zmeth zc A Q ls M hA w hl kret
  have hl : lv_has ls 6 [(0, .ref (b 0)), (1, .int (iI x))] := hl
  have in7 : ∀ w ∈ u_ws RX7 TX7 31, w ∈ wsX7_last := by decide +kernel
  refine q_ic M dX7_last_0 ?_
  refine q_isn (lv' := [(2, .int (iI (-1))), (0, .ref (b 0)), (1, .int (iI x))]) M dX7_last_1 rfl hl (by decide) rfl (fun ls hl => ?_)
  refine q_ic M dX7_last_2 ?_
  refine q_isn (lv' := [(3, .int (iI 0)), (2, .int (iI (-1))), (0, .ref (b 0)), (1, .int (iI x))]) M dX7_last_3 rfl hl (by decide) rfl (fun ls hl => ?_)
  refine q_ic M dX7_last_4 ?_
  refine q_is (lv' := [(4, .int (iI 0)), (3, .int (iI 0)), (2, .int (iI (-1))), (0, .ref (b 0)), (1, .int (iI x))]) M dX7_last_5 hl (by decide) rfl (fun ls hl => ?_)
  have lp7 : ∀ (n7 : Nat) (k : Int), (0 ≤ k ∧ k ≤ 8) → (8 - k : Int) < (n7 : Int) → ∀ (H : Heap) (locs : List Loc) (ls : Array Slot), wW D A zs.heap (WMod cI cZ b ν) H locs → lv_has ls 6 [(0, .ref (b 0)), (1, .int (iI x)), (2, .int (iI ((fFr (nU ν) (ν 25) x k).1))), (3, .int (iI (fr2 (fFr (nU ν) (ν 25) x k).2))), (4, .int (iI k))] → W zp l ze rmX7_last zs zm zargs zbelow zmeth zc H locs 0 0 Q (F0 zm 7 ls []) := by
    intro n7
    induction n7 with
    | zero => intro k hj hm H locs ls w hl; exfalso; omega
    | succ n7 ih7 =>
      intro k hj hm7 H locs ls w hl
      have b1 := fFr_bd (nU ν) (ν 25) x hj.1
      have b2 := b1.2.2 (fun i => by have := nU_bd hN i; omega)
      refine q_il M dX7_last_7 (lv_at hl 4 rfl) ?_
      refine q_bp M dX7_last_9 (by decide +kernel) ?_
      refine q_icmp_ge (tgt := 71) M dX7_last_11 (by decide) (by omega) (fun c11 => ?_) (fun c11 => ?_)
      · refine q_iln M dX7_last_71 (lv_at hl 2 rfl) ?_
        exact kret _ _ _ _ _ dX7_last_72 w (by rw [show k = 8 by omega])
      · refine q_aln M dX7_last_14 (lv_at hl 0 rfl) ?_
        refine q_il M dX7_last_15 (lv_at hl 4 rfl) ?_
        refine qc_iV (As := [.int (iI k)]) (rest := []) (wc := WMod cI cZ b ν) (wc2 := WMod cI cZ b ν) (ws2 := WMod cI cZ b ν) M w hA hl (m_next l D cI cZ cJ b ν k (by omega) hN) gX7_last_X7_next rfl ⟨rfl, rfl, by decide, by decide⟩ ⟨Nat.zero_le _, Nat.zero_le _⟩ 1 ⟨rfl, by decide +kernel⟩ rfl [true, true, true, true, true, true, true, true, true, true, true, true, true, true, true, true, true, true, true, true, true] rfl rfl 0 rfl rfl rfl (Nat.le_of_ble_eq_true rfl) rfl dX7_last_17 (fun H locs w => ?_)
        have un := nU_c hN k
        have f1 := fr2_c (nU ν k)
        have f2 := fr2_c (fFr (nU ν) (ν 25) x k).2
        refine q_is (lv' := [(5, .int (iI (nF ν k))), (0, .ref (b 0)), (1, .int (iI x)), (2, .int (iI ((fFr (nU ν) (ν 25) x k).1))), (3, .int (iI (fr2 (fFr (nU ν) (ν 25) x k).2))), (4, .int (iI k))]) M dX7_last_20 hl (by decide) rfl (fun ls hl => ?_)
        refine q_il M dX7_last_22 (lv_at hl 0 rfl) ?_
        refine q_ic M dX7_last_24 ?_
        refine q_icmp_ne (tgt := 33) M dX7_last_25 (by decide) (by omega) (fun c25 => ?_) (fun c25 => ?_)
        · refine q_il M dX7_last_33 (lv_at hl 0 rfl) ?_
          refine q_is (lv' := [(5, .int (iI (nF ν k))), (0, .ref (b 0)), (1, .int (iI x)), (2, .int (iI ((fFr (nU ν) (ν 25) x k).1))), (3, .int (iI (fr2 (fFr (nU ν) (ν 25) x k).2))), (4, .int (iI k))]) M dX7_last_35 hl (by decide) rfl (fun ls hl => ?_)
          have e5 : fr2 (nU ν k) = nF ν k := by omega
          have hl : lv_has ls 6 [(5, .int (iI (fr2 (nU ν k)))), (0, .ref (b 0)), (1, .int (iI x)), (2, .int (iI ((fFr (nU ν) (ν 25) x k).1))), (3, .int (iI (fr2 (fFr (nU ν) (ν 25) x k).2))), (4, .int (iI k))] := by rw [e5]; exact hl
          refine q_il M dX7_last_37 (lv_at hl 5 rfl) ?_
          refine q_iln M dX7_last_39 (lv_at hl 2 rfl) ?_
          refine q_icmp_eq (tgt := 65) M dX7_last_40 (by decide) (by omega) (fun c40 => ?_) (fun c40 => ?_)
          · have ee : fFr (nU ν) (ν 25) x (k + 1) = ((fFr (nU ν) (ν 25) x k)) := (itI_s _ _ hj.1).trans (if_neg (show ¬ (k ≠ x ∧ 0 < ν 25 k ∧ (fFr (nU ν) (ν 25) x k).2 ≤ nU ν k) from fun q => by have q1 := q.1; have q2 := q.2.1; have q3 := q.2.2; omega))
            have hl : lv_has ls 6 [(5, .int (iI (fr2 (nU ν k)))), (0, .ref (b 0)), (1, .int (iI x)), (2, .int (iI ((fFr (nU ν) (ν 25) x (k + 1)).1))), (3, .int (iI (fr2 (fFr (nU ν) (ν 25) x (k + 1)).2))), (4, .int (iI k))] := by rw [ee]; exact hl
            refine q_inc (z := k) (lv' := [(4, .int (iI (k + 1))), (5, .int (iI (fr2 (nU ν k)))), (0, .ref (b 0)), (1, .int (iI x)), (2, .int (iI ((fFr (nU ν) (ν 25) x (k + 1)).1))), (3, .int (iI (fr2 (fFr (nU ν) (ν 25) x (k + 1)).2)))]) M dX7_last_65 hl (k := 5) rfl (by decide) rfl (fun ls hl => ?_)
            refine q_go (tgt := 7) M dX7_last_68 (by decide) ?_
            exact ih7 (k + 1) (by omega) (by omega) _ _ _ w (lv_sub hl [2, 3, 4, 5, 0] rfl)
          · refine q_aln M dX7_last_43 (lv_at hl 1 rfl) ?_
            refine q_get (v := .ref (b 25)) M w in7 0 25 rfl rfl (by decide) (by decide +kernel) rfl rfl dX7_last_44 ?_
            refine q_il M dX7_last_47 (lv_at hl 5 rfl) ?_
            refine q_iald (f := ν 25) M w 20 0 rfl rfl (by omega) dX7_last_49 ?_
            have q25 := hg k
            refine q_if_le (tgt := 65) M dX7_last_50 (by decide) (by omega) (fun c50 => ?_) (fun c50 => ?_)
            · have ee : fFr (nU ν) (ν 25) x (k + 1) = ((fFr (nU ν) (ν 25) x k)) := (itI_s _ _ hj.1).trans (if_neg (show ¬ (k ≠ x ∧ 0 < ν 25 k ∧ (fFr (nU ν) (ν 25) x k).2 ≤ nU ν k) from fun q => by have q1 := q.1; have q2 := q.2.1; have q3 := q.2.2; omega))
              have hl : lv_has ls 6 [(5, .int (iI (fr2 (nU ν k)))), (0, .ref (b 0)), (1, .int (iI x)), (2, .int (iI ((fFr (nU ν) (ν 25) x (k + 1)).1))), (3, .int (iI (fr2 (fFr (nU ν) (ν 25) x (k + 1)).2))), (4, .int (iI k))] := by rw [ee]; exact hl
              refine q_inc (z := k) (lv' := [(4, .int (iI (k + 1))), (5, .int (iI (fr2 (nU ν k)))), (0, .ref (b 0)), (1, .int (iI x)), (2, .int (iI ((fFr (nU ν) (ν 25) x (k + 1)).1))), (3, .int (iI (fr2 (fFr (nU ν) (ν 25) x (k + 1)).2)))]) M dX7_last_65 hl (k := 5) rfl (by decide) rfl (fun ls hl => ?_)
              refine q_go (tgt := 7) M dX7_last_68 (by decide) ?_
              exact ih7 (k + 1) (by omega) (by omega) _ _ _ w (lv_sub hl [2, 3, 4, 5, 0] rfl)
            · refine q_il M dX7_last_53 (lv_at hl 0 rfl) ?_
              refine q_iln M dX7_last_55 (lv_at hl 4 rfl) ?_
              refine q_icmp_lt (tgt := 65) M dX7_last_56 (by decide) (by omega) (fun c56 => ?_) (fun c56 => ?_)
              · have ee : fFr (nU ν) (ν 25) x (k + 1) = ((fFr (nU ν) (ν 25) x k)) := (itI_s _ _ hj.1).trans (if_neg (show ¬ (k ≠ x ∧ 0 < ν 25 k ∧ (fFr (nU ν) (ν 25) x k).2 ≤ nU ν k) from fun q => by have q1 := q.1; have q2 := q.2.1; have q3 := q.2.2; omega))
                have hl : lv_has ls 6 [(5, .int (iI (fr2 (nU ν k)))), (0, .ref (b 0)), (1, .int (iI x)), (2, .int (iI ((fFr (nU ν) (ν 25) x (k + 1)).1))), (3, .int (iI (fr2 (fFr (nU ν) (ν 25) x (k + 1)).2))), (4, .int (iI k))] := by rw [ee]; exact hl
                refine q_inc (z := k) (lv' := [(4, .int (iI (k + 1))), (5, .int (iI (fr2 (nU ν k)))), (0, .ref (b 0)), (1, .int (iI x)), (2, .int (iI ((fFr (nU ν) (ν 25) x (k + 1)).1))), (3, .int (iI (fr2 (fFr (nU ν) (ν 25) x (k + 1)).2)))]) M dX7_last_65 hl (k := 5) rfl (by decide) rfl (fun ls hl => ?_)
                refine q_go (tgt := 7) M dX7_last_68 (by decide) ?_
                exact ih7 (k + 1) (by omega) (by omega) _ _ _ w (lv_sub hl [2, 3, 4, 5, 0] rfl)
              · refine q_il M dX7_last_59 (lv_at hl 5 rfl) ?_
                refine q_isn (lv' := [(2, .int (iI k)), (5, .int (iI (fr2 (nU ν k)))), (0, .ref (b 0)), (1, .int (iI x)), (3, .int (iI (fr2 (fFr (nU ν) (ν 25) x k).2))), (4, .int (iI k))]) M dX7_last_61 rfl hl (by decide) rfl (fun ls hl => ?_)
                refine q_il M dX7_last_62 (lv_at hl 1 rfl) ?_
                refine q_isn (lv' := [(3, .int (iI (fr2 (nU ν k)))), (2, .int (iI k)), (5, .int (iI (fr2 (nU ν k)))), (0, .ref (b 0)), (1, .int (iI x)), (4, .int (iI k))]) M dX7_last_64 rfl hl (by decide) rfl (fun ls hl => ?_)
                have ee : fFr (nU ν) (ν 25) x (k + 1) = (k, nU ν k) := (itI_s _ _ hj.1).trans (if_pos (show (k ≠ x ∧ 0 < ν 25 k ∧ (fFr (nU ν) (ν 25) x k).2 ≤ nU ν k) from ⟨c40, c50, by omega⟩))
                have hl : lv_has ls 6 [(3, .int (iI (fr2 (fFr (nU ν) (ν 25) x (k + 1)).2))), (2, .int (iI ((fFr (nU ν) (ν 25) x (k + 1)).1))), (5, .int (iI (fr2 (nU ν k)))), (0, .ref (b 0)), (1, .int (iI x)), (4, .int (iI k))] := by rw [ee]; exact hl
                refine q_inc (z := k) (lv' := [(4, .int (iI (k + 1))), (3, .int (iI (fr2 (fFr (nU ν) (ν 25) x (k + 1)).2))), (2, .int (iI ((fFr (nU ν) (ν 25) x (k + 1)).1))), (5, .int (iI (fr2 (nU ν k)))), (0, .ref (b 0)), (1, .int (iI x))]) M dX7_last_65 hl (k := 5) rfl (by decide) rfl (fun ls hl => ?_)
                refine q_go (tgt := 7) M dX7_last_68 (by decide) ?_
                exact ih7 (k + 1) (by omega) (by omega) _ _ _ w (lv_sub hl [4, 5, 2, 1, 0] rfl)
        · refine q_ldc (n := 1073741824) M (by decide +kernel) dX7_last_28 ?_
          refine q_go (tgt := 35) M dX7_last_30 (by decide) ?_
          refine q_is (lv' := [(5, .int (iI 1073741824)), (0, .ref (b 0)), (1, .int (iI x)), (2, .int (iI ((fFr (nU ν) (ν 25) x k).1))), (3, .int (iI (fr2 (fFr (nU ν) (ν 25) x k).2))), (4, .int (iI k))]) M dX7_last_35 hl (by decide) rfl (fun ls hl => ?_)
          have e5 : fr2 (nU ν k) = 1073741824 := by omega
          have hl : lv_has ls 6 [(5, .int (iI (fr2 (nU ν k)))), (0, .ref (b 0)), (1, .int (iI x)), (2, .int (iI ((fFr (nU ν) (ν 25) x k).1))), (3, .int (iI (fr2 (fFr (nU ν) (ν 25) x k).2))), (4, .int (iI k))] := by rw [e5]; exact hl
          refine q_il M dX7_last_37 (lv_at hl 5 rfl) ?_
          refine q_iln M dX7_last_39 (lv_at hl 2 rfl) ?_
          refine q_icmp_eq (tgt := 65) M dX7_last_40 (by decide) (by omega) (fun c40 => ?_) (fun c40 => ?_)
          · have ee : fFr (nU ν) (ν 25) x (k + 1) = ((fFr (nU ν) (ν 25) x k)) := (itI_s _ _ hj.1).trans (if_neg (show ¬ (k ≠ x ∧ 0 < ν 25 k ∧ (fFr (nU ν) (ν 25) x k).2 ≤ nU ν k) from fun q => by have q1 := q.1; have q2 := q.2.1; have q3 := q.2.2; omega))
            have hl : lv_has ls 6 [(5, .int (iI (fr2 (nU ν k)))), (0, .ref (b 0)), (1, .int (iI x)), (2, .int (iI ((fFr (nU ν) (ν 25) x (k + 1)).1))), (3, .int (iI (fr2 (fFr (nU ν) (ν 25) x (k + 1)).2))), (4, .int (iI k))] := by rw [ee]; exact hl
            refine q_inc (z := k) (lv' := [(4, .int (iI (k + 1))), (5, .int (iI (fr2 (nU ν k)))), (0, .ref (b 0)), (1, .int (iI x)), (2, .int (iI ((fFr (nU ν) (ν 25) x (k + 1)).1))), (3, .int (iI (fr2 (fFr (nU ν) (ν 25) x (k + 1)).2)))]) M dX7_last_65 hl (k := 5) rfl (by decide) rfl (fun ls hl => ?_)
            refine q_go (tgt := 7) M dX7_last_68 (by decide) ?_
            exact ih7 (k + 1) (by omega) (by omega) _ _ _ w (lv_sub hl [2, 3, 4, 5, 0] rfl)
          · refine q_aln M dX7_last_43 (lv_at hl 1 rfl) ?_
            refine q_get (v := .ref (b 25)) M w in7 0 25 rfl rfl (by decide) (by decide +kernel) rfl rfl dX7_last_44 ?_
            refine q_il M dX7_last_47 (lv_at hl 5 rfl) ?_
            refine q_iald (f := ν 25) M w 20 0 rfl rfl (by omega) dX7_last_49 ?_
            have q25 := hg k
            refine q_if_le (tgt := 65) M dX7_last_50 (by decide) (by omega) (fun c50 => ?_) (fun c50 => ?_)
            · have ee : fFr (nU ν) (ν 25) x (k + 1) = ((fFr (nU ν) (ν 25) x k)) := (itI_s _ _ hj.1).trans (if_neg (show ¬ (k ≠ x ∧ 0 < ν 25 k ∧ (fFr (nU ν) (ν 25) x k).2 ≤ nU ν k) from fun q => by have q1 := q.1; have q2 := q.2.1; have q3 := q.2.2; omega))
              have hl : lv_has ls 6 [(5, .int (iI (fr2 (nU ν k)))), (0, .ref (b 0)), (1, .int (iI x)), (2, .int (iI ((fFr (nU ν) (ν 25) x (k + 1)).1))), (3, .int (iI (fr2 (fFr (nU ν) (ν 25) x (k + 1)).2))), (4, .int (iI k))] := by rw [ee]; exact hl
              refine q_inc (z := k) (lv' := [(4, .int (iI (k + 1))), (5, .int (iI (fr2 (nU ν k)))), (0, .ref (b 0)), (1, .int (iI x)), (2, .int (iI ((fFr (nU ν) (ν 25) x (k + 1)).1))), (3, .int (iI (fr2 (fFr (nU ν) (ν 25) x (k + 1)).2)))]) M dX7_last_65 hl (k := 5) rfl (by decide) rfl (fun ls hl => ?_)
              refine q_go (tgt := 7) M dX7_last_68 (by decide) ?_
              exact ih7 (k + 1) (by omega) (by omega) _ _ _ w (lv_sub hl [2, 3, 4, 5, 0] rfl)
            · refine q_il M dX7_last_53 (lv_at hl 0 rfl) ?_
              refine q_iln M dX7_last_55 (lv_at hl 4 rfl) ?_
              refine q_icmp_lt (tgt := 65) M dX7_last_56 (by decide) (by omega) (fun c56 => ?_) (fun c56 => ?_)
              · have ee : fFr (nU ν) (ν 25) x (k + 1) = ((fFr (nU ν) (ν 25) x k)) := (itI_s _ _ hj.1).trans (if_neg (show ¬ (k ≠ x ∧ 0 < ν 25 k ∧ (fFr (nU ν) (ν 25) x k).2 ≤ nU ν k) from fun q => by have q1 := q.1; have q2 := q.2.1; have q3 := q.2.2; omega))
                have hl : lv_has ls 6 [(5, .int (iI (fr2 (nU ν k)))), (0, .ref (b 0)), (1, .int (iI x)), (2, .int (iI ((fFr (nU ν) (ν 25) x (k + 1)).1))), (3, .int (iI (fr2 (fFr (nU ν) (ν 25) x (k + 1)).2))), (4, .int (iI k))] := by rw [ee]; exact hl
                refine q_inc (z := k) (lv' := [(4, .int (iI (k + 1))), (5, .int (iI (fr2 (nU ν k)))), (0, .ref (b 0)), (1, .int (iI x)), (2, .int (iI ((fFr (nU ν) (ν 25) x (k + 1)).1))), (3, .int (iI (fr2 (fFr (nU ν) (ν 25) x (k + 1)).2)))]) M dX7_last_65 hl (k := 5) rfl (by decide) rfl (fun ls hl => ?_)
                refine q_go (tgt := 7) M dX7_last_68 (by decide) ?_
                exact ih7 (k + 1) (by omega) (by omega) _ _ _ w (lv_sub hl [2, 3, 4, 5, 0] rfl)
              · refine q_il M dX7_last_59 (lv_at hl 5 rfl) ?_
                refine q_isn (lv' := [(2, .int (iI k)), (5, .int (iI (fr2 (nU ν k)))), (0, .ref (b 0)), (1, .int (iI x)), (3, .int (iI (fr2 (fFr (nU ν) (ν 25) x k).2))), (4, .int (iI k))]) M dX7_last_61 rfl hl (by decide) rfl (fun ls hl => ?_)
                refine q_il M dX7_last_62 (lv_at hl 1 rfl) ?_
                refine q_isn (lv' := [(3, .int (iI (fr2 (nU ν k)))), (2, .int (iI k)), (5, .int (iI (fr2 (nU ν k)))), (0, .ref (b 0)), (1, .int (iI x)), (4, .int (iI k))]) M dX7_last_64 rfl hl (by decide) rfl (fun ls hl => ?_)
                have ee : fFr (nU ν) (ν 25) x (k + 1) = (k, nU ν k) := (itI_s _ _ hj.1).trans (if_pos (show (k ≠ x ∧ 0 < ν 25 k ∧ (fFr (nU ν) (ν 25) x k).2 ≤ nU ν k) from ⟨c40, c50, by omega⟩))
                have hl : lv_has ls 6 [(3, .int (iI (fr2 (fFr (nU ν) (ν 25) x (k + 1)).2))), (2, .int (iI ((fFr (nU ν) (ν 25) x (k + 1)).1))), (5, .int (iI (fr2 (nU ν k)))), (0, .ref (b 0)), (1, .int (iI x)), (4, .int (iI k))] := by rw [ee]; exact hl
                refine q_inc (z := k) (lv' := [(4, .int (iI (k + 1))), (3, .int (iI (fr2 (fFr (nU ν) (ν 25) x (k + 1)).2))), (2, .int (iI ((fFr (nU ν) (ν 25) x (k + 1)).1))), (5, .int (iI (fr2 (nU ν k)))), (0, .ref (b 0)), (1, .int (iI x))]) M dX7_last_65 hl (k := 5) rfl (by decide) rfl (fun ls hl => ?_)
                refine q_go (tgt := 7) M dX7_last_68 (by decide) ?_
                exact ih7 (k + 1) (by omega) (by omega) _ _ _ w (lv_sub hl [4, 5, 2, 1, 0] rfl)
  have e0 : fFr (nU ν) (ν 25) x 0 = (-1, 0) := itI_0 _ _
  have f0 := fr2_c 0
  have hl : lv_has ls 6 [(4, .int (iI 0)), (3, .int (iI (fr2 (fFr (nU ν) (ν 25) x 0).2))), (2, .int (iI ((fFr (nU ν) (ν 25) x 0).1))), (0, .ref (b 0)), (1, .int (iI x))] := by rw [e0]; rw [show fr2 ((-1 : Int), (0 : Int)).2 = 0 by show fr2 0 = 0; omega]; exact hl
  exact lp7 9 0 (by omega) (by omega) _ _ _ w (lv_sub hl [3, 4, 2, 1, 0] rfl)

set_option maxHeartbeats 4000000 in
set_option maxRecDepth 100000 in
/-- takes -/
theorem m_takes (l : Launch) (D : va_G) (cI cZ cJ : ClassId) (b : Nat → Nat) (ν : Nat → Int → Int) (hM : MX ν) (hh : ν 26 0 = -1) : Cv l D (tY cI cZ cJ) yX7_takes wsX7_takes rmX7_takes [.ref (b 0)] (WMod cI cZ b ν) (WMod cI cZ b (mset (mset (mset ν 25 ((tkR ν).1)) 26 (fun _ => (tkR ν).2.2.1)) 27 (fun _ => (tkR ν).2.2.2))) := by
  obtain ⟨hN, hg, hz, hsum⟩ := id hM
  refine qv_of (by decide +kernel) rfl (Nat.le_of_ble_eq_true rfl) ?_
  intro zp ze zs zm zargs zbelow zmeth zc A Q ls M hA w hl kret
  have hl : lv_has ls 5 [(0, .ref (b 0))] := hl
  have in7 : ∀ w ∈ u_ws RX7 TX7 31, w ∈ wsX7_takes := by decide +kernel
  refine q_ic M dX7_takes_0 ?_
  refine q_isn (lv' := [(1, .int (iI (-1))), (0, .ref (b 0))]) M dX7_takes_1 rfl hl (by decide) rfl (fun ls hl => ?_)
  refine q_ldc (n := 1073741824) M (by decide +kernel) dX7_takes_2 ?_
  refine q_isn (lv' := [(2, .int (iI 1073741824)), (1, .int (iI (-1))), (0, .ref (b 0))]) M dX7_takes_4 rfl hl (by decide) rfl (fun ls hl => ?_)
  refine q_ic M dX7_takes_5 ?_
  refine q_isn (lv' := [(3, .int (iI 0)), (2, .int (iI 1073741824)), (1, .int (iI (-1))), (0, .ref (b 0))]) M dX7_takes_6 rfl hl (by decide) rfl (fun ls hl => ?_)
  have lp7 : ∀ (n7 : Nat) (k : Int), (0 ≤ k ∧ k ≤ 8) → (8 - k : Int) < (n7 : Int) → ∀ (H : Heap) (locs : List Loc) (ls : Array Slot), wW D A zs.heap (WMod cI cZ b ν) H locs → lv_has ls 5 [(0, .ref (b 0)), (1, .int (iI ((fNr (nU ν) (ν 1) (ν 25) k).1))), (2, .int (iI (fr2 (fNr (nU ν) (ν 1) (ν 25) k).2))), (3, .int (iI k))] → W zp l ze rmX7_takes zs zm zargs zbelow zmeth zc H locs 0 0 Q (F0 zm 7 ls []) := by
    intro n7
    induction n7 with
    | zero => intro k hj hm H locs ls w hl; exfalso; omega
    | succ n7 ih7 =>
      intro k hj hm7 H locs ls w hl
      have b1 := fNr_bd (nU ν) (ν 1) (ν 25) hj.1
      have b2 := b1.2.2 (fun i => by have := nU_bd hN i; omega)
      refine q_iln M dX7_takes_7 (lv_at hl 3 rfl) ?_
      refine q_bp M dX7_takes_8 (by decide +kernel) ?_
      refine q_icmp_ge (tgt := 62) M dX7_takes_10 (by decide) (by omega) (fun c10 => ?_) (fun c10 => ?_)
      · have hk8 : k = 8 := by omega
        rw [hk8] at hl
        have hl : lv_has ls 5 [(0, .ref (b 0)), (1, .int (iI ((fNr (nU ν) (ν 1) (ν 25) 8).1))), (2, .int (iI (fr2 (fNr (nU ν) (ν 1) (ν 25) 8).2))), (3, .int (iI 8))] := by exact hl
        have un1 := fNr_u (nU ν) (ν 1) (ν 25) (k := 8) (by omega)
        have b1 := fNr_bd (nU ν) (ν 1) (ν 25) (k := 8) (by omega)
        refine q_iln M dX7_takes_62 (lv_at hl 1 rfl) ?_
        refine q_ic M dX7_takes_63 ?_
        refine q_icmp_ne (tgt := 68) M dX7_takes_64 (by decide) (by omega) (fun c64 => ?_) (fun c64 => ?_)
        · refine q_aln M dX7_takes_68 (lv_at hl 0 rfl) ?_
          refine qc_iV (As := []) (rest := []) (wc := WMod cI cZ b ν) (wc2 := WMod cI cZ b ν) (ws2 := WMod cI cZ b ν) M w hA hl (m_pages l D cI cZ cJ b ν  hh) gX7_takes_X7_pages rfl ⟨rfl, rfl, by decide, by decide⟩ ⟨Nat.zero_le _, Nat.zero_le _⟩ 0 ⟨rfl, by decide +kernel⟩ rfl [true, true, true, true, true, true, true, true, true, true, true, true, true, true, true, true, true, true, true, true, true] rfl rfl 0 rfl rfl rfl (Nat.le_of_ble_eq_true rfl) rfl dX7_takes_69 (fun H locs w => ?_)
          have sb := sI_bd (ν 25) (c := 6) hg (i := 8) (by omega)
          refine q_bp M dX7_takes_72 (by decide +kernel) ?_
          refine q_icmp_ne (tgt := 122) M dX7_takes_74 (by decide) (by omega) (fun c74 => ?_) (fun c74 => ?_)
          · refine q_aln M dX7_takes_122 (lv_at hl 0 rfl) ?_
            refine q_iln M dX7_takes_123 (lv_at hl 1 rfl) ?_
            refine q_put (ws2 := WMod cI cZ b (mset ν 26 (fun _ => (fNr (nU ν) (ν 1) (ν 25) 8).1))) M w in7 0 26 tyX7 tyX7_ok nmX7 rfl rfl (by decide) (by decide +kernel) rfl rfl rfl rfl (Nat.le_of_ble_eq_true rfl) rfl dX7_takes_124 (fun H locs w => ?_)
            refine q_aln M dX7_takes_127 (lv_at hl 0 rfl) ?_
            refine q_ic M dX7_takes_128 ?_
            refine q_put (ws2 := WMod cI cZ b (mset (mset ν 26 (fun _ => (fNr (nU ν) (ν 1) (ν 25) 8).1)) 27 (fun _ => 0))) M w in7 0 27 tyX7 tyX7_ok nmX7 rfl rfl (by decide) (by decide +kernel) rfl rfl rfl rfl (Nat.le_of_ble_eq_true rfl) rfl dX7_takes_129 (fun H locs w => ?_)
            have e : tkR ν = (ν 25, sI (ν 25) 8, (fNr (nU ν) (ν 1) (ν 25) 8).1, 0) := (if_neg (show ¬ (fNr (nU ν) (ν 1) (ν 25) 8).1 = -1 by omega)).trans (if_pos (show sI (ν 25) 8 < 12 by omega))
            have w : wW D A zs.heap (WMod cI cZ b (mset (mset (mset ν 25 ((tkR ν).1)) 26 (fun _ => (tkR ν).2.2.1)) 27 (fun _ => (tkR ν).2.2.2))) H locs := by rw [e]; exact w
            exact kret _ _ _ _ dX7_takes_132 w
          · refine q_aln M dX7_takes_77 (lv_at hl 0 rfl) ?_
            refine q_iln M dX7_takes_78 (lv_at hl 1 rfl) ?_
            refine qc_iV (As := [.int (iI ((fNr (nU ν) (ν 1) (ν 25) 8).1))]) (rest := []) (wc := WMod cI cZ b ν) (wc2 := WMod cI cZ b ν) (ws2 := WMod cI cZ b ν) M w hA hl (m_last l D cI cZ cJ b ν ((fNr (nU ν) (ν 1) (ν 25) 8).1) (by omega) hM) gX7_takes_X7_last rfl ⟨rfl, rfl, by decide, by decide⟩ ⟨Nat.zero_le _, Nat.zero_le _⟩ 1 ⟨rfl, by decide +kernel⟩ rfl [true, true, true, true, true, true, true, true, true, true, true, true, true, true, true, true, true, true, true, true, true] rfl rfl 0 rfl rfl rfl (Nat.le_of_ble_eq_true rfl) rfl dX7_takes_79 (fun H locs w => ?_)
            have bF := fFr_bd (nU ν) (ν 25) (fNr (nU ν) (ν 1) (ν 25) 8).1 (k := 8) (by omega)
            have unA := nU_c hN (fFr (nU ν) (ν 25) (fNr (nU ν) (ν 1) (ν 25) 8).1 8).1
            have unB := nU_c hN (fNr (nU ν) (ν 1) (ν 25) 8).1
            have f3 := fr2_c (fNr (nU ν) (ν 1) (ν 25) 8).2
            have unD := nU_bd hN (fFr (nU ν) (ν 25) (fNr (nU ν) (ν 1) (ν 25) 8).1 8).1
            have q25 := hg (fFr (nU ν) (ν 25) (fNr (nU ν) (ν 1) (ν 25) 8).1 8).1
            refine q_isn (lv' := [(3, .int (iI ((fFr (nU ν) (ν 25) ((fNr (nU ν) (ν 1) (ν 25) 8).1) 8).1))), (0, .ref (b 0)), (1, .int (iI ((fNr (nU ν) (ν 1) (ν 25) 8).1))), (2, .int (iI (fr2 (fNr (nU ν) (ν 1) (ν 25) 8).2)))]) M dX7_takes_82 rfl hl (by decide) rfl (fun ls hl => ?_)
            refine q_iln M dX7_takes_83 (lv_at hl 0 rfl) ?_
            refine q_ic M dX7_takes_84 ?_
            refine q_icmp_ne (tgt := 92) M dX7_takes_85 (by decide) (by omega) (fun c85 => ?_) (fun c85 => ?_)
            · refine q_aln M dX7_takes_92 (lv_at hl 1 rfl) ?_
              refine q_iln M dX7_takes_93 (lv_at hl 0 rfl) ?_
              refine qc_iV (As := [.int (iI ((fFr (nU ν) (ν 25) ((fNr (nU ν) (ν 1) (ν 25) 8).1) 8).1))]) (rest := []) (wc := WMod cI cZ b ν) (wc2 := WMod cI cZ b ν) (ws2 := WMod cI cZ b ν) M w hA hl (m_next l D cI cZ cJ b ν ((fFr (nU ν) (ν 25) ((fNr (nU ν) (ν 1) (ν 25) 8).1) 8).1) (by omega) hN) gX7_takes_X7_next rfl ⟨rfl, rfl, by decide, by decide⟩ ⟨Nat.zero_le _, Nat.zero_le _⟩ 1 ⟨rfl, by decide +kernel⟩ rfl [true, true, true, true, true, true, true, true, true, true, true, true, true, true, true, true, true, true, true, true, true] rfl rfl 0 rfl rfl rfl (Nat.le_of_ble_eq_true rfl) rfl dX7_takes_94 (fun H locs w => ?_)
              refine q_is (lv' := [(4, .int (iI (nF ν ((fFr (nU ν) (ν 25) ((fNr (nU ν) (ν 1) (ν 25) 8).1) 8).1)))), (3, .int (iI ((fFr (nU ν) (ν 25) ((fNr (nU ν) (ν 1) (ν 25) 8).1) 8).1))), (0, .ref (b 0)), (1, .int (iI ((fNr (nU ν) (ν 1) (ν 25) 8).1))), (2, .int (iI (fr2 (fNr (nU ν) (ν 1) (ν 25) 8).2)))]) M dX7_takes_97 hl (by decide) rfl (fun ls hl => ?_)
              refine q_il M dX7_takes_99 (lv_at hl 0 rfl) ?_
              refine q_ic M dX7_takes_101 ?_
              refine q_icmp_eq (tgt := 112) M dX7_takes_102 (by decide) (by omega) (fun c102 => ?_) (fun c102 => ?_)
              · refine q_aln M dX7_takes_112 (lv_at hl 2 rfl) ?_
                refine q_get (v := .ref (b 25)) M w in7 0 25 rfl rfl (by decide) (by decide +kernel) rfl rfl dX7_takes_113 ?_
                refine q_iln M dX7_takes_116 (lv_at hl 1 rfl) ?_
                refine q_dup2 M dX7_takes_117 rfl rfl ?_
                refine q_iald (f := ν 25) M w 20 0 rfl rfl (by omega) dX7_takes_118 ?_
                have qz := hg (fFr (nU ν) (ν 25) (fNr (nU ν) (ν 1) (ν 25) 8).1 8).1
                refine q_ic M dX7_takes_119 ?_
                refine q_sub M dX7_takes_120 ?_
                refine q_top (y := ν 25 (fFr (nU ν) (ν 25) (fNr (nU ν) (ν 1) (ν 25) 8).1 8).1 + -1) (by omega) ?_
                refine q_iast (f := ν 25) (ws2 := WMod cI cZ b (mset ν 25 (iU (ν 25) ((fFr (nU ν) (ν 25) ((fNr (nU ν) (ν 1) (ν 25) 8).1) 8).1) (ν 25 (fFr (nU ν) (ν 25) (fNr (nU ν) (ν 1) (ν 25) 8).1 8).1 + -1)))) M w 20 0 rfl rfl (by omega) rfl dX7_takes_121 (fun H locs w => ?_)
                refine q_aln M dX7_takes_122 (lv_at hl 2 rfl) ?_
                refine q_iln M dX7_takes_123 (lv_at hl 3 rfl) ?_
                refine q_put (ws2 := WMod cI cZ b (mset (mset ν 25 (iU (ν 25) ((fFr (nU ν) (ν 25) ((fNr (nU ν) (ν 1) (ν 25) 8).1) 8).1) (ν 25 (fFr (nU ν) (ν 25) (fNr (nU ν) (ν 1) (ν 25) 8).1 8).1 + -1))) 26 (fun _ => (fNr (nU ν) (ν 1) (ν 25) 8).1))) M w in7 0 26 tyX7 tyX7_ok nmX7 rfl rfl (by decide) (by decide +kernel) rfl rfl rfl rfl (Nat.le_of_ble_eq_true rfl) rfl dX7_takes_124 (fun H locs w => ?_)
                refine q_aln M dX7_takes_127 (lv_at hl 2 rfl) ?_
                refine q_ic M dX7_takes_128 ?_
                refine q_put (ws2 := WMod cI cZ b (mset (mset (mset ν 25 (iU (ν 25) ((fFr (nU ν) (ν 25) ((fNr (nU ν) (ν 1) (ν 25) 8).1) 8).1) (ν 25 (fFr (nU ν) (ν 25) (fNr (nU ν) (ν 1) (ν 25) 8).1 8).1 + -1))) 26 (fun _ => (fNr (nU ν) (ν 1) (ν 25) 8).1)) 27 (fun _ => 0))) M w in7 0 27 tyX7 tyX7_ok nmX7 rfl rfl (by decide) (by decide +kernel) rfl rfl rfl rfl (Nat.le_of_ble_eq_true rfl) rfl dX7_takes_129 (fun H locs w => ?_)
                have e : tkR ν = (iU (ν 25) (fFr (nU ν) (ν 25) (fNr (nU ν) (ν 1) (ν 25) 8).1 8).1 (ν 25 (fFr (nU ν) (ν 25) (fNr (nU ν) (ν 1) (ν 25) 8).1 8).1 + -1), sI (ν 25) 8 + -1, (fNr (nU ν) (ν 1) (ν 25) 8).1, 0) := (if_neg (show ¬ (fNr (nU ν) (ν 1) (ν 25) 8).1 = -1 by omega)).trans ((if_neg (show ¬ sI (ν 25) 8 < 12 by omega)).trans (if_neg (show ¬ ((fFr (nU ν) (ν 25) (fNr (nU ν) (ν 1) (ν 25) 8).1 8).1 = -1 ∨ nU ν (fFr (nU ν) (ν 25) (fNr (nU ν) (ν 1) (ν 25) 8).1 8).1 ≤ nU ν (fNr (nU ν) (ν 1) (ν 25) 8).1) by omega)))
                have w : wW D A zs.heap (WMod cI cZ b (mset (mset (mset ν 25 ((tkR ν).1)) 26 (fun _ => (tkR ν).2.2.1)) 27 (fun _ => (tkR ν).2.2.2))) H locs := by rw [e]; exact w
                exact kret _ _ _ _ dX7_takes_132 w
              · refine q_il M dX7_takes_105 (lv_at hl 0 rfl) ?_
                refine q_iln M dX7_takes_107 (lv_at hl 4 rfl) ?_
                refine q_icmp_gt (tgt := 112) M dX7_takes_108 (by decide) (by omega) (fun c108 => ?_) (fun c108 => ?_)
                · refine q_aln M dX7_takes_112 (lv_at hl 2 rfl) ?_
                  refine q_get (v := .ref (b 25)) M w in7 0 25 rfl rfl (by decide) (by decide +kernel) rfl rfl dX7_takes_113 ?_
                  refine q_iln M dX7_takes_116 (lv_at hl 1 rfl) ?_
                  refine q_dup2 M dX7_takes_117 rfl rfl ?_
                  refine q_iald (f := ν 25) M w 20 0 rfl rfl (by omega) dX7_takes_118 ?_
                  have qz := hg (fFr (nU ν) (ν 25) (fNr (nU ν) (ν 1) (ν 25) 8).1 8).1
                  refine q_ic M dX7_takes_119 ?_
                  refine q_sub M dX7_takes_120 ?_
                  refine q_top (y := ν 25 (fFr (nU ν) (ν 25) (fNr (nU ν) (ν 1) (ν 25) 8).1 8).1 + -1) (by omega) ?_
                  refine q_iast (f := ν 25) (ws2 := WMod cI cZ b (mset ν 25 (iU (ν 25) ((fFr (nU ν) (ν 25) ((fNr (nU ν) (ν 1) (ν 25) 8).1) 8).1) (ν 25 (fFr (nU ν) (ν 25) (fNr (nU ν) (ν 1) (ν 25) 8).1 8).1 + -1)))) M w 20 0 rfl rfl (by omega) rfl dX7_takes_121 (fun H locs w => ?_)
                  refine q_aln M dX7_takes_122 (lv_at hl 2 rfl) ?_
                  refine q_iln M dX7_takes_123 (lv_at hl 3 rfl) ?_
                  refine q_put (ws2 := WMod cI cZ b (mset (mset ν 25 (iU (ν 25) ((fFr (nU ν) (ν 25) ((fNr (nU ν) (ν 1) (ν 25) 8).1) 8).1) (ν 25 (fFr (nU ν) (ν 25) (fNr (nU ν) (ν 1) (ν 25) 8).1 8).1 + -1))) 26 (fun _ => (fNr (nU ν) (ν 1) (ν 25) 8).1))) M w in7 0 26 tyX7 tyX7_ok nmX7 rfl rfl (by decide) (by decide +kernel) rfl rfl rfl rfl (Nat.le_of_ble_eq_true rfl) rfl dX7_takes_124 (fun H locs w => ?_)
                  refine q_aln M dX7_takes_127 (lv_at hl 2 rfl) ?_
                  refine q_ic M dX7_takes_128 ?_
                  refine q_put (ws2 := WMod cI cZ b (mset (mset (mset ν 25 (iU (ν 25) ((fFr (nU ν) (ν 25) ((fNr (nU ν) (ν 1) (ν 25) 8).1) 8).1) (ν 25 (fFr (nU ν) (ν 25) (fNr (nU ν) (ν 1) (ν 25) 8).1 8).1 + -1))) 26 (fun _ => (fNr (nU ν) (ν 1) (ν 25) 8).1)) 27 (fun _ => 0))) M w in7 0 27 tyX7 tyX7_ok nmX7 rfl rfl (by decide) (by decide +kernel) rfl rfl rfl rfl (Nat.le_of_ble_eq_true rfl) rfl dX7_takes_129 (fun H locs w => ?_)
                  have e : tkR ν = (iU (ν 25) (fFr (nU ν) (ν 25) (fNr (nU ν) (ν 1) (ν 25) 8).1 8).1 (ν 25 (fFr (nU ν) (ν 25) (fNr (nU ν) (ν 1) (ν 25) 8).1 8).1 + -1), sI (ν 25) 8 + -1, (fNr (nU ν) (ν 1) (ν 25) 8).1, 0) := (if_neg (show ¬ (fNr (nU ν) (ν 1) (ν 25) 8).1 = -1 by omega)).trans ((if_neg (show ¬ sI (ν 25) 8 < 12 by omega)).trans (if_neg (show ¬ ((fFr (nU ν) (ν 25) (fNr (nU ν) (ν 1) (ν 25) 8).1 8).1 = -1 ∨ nU ν (fFr (nU ν) (ν 25) (fNr (nU ν) (ν 1) (ν 25) 8).1 8).1 ≤ nU ν (fNr (nU ν) (ν 1) (ν 25) 8).1) by omega)))
                  have w : wW D A zs.heap (WMod cI cZ b (mset (mset (mset ν 25 ((tkR ν).1)) 26 (fun _ => (tkR ν).2.2.1)) 27 (fun _ => (tkR ν).2.2.2))) H locs := by rw [e]; exact w
                  exact kret _ _ _ _ dX7_takes_132 w
                · have e : tkR ν = (ν 25, sI (ν 25) 8, ν 26 0, ν 27 0) := (if_neg (show ¬ (fNr (nU ν) (ν 1) (ν 25) 8).1 = -1 by omega)).trans ((if_neg (show ¬ sI (ν 25) 8 < 12 by omega)).trans (if_pos (show (fFr (nU ν) (ν 25) (fNr (nU ν) (ν 1) (ν 25) 8).1 8).1 = -1 ∨ nU ν (fFr (nU ν) (ν 25) (fNr (nU ν) (ν 1) (ν 25) 8).1 8).1 ≤ nU ν (fNr (nU ν) (ν 1) (ν 25) 8).1 by omega)))
                  have w : wW D A zs.heap (WMod cI cZ b (mset (mset (mset ν 25 ((tkR ν).1)) 26 (fun _ => (tkR ν).2.2.1)) 27 (fun _ => (tkR ν).2.2.2))) H locs := by rw [e]; exact w
                  exact kret _ _ _ _ dX7_takes_111 w
            · refine q_ic M dX7_takes_88 ?_
              refine q_go (tgt := 97) M dX7_takes_89 (by decide) ?_
              refine q_is (lv' := [(4, .int (iI 0)), (3, .int (iI ((fFr (nU ν) (ν 25) ((fNr (nU ν) (ν 1) (ν 25) 8).1) 8).1))), (0, .ref (b 0)), (1, .int (iI ((fNr (nU ν) (ν 1) (ν 25) 8).1))), (2, .int (iI (fr2 (fNr (nU ν) (ν 1) (ν 25) 8).2)))]) M dX7_takes_97 hl (by decide) rfl (fun ls hl => ?_)
              refine q_il M dX7_takes_99 (lv_at hl 0 rfl) ?_
              refine q_ic M dX7_takes_101 ?_
              refine q_icmp_eq (tgt := 112) M dX7_takes_102 (by decide) (by omega) (fun c102 => ?_) (fun c102 => ?_)
              · refine q_aln M dX7_takes_112 (lv_at hl 2 rfl) ?_
                refine q_get (v := .ref (b 25)) M w in7 0 25 rfl rfl (by decide) (by decide +kernel) rfl rfl dX7_takes_113 ?_
                refine q_iln M dX7_takes_116 (lv_at hl 1 rfl) ?_
                refine q_dup2 M dX7_takes_117 rfl rfl ?_
                refine q_iald (f := ν 25) M w 20 0 rfl rfl (by omega) dX7_takes_118 ?_
                have qz := hg (fFr (nU ν) (ν 25) (fNr (nU ν) (ν 1) (ν 25) 8).1 8).1
                refine q_ic M dX7_takes_119 ?_
                refine q_sub M dX7_takes_120 ?_
                refine q_top (y := ν 25 (fFr (nU ν) (ν 25) (fNr (nU ν) (ν 1) (ν 25) 8).1 8).1 + -1) (by omega) ?_
                refine q_iast (f := ν 25) (ws2 := WMod cI cZ b (mset ν 25 (iU (ν 25) ((fFr (nU ν) (ν 25) ((fNr (nU ν) (ν 1) (ν 25) 8).1) 8).1) (ν 25 (fFr (nU ν) (ν 25) (fNr (nU ν) (ν 1) (ν 25) 8).1 8).1 + -1)))) M w 20 0 rfl rfl (by omega) rfl dX7_takes_121 (fun H locs w => ?_)
                refine q_aln M dX7_takes_122 (lv_at hl 2 rfl) ?_
                refine q_iln M dX7_takes_123 (lv_at hl 3 rfl) ?_
                refine q_put (ws2 := WMod cI cZ b (mset (mset ν 25 (iU (ν 25) ((fFr (nU ν) (ν 25) ((fNr (nU ν) (ν 1) (ν 25) 8).1) 8).1) (ν 25 (fFr (nU ν) (ν 25) (fNr (nU ν) (ν 1) (ν 25) 8).1 8).1 + -1))) 26 (fun _ => (fNr (nU ν) (ν 1) (ν 25) 8).1))) M w in7 0 26 tyX7 tyX7_ok nmX7 rfl rfl (by decide) (by decide +kernel) rfl rfl rfl rfl (Nat.le_of_ble_eq_true rfl) rfl dX7_takes_124 (fun H locs w => ?_)
                refine q_aln M dX7_takes_127 (lv_at hl 2 rfl) ?_
                refine q_ic M dX7_takes_128 ?_
                refine q_put (ws2 := WMod cI cZ b (mset (mset (mset ν 25 (iU (ν 25) ((fFr (nU ν) (ν 25) ((fNr (nU ν) (ν 1) (ν 25) 8).1) 8).1) (ν 25 (fFr (nU ν) (ν 25) (fNr (nU ν) (ν 1) (ν 25) 8).1 8).1 + -1))) 26 (fun _ => (fNr (nU ν) (ν 1) (ν 25) 8).1)) 27 (fun _ => 0))) M w in7 0 27 tyX7 tyX7_ok nmX7 rfl rfl (by decide) (by decide +kernel) rfl rfl rfl rfl (Nat.le_of_ble_eq_true rfl) rfl dX7_takes_129 (fun H locs w => ?_)
                have e : tkR ν = (iU (ν 25) (fFr (nU ν) (ν 25) (fNr (nU ν) (ν 1) (ν 25) 8).1 8).1 (ν 25 (fFr (nU ν) (ν 25) (fNr (nU ν) (ν 1) (ν 25) 8).1 8).1 + -1), sI (ν 25) 8 + -1, (fNr (nU ν) (ν 1) (ν 25) 8).1, 0) := (if_neg (show ¬ (fNr (nU ν) (ν 1) (ν 25) 8).1 = -1 by omega)).trans ((if_neg (show ¬ sI (ν 25) 8 < 12 by omega)).trans (if_neg (show ¬ ((fFr (nU ν) (ν 25) (fNr (nU ν) (ν 1) (ν 25) 8).1 8).1 = -1 ∨ nU ν (fFr (nU ν) (ν 25) (fNr (nU ν) (ν 1) (ν 25) 8).1 8).1 ≤ nU ν (fNr (nU ν) (ν 1) (ν 25) 8).1) by omega)))
                have w : wW D A zs.heap (WMod cI cZ b (mset (mset (mset ν 25 ((tkR ν).1)) 26 (fun _ => (tkR ν).2.2.1)) 27 (fun _ => (tkR ν).2.2.2))) H locs := by rw [e]; exact w
                exact kret _ _ _ _ dX7_takes_132 w
              · refine q_il M dX7_takes_105 (lv_at hl 0 rfl) ?_
                refine q_iln M dX7_takes_107 (lv_at hl 4 rfl) ?_
                refine q_icmp_gt (tgt := 112) M dX7_takes_108 (by decide) (by omega) (fun c108 => ?_) (fun c108 => ?_)
                · refine q_aln M dX7_takes_112 (lv_at hl 2 rfl) ?_
                  refine q_get (v := .ref (b 25)) M w in7 0 25 rfl rfl (by decide) (by decide +kernel) rfl rfl dX7_takes_113 ?_
                  refine q_iln M dX7_takes_116 (lv_at hl 1 rfl) ?_
                  refine q_dup2 M dX7_takes_117 rfl rfl ?_
                  refine q_iald (f := ν 25) M w 20 0 rfl rfl (by omega) dX7_takes_118 ?_
                  have qz := hg (fFr (nU ν) (ν 25) (fNr (nU ν) (ν 1) (ν 25) 8).1 8).1
                  refine q_ic M dX7_takes_119 ?_
                  refine q_sub M dX7_takes_120 ?_
                  refine q_top (y := ν 25 (fFr (nU ν) (ν 25) (fNr (nU ν) (ν 1) (ν 25) 8).1 8).1 + -1) (by omega) ?_
                  refine q_iast (f := ν 25) (ws2 := WMod cI cZ b (mset ν 25 (iU (ν 25) ((fFr (nU ν) (ν 25) ((fNr (nU ν) (ν 1) (ν 25) 8).1) 8).1) (ν 25 (fFr (nU ν) (ν 25) (fNr (nU ν) (ν 1) (ν 25) 8).1 8).1 + -1)))) M w 20 0 rfl rfl (by omega) rfl dX7_takes_121 (fun H locs w => ?_)
                  refine q_aln M dX7_takes_122 (lv_at hl 2 rfl) ?_
                  refine q_iln M dX7_takes_123 (lv_at hl 3 rfl) ?_
                  refine q_put (ws2 := WMod cI cZ b (mset (mset ν 25 (iU (ν 25) ((fFr (nU ν) (ν 25) ((fNr (nU ν) (ν 1) (ν 25) 8).1) 8).1) (ν 25 (fFr (nU ν) (ν 25) (fNr (nU ν) (ν 1) (ν 25) 8).1 8).1 + -1))) 26 (fun _ => (fNr (nU ν) (ν 1) (ν 25) 8).1))) M w in7 0 26 tyX7 tyX7_ok nmX7 rfl rfl (by decide) (by decide +kernel) rfl rfl rfl rfl (Nat.le_of_ble_eq_true rfl) rfl dX7_takes_124 (fun H locs w => ?_)
                  refine q_aln M dX7_takes_127 (lv_at hl 2 rfl) ?_
                  refine q_ic M dX7_takes_128 ?_
                  refine q_put (ws2 := WMod cI cZ b (mset (mset (mset ν 25 (iU (ν 25) ((fFr (nU ν) (ν 25) ((fNr (nU ν) (ν 1) (ν 25) 8).1) 8).1) (ν 25 (fFr (nU ν) (ν 25) (fNr (nU ν) (ν 1) (ν 25) 8).1 8).1 + -1))) 26 (fun _ => (fNr (nU ν) (ν 1) (ν 25) 8).1)) 27 (fun _ => 0))) M w in7 0 27 tyX7 tyX7_ok nmX7 rfl rfl (by decide) (by decide +kernel) rfl rfl rfl rfl (Nat.le_of_ble_eq_true rfl) rfl dX7_takes_129 (fun H locs w => ?_)
                  have e : tkR ν = (iU (ν 25) (fFr (nU ν) (ν 25) (fNr (nU ν) (ν 1) (ν 25) 8).1 8).1 (ν 25 (fFr (nU ν) (ν 25) (fNr (nU ν) (ν 1) (ν 25) 8).1 8).1 + -1), sI (ν 25) 8 + -1, (fNr (nU ν) (ν 1) (ν 25) 8).1, 0) := (if_neg (show ¬ (fNr (nU ν) (ν 1) (ν 25) 8).1 = -1 by omega)).trans ((if_neg (show ¬ sI (ν 25) 8 < 12 by omega)).trans (if_neg (show ¬ ((fFr (nU ν) (ν 25) (fNr (nU ν) (ν 1) (ν 25) 8).1 8).1 = -1 ∨ nU ν (fFr (nU ν) (ν 25) (fNr (nU ν) (ν 1) (ν 25) 8).1 8).1 ≤ nU ν (fNr (nU ν) (ν 1) (ν 25) 8).1) by omega)))
                  have w : wW D A zs.heap (WMod cI cZ b (mset (mset (mset ν 25 ((tkR ν).1)) 26 (fun _ => (tkR ν).2.2.1)) 27 (fun _ => (tkR ν).2.2.2))) H locs := by rw [e]; exact w
                  exact kret _ _ _ _ dX7_takes_132 w
                · have e : tkR ν = (ν 25, sI (ν 25) 8, ν 26 0, ν 27 0) := (if_neg (show ¬ (fNr (nU ν) (ν 1) (ν 25) 8).1 = -1 by omega)).trans ((if_neg (show ¬ sI (ν 25) 8 < 12 by omega)).trans (if_pos (show (fFr (nU ν) (ν 25) (fNr (nU ν) (ν 1) (ν 25) 8).1 8).1 = -1 ∨ nU ν (fFr (nU ν) (ν 25) (fNr (nU ν) (ν 1) (ν 25) 8).1 8).1 ≤ nU ν (fNr (nU ν) (ν 1) (ν 25) 8).1 by omega)))
                  have w : wW D A zs.heap (WMod cI cZ b (mset (mset (mset ν 25 ((tkR ν).1)) 26 (fun _ => (tkR ν).2.2.1)) 27 (fun _ => (tkR ν).2.2.2))) H locs := by rw [e]; exact w
                  exact kret _ _ _ _ dX7_takes_111 w
        · have e : tkR ν = (ν 25, sI (ν 25) 8, ν 26 0, ν 27 0) := if_pos (show (fNr (nU ν) (ν 1) (ν 25) 8).1 = -1 by omega)
          have w : wW D A zs.heap (WMod cI cZ b (mset (mset (mset ν 25 ((tkR ν).1)) 26 (fun _ => (tkR ν).2.2.1)) 27 (fun _ => (tkR ν).2.2.2))) H locs := by rw [e]; exact w
          exact kret _ _ _ _ dX7_takes_67 w
      · refine q_aln M dX7_takes_13 (lv_at hl 0 rfl) ?_
        refine q_get (v := .ref (b 25)) M w in7 0 25 rfl rfl (by decide) (by decide +kernel) rfl rfl dX7_takes_14 ?_
        refine q_iln M dX7_takes_17 (lv_at hl 3 rfl) ?_
        refine q_iald (f := ν 25) M w 20 0 rfl rfl (by omega) dX7_takes_18 ?_
        refine q_aln M dX7_takes_19 (lv_at hl 0 rfl) ?_
        refine q_get (v := .ref (b 1)) M w in7 0 1 rfl rfl (by decide) (by decide +kernel) rfl rfl dX7_takes_20 ?_
        refine q_iln M dX7_takes_23 (lv_at hl 3 rfl) ?_
        refine q_iald (f := ν 1) M w 1 0 rfl rfl (by omega) dX7_takes_24 ?_
        have q25 := hg k
        have q1 := hz k
        refine q_icmp_ge (tgt := 36) M dX7_takes_25 (by decide) (by omega) (fun c25 => ?_) (fun c25 => ?_)
        · have un := nU_c hN k
          have f1 := fr2_c (nU ν k)
          have f2 := fr2_c (fNr (nU ν) (ν 1) (ν 25) k).2
          refine q_ic M dX7_takes_36 ?_
          refine q_is (lv' := [(4, .int (iI (-1))), (0, .ref (b 0)), (1, .int (iI ((fNr (nU ν) (ν 1) (ν 25) k).1))), (2, .int (iI (fr2 (fNr (nU ν) (ν 1) (ν 25) k).2))), (3, .int (iI k))]) M dX7_takes_37 hl (by decide) rfl (fun ls hl => ?_)
          refine q_il M dX7_takes_39 (lv_at hl 0 rfl) ?_
          refine q_ic M dX7_takes_41 ?_
          refine q_icmp_eq (tgt := 56) M dX7_takes_42 (by decide) (by omega) (fun c42 => ?_) (fun c42 => ?_)
          · have ee : fNr (nU ν) (ν 1) (ν 25) (k + 1) = ((fNr (nU ν) (ν 1) (ν 25) k)) := (itI_s _ _ hj.1).trans (if_neg (show ¬ (nU ν k < (fNr (nU ν) (ν 1) (ν 25) k).2 ∧ ν 25 k < ν 1 k) from fun q => by have q1 := q.1; have q2 := q.2; omega))
            have hl : lv_has ls 5 [(4, .int (iI (-1))), (0, .ref (b 0)), (1, .int (iI ((fNr (nU ν) (ν 1) (ν 25) (k + 1)).1))), (2, .int (iI (fr2 (fNr (nU ν) (ν 1) (ν 25) (k + 1)).2))), (3, .int (iI k))] := by rw [ee]; exact hl
            refine q_inc (z := k) (lv' := [(3, .int (iI (k + 1))), (4, .int (iI (-1))), (0, .ref (b 0)), (1, .int (iI ((fNr (nU ν) (ν 1) (ν 25) (k + 1)).1))), (2, .int (iI (fr2 (fNr (nU ν) (ν 1) (ν 25) (k + 1)).2)))]) M dX7_takes_56 hl (k := 4) rfl (by decide) rfl (fun ls hl => ?_)
            refine q_go (tgt := 7) M dX7_takes_59 (by decide) ?_
            exact ih7 (k + 1) (by omega) (by omega) _ _ _ w (lv_sub hl [2, 3, 4, 0] rfl)
          · refine q_il M dX7_takes_45 (lv_at hl 0 rfl) ?_
            refine q_iln M dX7_takes_47 (lv_at hl 3 rfl) ?_
            refine q_icmp_ge (tgt := 56) M dX7_takes_48 (by decide) (by omega) (fun c48 => ?_) (fun c48 => ?_)
            · have ee : fNr (nU ν) (ν 1) (ν 25) (k + 1) = ((fNr (nU ν) (ν 1) (ν 25) k)) := (itI_s _ _ hj.1).trans (if_neg (show ¬ (nU ν k < (fNr (nU ν) (ν 1) (ν 25) k).2 ∧ ν 25 k < ν 1 k) from fun q => by have q1 := q.1; have q2 := q.2; omega))
              have hl : lv_has ls 5 [(4, .int (iI (-1))), (0, .ref (b 0)), (1, .int (iI ((fNr (nU ν) (ν 1) (ν 25) (k + 1)).1))), (2, .int (iI (fr2 (fNr (nU ν) (ν 1) (ν 25) (k + 1)).2))), (3, .int (iI k))] := by rw [ee]; exact hl
              refine q_inc (z := k) (lv' := [(3, .int (iI (k + 1))), (4, .int (iI (-1))), (0, .ref (b 0)), (1, .int (iI ((fNr (nU ν) (ν 1) (ν 25) (k + 1)).1))), (2, .int (iI (fr2 (fNr (nU ν) (ν 1) (ν 25) (k + 1)).2)))]) M dX7_takes_56 hl (k := 4) rfl (by decide) rfl (fun ls hl => ?_)
              refine q_go (tgt := 7) M dX7_takes_59 (by decide) ?_
              exact ih7 (k + 1) (by omega) (by omega) _ _ _ w (lv_sub hl [2, 3, 4, 0] rfl)
            · refine q_iln M dX7_takes_51 (lv_at hl 4 rfl) ?_
              refine q_isn (lv' := [(1, .int (iI k)), (4, .int (iI (-1))), (0, .ref (b 0)), (2, .int (iI (fr2 (fNr (nU ν) (ν 1) (ν 25) k).2))), (3, .int (iI k))]) M dX7_takes_52 rfl hl (by decide) rfl (fun ls hl => ?_)
              refine q_il M dX7_takes_53 (lv_at hl 1 rfl) ?_
              refine q_isn (lv' := [(2, .int (iI (-1))), (1, .int (iI k)), (4, .int (iI (-1))), (0, .ref (b 0)), (3, .int (iI k))]) M dX7_takes_55 rfl hl (by decide) rfl (fun ls hl => ?_)
              have ee : fNr (nU ν) (ν 1) (ν 25) (k + 1) = (k, nU ν k) := (itI_s _ _ hj.1).trans (if_pos (show (nU ν k < (fNr (nU ν) (ν 1) (ν 25) k).2 ∧ ν 25 k < ν 1 k) from ⟨by omega, by omega⟩))
              have e2 : fr2 (nU ν k) = (-1) := by omega
              have hl : lv_has ls 5 [(2, .int (iI (fr2 (fNr (nU ν) (ν 1) (ν 25) (k + 1)).2))), (1, .int (iI ((fNr (nU ν) (ν 1) (ν 25) (k + 1)).1))), (4, .int (iI (-1))), (0, .ref (b 0)), (3, .int (iI k))] := by rw [ee]; show lv_has ls 5 _; rw [show fr2 (k, nU ν k).2 = (-1) from e2]; exact hl
              refine q_inc (z := k) (lv' := [(3, .int (iI (k + 1))), (2, .int (iI (fr2 (fNr (nU ν) (ν 1) (ν 25) (k + 1)).2))), (1, .int (iI ((fNr (nU ν) (ν 1) (ν 25) (k + 1)).1))), (4, .int (iI (-1))), (0, .ref (b 0))]) M dX7_takes_56 hl (k := 4) rfl (by decide) rfl (fun ls hl => ?_)
              refine q_go (tgt := 7) M dX7_takes_59 (by decide) ?_
              exact ih7 (k + 1) (by omega) (by omega) _ _ _ w (lv_sub hl [4, 2, 1, 0] rfl)
        · have un := nU_c hN k
          have f1 := fr2_c (nU ν k)
          have f2 := fr2_c (fNr (nU ν) (ν 1) (ν 25) k).2
          refine q_aln M dX7_takes_28 (lv_at hl 0 rfl) ?_
          refine q_iln M dX7_takes_29 (lv_at hl 3 rfl) ?_
          refine qc_iV (As := [.int (iI k)]) (rest := []) (wc := WMod cI cZ b ν) (wc2 := WMod cI cZ b ν) (ws2 := WMod cI cZ b ν) M w hA hl (m_next l D cI cZ cJ b ν k (by omega) hN) gX7_takes_X7_next rfl ⟨rfl, rfl, by decide, by decide⟩ ⟨Nat.zero_le _, Nat.zero_le _⟩ 1 ⟨rfl, by decide +kernel⟩ rfl [true, true, true, true, true, true, true, true, true, true, true, true, true, true, true, true, true, true, true, true, true] rfl rfl 0 rfl rfl rfl (Nat.le_of_ble_eq_true rfl) rfl dX7_takes_30 (fun H locs w => ?_)
          refine q_go (tgt := 37) M dX7_takes_33 (by decide) ?_
          refine q_is (lv' := [(4, .int (iI (nF ν k))), (0, .ref (b 0)), (1, .int (iI ((fNr (nU ν) (ν 1) (ν 25) k).1))), (2, .int (iI (fr2 (fNr (nU ν) (ν 1) (ν 25) k).2))), (3, .int (iI k))]) M dX7_takes_37 hl (by decide) rfl (fun ls hl => ?_)
          refine q_il M dX7_takes_39 (lv_at hl 0 rfl) ?_
          refine q_ic M dX7_takes_41 ?_
          refine q_icmp_eq (tgt := 56) M dX7_takes_42 (by decide) (by omega) (fun c42 => ?_) (fun c42 => ?_)
          · have ee : fNr (nU ν) (ν 1) (ν 25) (k + 1) = ((fNr (nU ν) (ν 1) (ν 25) k)) := (itI_s _ _ hj.1).trans (if_neg (show ¬ (nU ν k < (fNr (nU ν) (ν 1) (ν 25) k).2 ∧ ν 25 k < ν 1 k) from fun q => by have q1 := q.1; have q2 := q.2; omega))
            have hl : lv_has ls 5 [(4, .int (iI (nF ν k))), (0, .ref (b 0)), (1, .int (iI ((fNr (nU ν) (ν 1) (ν 25) (k + 1)).1))), (2, .int (iI (fr2 (fNr (nU ν) (ν 1) (ν 25) (k + 1)).2))), (3, .int (iI k))] := by rw [ee]; exact hl
            refine q_inc (z := k) (lv' := [(3, .int (iI (k + 1))), (4, .int (iI (nF ν k))), (0, .ref (b 0)), (1, .int (iI ((fNr (nU ν) (ν 1) (ν 25) (k + 1)).1))), (2, .int (iI (fr2 (fNr (nU ν) (ν 1) (ν 25) (k + 1)).2)))]) M dX7_takes_56 hl (k := 4) rfl (by decide) rfl (fun ls hl => ?_)
            refine q_go (tgt := 7) M dX7_takes_59 (by decide) ?_
            exact ih7 (k + 1) (by omega) (by omega) _ _ _ w (lv_sub hl [2, 3, 4, 0] rfl)
          · refine q_il M dX7_takes_45 (lv_at hl 0 rfl) ?_
            refine q_iln M dX7_takes_47 (lv_at hl 3 rfl) ?_
            refine q_icmp_ge (tgt := 56) M dX7_takes_48 (by decide) (by omega) (fun c48 => ?_) (fun c48 => ?_)
            · have ee : fNr (nU ν) (ν 1) (ν 25) (k + 1) = ((fNr (nU ν) (ν 1) (ν 25) k)) := (itI_s _ _ hj.1).trans (if_neg (show ¬ (nU ν k < (fNr (nU ν) (ν 1) (ν 25) k).2 ∧ ν 25 k < ν 1 k) from fun q => by have q1 := q.1; have q2 := q.2; omega))
              have hl : lv_has ls 5 [(4, .int (iI (nF ν k))), (0, .ref (b 0)), (1, .int (iI ((fNr (nU ν) (ν 1) (ν 25) (k + 1)).1))), (2, .int (iI (fr2 (fNr (nU ν) (ν 1) (ν 25) (k + 1)).2))), (3, .int (iI k))] := by rw [ee]; exact hl
              refine q_inc (z := k) (lv' := [(3, .int (iI (k + 1))), (4, .int (iI (nF ν k))), (0, .ref (b 0)), (1, .int (iI ((fNr (nU ν) (ν 1) (ν 25) (k + 1)).1))), (2, .int (iI (fr2 (fNr (nU ν) (ν 1) (ν 25) (k + 1)).2)))]) M dX7_takes_56 hl (k := 4) rfl (by decide) rfl (fun ls hl => ?_)
              refine q_go (tgt := 7) M dX7_takes_59 (by decide) ?_
              exact ih7 (k + 1) (by omega) (by omega) _ _ _ w (lv_sub hl [2, 3, 4, 0] rfl)
            · refine q_iln M dX7_takes_51 (lv_at hl 4 rfl) ?_
              refine q_isn (lv' := [(1, .int (iI k)), (4, .int (iI (nF ν k))), (0, .ref (b 0)), (2, .int (iI (fr2 (fNr (nU ν) (ν 1) (ν 25) k).2))), (3, .int (iI k))]) M dX7_takes_52 rfl hl (by decide) rfl (fun ls hl => ?_)
              refine q_il M dX7_takes_53 (lv_at hl 1 rfl) ?_
              refine q_isn (lv' := [(2, .int (iI (nF ν k))), (1, .int (iI k)), (4, .int (iI (nF ν k))), (0, .ref (b 0)), (3, .int (iI k))]) M dX7_takes_55 rfl hl (by decide) rfl (fun ls hl => ?_)
              have ee : fNr (nU ν) (ν 1) (ν 25) (k + 1) = (k, nU ν k) := (itI_s _ _ hj.1).trans (if_pos (show (nU ν k < (fNr (nU ν) (ν 1) (ν 25) k).2 ∧ ν 25 k < ν 1 k) from ⟨by omega, by omega⟩))
              have e2 : fr2 (nU ν k) = nF ν k := by omega
              have hl : lv_has ls 5 [(2, .int (iI (fr2 (fNr (nU ν) (ν 1) (ν 25) (k + 1)).2))), (1, .int (iI ((fNr (nU ν) (ν 1) (ν 25) (k + 1)).1))), (4, .int (iI (nF ν k))), (0, .ref (b 0)), (3, .int (iI k))] := by rw [ee]; show lv_has ls 5 _; rw [show fr2 (k, nU ν k).2 = nF ν k from e2]; exact hl
              refine q_inc (z := k) (lv' := [(3, .int (iI (k + 1))), (2, .int (iI (fr2 (fNr (nU ν) (ν 1) (ν 25) (k + 1)).2))), (1, .int (iI ((fNr (nU ν) (ν 1) (ν 25) (k + 1)).1))), (4, .int (iI (nF ν k))), (0, .ref (b 0))]) M dX7_takes_56 hl (k := 4) rfl (by decide) rfl (fun ls hl => ?_)
              refine q_go (tgt := 7) M dX7_takes_59 (by decide) ?_
              exact ih7 (k + 1) (by omega) (by omega) _ _ _ w (lv_sub hl [4, 2, 1, 0] rfl)
  have e0 : fNr (nU ν) (ν 1) (ν 25) 0 = (-1, 768) := itI_0 _ _
  have f0 := fr2_c 768
  have hl : lv_has ls 5 [(3, .int (iI 0)), (2, .int (iI (fr2 (fNr (nU ν) (ν 1) (ν 25) 0).2))), (1, .int (iI ((fNr (nU ν) (ν 1) (ν 25) 0).1))), (0, .ref (b 0))] := by rw [e0]; rw [show fr2 ((-1 : Int), (768 : Int)).2 = 1073741824 by show fr2 768 = 1073741824; omega]; exact hl
  exact lp7 9 0 (by omega) (by omega) _ _ _ w (lv_sub hl [3, 2, 1, 0] rfl)
