/-! LOADS, as the law does them -/
def wC (ν : Nat → Int → Int) (j : Int) : Prop := ν 25 j < ν 1 j ∧ nU ν j < 768
def wN (ν : Nat → Int → Int) (k w : Int) : Prop := (w = -1 ∧ ∀ j, k < j → j < 8 → ¬ wC ν j) ∨ ((k < w ∧ w < 8) ∧ wC ν w ∧ ∀ j, k < j → j < 8 → wC ν j → nU ν w < nU ν j ∨ (nU ν w = nU ν j ∧ w ≤ j))
theorem wN_0 (ν : Nat → Int → Int) : wN ν 7 (-1) := Or.inl ⟨rfl, fun j h1 h2 => absurd h1 (by omega)⟩
theorem wN_t {ν : Nat → Int → Int} {k w : Int} (hk : 0 ≤ k ∧ k < 8) (hc : wC ν k) (h : wN ν k w) (hw : w < 0 ∨ nU ν k ≤ nU ν w) : wN ν (k + -1) k := by
  refine Or.inr ⟨⟨by omega, by omega⟩, hc, fun j h1 h2 h3 => ?_⟩
  by_cases e : j = k
  · exact Or.inr ⟨by rw [e], by omega⟩
  · rcases h with ⟨_, hn⟩ | ⟨hb, _, hm⟩
    · exact absurd h3 (hn j (by omega) h2)
    · have := hm j (by omega) h2 h3
      omega
theorem wN_f {ν : Nat → Int → Int} {k w : Int} (hk : 0 ≤ k ∧ k < 8) (h : wN ν k w) (hn : ¬ wC ν k ∨ (0 ≤ w ∧ nU ν w < nU ν k)) : wN ν (k + -1) w := by
  rcases h with ⟨h0, h1⟩ | ⟨hb, hc, hm⟩
  · refine Or.inl ⟨h0, fun j a b => ?_⟩
    by_cases e : j = k
    · rcases hn with hn | hn
      · rw [e]; exact hn
      · omega
    · exact h1 j (by omega) b
  · refine Or.inr ⟨by omega, hc, fun j a b c => ?_⟩
    by_cases e : j = k
    · rcases hn with hn | hn
      · rw [e] at c; exact absurd c hn
      · rw [e]; omega
    · exact hm j (by omega) b c
theorem wN_b {ν : Nat → Int → Int} {k w : Int} (h : wN ν k w) (hk : -1 ≤ k) : -1 ≤ w ∧ w < 8 := by
  rcases h with ⟨h0, _⟩ | ⟨hb, _⟩
  · omega
  · omega
theorem fNr_N (ν : Nat → Int → Int) {n : Int} (hn : 0 ≤ n) : ((fNr (nU ν) (ν 1) (ν 25) n).1 = -1 ∧ (fNr (nU ν) (ν 1) (ν 25) n).2 = 768 ∧ ∀ j, 0 ≤ j → j < n → ¬ wC ν j) ∨ ((0 ≤ (fNr (nU ν) (ν 1) (ν 25) n).1 ∧ (fNr (nU ν) (ν 1) (ν 25) n).1 < n) ∧ (fNr (nU ν) (ν 1) (ν 25) n).2 = nU ν (fNr (nU ν) (ν 1) (ν 25) n).1 ∧ wC ν (fNr (nU ν) (ν 1) (ν 25) n).1 ∧ ∀ j, 0 ≤ j → j < n → wC ν j → nU ν (fNr (nU ν) (ν 1) (ν 25) n).1 < nU ν j ∨ (nU ν (fNr (nU ν) (ν 1) (ν 25) n).1 = nU ν j ∧ (fNr (nU ν) (ν 1) (ν 25) n).1 ≤ j)) := by
  refine itI_ind (fun n (x : Int × Int) => (x.1 = -1 ∧ x.2 = 768 ∧ ∀ j, 0 ≤ j → j < n → ¬ wC ν j) ∨ ((0 ≤ x.1 ∧ x.1 < n) ∧ x.2 = nU ν x.1 ∧ wC ν x.1 ∧ ∀ j, 0 ≤ j → j < n → wC ν j → nU ν x.1 < nU ν j ∨ (nU ν x.1 = nU ν j ∧ x.1 ≤ j))) (Or.inl ⟨rfl, rfl, fun j h1 h2 => by omega⟩) (fun s x hs ih => ?_) hn
  by_cases q : nU ν s < x.2 ∧ ν 25 s < ν 1 s
  · rw [if_pos q]
    refine Or.inr ⟨⟨hs, by dsimp only; omega⟩, rfl, ?_, fun j a b c => ?_⟩
    · rcases ih with ⟨_, h2, _⟩ | ⟨_, h2, h3, _⟩
      · exact ⟨q.2, by dsimp only; omega⟩
      · have := h3.2
        exact ⟨q.2, by dsimp only; omega⟩
    · dsimp only
      by_cases e : j = s
      · exact Or.inr ⟨by rw [e], by omega⟩
      · rcases ih with ⟨_, _, h3⟩ | ⟨_, h2, _, h4⟩
        · exact absurd c (h3 j a (by omega))
        · have := h4 j a (by omega) c
          omega
  · rw [if_neg q]
    rcases ih with ⟨h1, h2, h3⟩ | ⟨h1, h2, h3, h4⟩
    · refine Or.inl ⟨h1, h2, fun j a b c => ?_⟩
      by_cases e : j = s
      · rw [e] at c
        exact q ⟨by have := c.2; omega, c.1⟩
      · exact h3 j a (by omega) c
    · refine Or.inr ⟨by omega, h2, h3, fun j a b c => ?_⟩
      by_cases e : j = s
      · rw [e] at c ⊢
        have : ¬ nU ν s < x.2 := fun z => q ⟨z, c.1⟩
        omega
      · exact h4 j a (by omega) c
theorem wN_u {ν : Nat → Int → Int} {w : Int} (h : wN ν (-1) w) : (fNr (nU ν) (ν 1) (ν 25) 8).1 = w := by
  rcases fNr_N ν (n := 8) (by omega) with ⟨h1, _, h3⟩ | ⟨h1, _, h3, h4⟩
  · rcases h with ⟨g1, _⟩ | ⟨g1, g2, _⟩
    · rw [h1, g1]
    · exact absurd g2 (h3 w (by omega) g1.2)
  · rcases h with ⟨_, g2⟩ | ⟨g1, g2, g3⟩
    · exact absurd h3 (g2 _ (by omega) h1.2)
    · have a := h4 w (by omega) g1.2 g2
      have b := g3 _ (by omega) h1.2 h3
      omega
def xC (ν : Nat → Int → Int) (w j : Int) : Prop := j ≠ w ∧ 0 < ν 25 j
def xN (ν : Nat → Int → Int) (w k x : Int) : Prop := (x = -1 ∧ ∀ j, k < j → j < 8 → ¬ xC ν w j) ∨ ((k < x ∧ x < 8) ∧ xC ν w x ∧ ∀ j, k < j → j < 8 → xC ν w j → nU ν j < nU ν x ∨ (nU ν j = nU ν x ∧ j ≤ x))
theorem xN_0 (ν : Nat → Int → Int) (w : Int) : xN ν w 7 (-1) := Or.inl ⟨rfl, fun j h1 h2 => absurd h1 (by omega)⟩
theorem xN_t {ν : Nat → Int → Int} {w k x : Int} (hk : 0 ≤ k ∧ k < 8) (hc : xC ν w k) (h : xN ν w k x) (hx : x < 0 ∨ nU ν x < nU ν k) : xN ν w (k + -1) k := by
  refine Or.inr ⟨⟨by omega, by omega⟩, hc, fun j h1 h2 h3 => ?_⟩
  by_cases e : j = k
  · exact Or.inr ⟨by rw [e], by omega⟩
  · rcases h with ⟨_, hn⟩ | ⟨hb, _, hm⟩
    · exact absurd h3 (hn j (by omega) h2)
    · have := hm j (by omega) h2 h3
      omega
theorem xN_f {ν : Nat → Int → Int} {w k x : Int} (hk : 0 ≤ k ∧ k < 8) (h : xN ν w k x) (hn : ¬ xC ν w k ∨ (0 ≤ x ∧ nU ν k ≤ nU ν x)) : xN ν w (k + -1) x := by
  rcases h with ⟨h0, h1⟩ | ⟨hb, hc, hm⟩
  · refine Or.inl ⟨h0, fun j a b => ?_⟩
    by_cases e : j = k
    · rcases hn with hn | hn
      · rw [e]; exact hn
      · omega
    · exact h1 j (by omega) b
  · refine Or.inr ⟨by omega, hc, fun j a b c => ?_⟩
    by_cases e : j = k
    · rcases hn with hn | hn
      · rw [e] at c; exact absurd c hn
      · rw [e]; omega
    · exact hm j (by omega) b c
theorem xN_b {ν : Nat → Int → Int} {w k x : Int} (h : xN ν w k x) (hk : -1 ≤ k) : -1 ≤ x ∧ x < 8 := by
  rcases h with ⟨h0, _⟩ | ⟨hb, _⟩
  · omega
  · omega
theorem fFr_N {ν : Nat → Int → Int} (hU : ∀ s, 0 < nU ν s) (w : Int) {n : Int} (hn : 0 ≤ n) : ((fFr (nU ν) (ν 25) w n).1 = -1 ∧ (fFr (nU ν) (ν 25) w n).2 = 0 ∧ ∀ j, 0 ≤ j → j < n → ¬ xC ν w j) ∨ ((0 ≤ (fFr (nU ν) (ν 25) w n).1 ∧ (fFr (nU ν) (ν 25) w n).1 < n) ∧ (fFr (nU ν) (ν 25) w n).2 = nU ν (fFr (nU ν) (ν 25) w n).1 ∧ xC ν w (fFr (nU ν) (ν 25) w n).1 ∧ ∀ j, 0 ≤ j → j < n → xC ν w j → nU ν j < nU ν (fFr (nU ν) (ν 25) w n).1 ∨ (nU ν j = nU ν (fFr (nU ν) (ν 25) w n).1 ∧ j ≤ (fFr (nU ν) (ν 25) w n).1)) := by
  refine itI_ind (fun n (x : Int × Int) => (x.1 = -1 ∧ x.2 = 0 ∧ ∀ j, 0 ≤ j → j < n → ¬ xC ν w j) ∨ ((0 ≤ x.1 ∧ x.1 < n) ∧ x.2 = nU ν x.1 ∧ xC ν w x.1 ∧ ∀ j, 0 ≤ j → j < n → xC ν w j → nU ν j < nU ν x.1 ∨ (nU ν j = nU ν x.1 ∧ j ≤ x.1))) (Or.inl ⟨rfl, rfl, fun j h1 h2 => by omega⟩) (fun s x hs ih => ?_) hn
  have hs0 := hU s
  by_cases q : s ≠ w ∧ 0 < ν 25 s ∧ x.2 ≤ nU ν s
  · rw [if_pos q]
    refine Or.inr ⟨⟨hs, by dsimp only; omega⟩, rfl, ⟨q.1, q.2.1⟩, fun j a b c => ?_⟩
    dsimp only
    by_cases e : j = s
    · exact Or.inr ⟨by rw [e], by omega⟩
    · rcases ih with ⟨_, _, h3⟩ | ⟨_, h2, _, h4⟩
      · exact absurd c (h3 j a (by omega))
      · have := h4 j a (by omega) c
        omega
  · rw [if_neg q]
    rcases ih with ⟨h1, h2, h3⟩ | ⟨h1, h2, h3, h4⟩
    · refine Or.inl ⟨h1, h2, fun j a b c => ?_⟩
      by_cases e : j = s
      · rw [e] at c
        exact q ⟨c.1, c.2, by omega⟩
      · exact h3 j a (by omega) c
    · refine Or.inr ⟨by omega, h2, h3, fun j a b c => ?_⟩
      by_cases e : j = s
      · rw [e] at c ⊢
        have : ¬ x.2 ≤ nU ν s := fun z => q ⟨c.1, c.2, z⟩
        omega
      · exact h4 j a (by omega) c
theorem xN_u {ν : Nat → Int → Int} (hU : ∀ s, 0 < nU ν s) {w x : Int} (h : xN ν w (-1) x) : (fFr (nU ν) (ν 25) w 8).1 = x := by
  rcases fFr_N hU w (n := 8) (by omega) with ⟨h1, _, h3⟩ | ⟨h1, _, h3, h4⟩
  · rcases h with ⟨g1, _⟩ | ⟨g1, g2, _⟩
    · rw [h1, g1]
    · exact absurd g2 (h3 x (by omega) g1.2)
  · rcases h with ⟨_, g2⟩ | ⟨g1, g2, g3⟩
    · exact absurd h3 (g2 _ (by omega) h1.2)
    · have a := h4 x (by omega) g1.2 g2
      have b := g3 _ (by omega) h1.2 h3
      omega
/-- what a load leaves -/
def lT (ν κ : Nat → Int → Int) (q m : Int → Int) : Prop := (∀ k, 0 ≤ k → k < 8 → m k = (tkR ν).1 k) ∧ q 4 = (tkR ν).2.2.1 + 1 ∧ q 5 = (tkR ν).2.2.2 ∧ ∀ j, j ≠ 4 → j ≠ 5 → q j = κ 8 j
/-- what 'loads' asks -/
def LH (ν κ : Nat → Int → Int) : Prop := ((∀ k, 0 ≤ k → k < 8 → κ 9 k = ν 25 k) ∧ (∀ k, 0 ≤ k → k < 8 → κ 5 k = ν 1 k) ∧ ∀ k, 0 ≤ k → k < 8 → (κ 9 (8 + k) = 1000000 ∧ nU ν k = 768) ∨ (κ 9 (8 + k) = nU ν k ∧ nU ν k ≤ 762)) ∧ ((∀ i, 0 ≤ ν 25 i ∧ ν 25 i ≤ 6) ∧ (∀ i, 1 ≤ ν 1 i ∧ ν 1 i ≤ 6) ∧ sI (ν 25) 8 ≤ 12 ∧ ∀ s, 0 < nU ν s) ∧ κ 8 4 = ν 26 0 + 1 ∧ κ 8 5 = ν 27 0
theorem lod_0 {ν κ : Nat → Int → Int} (hH : LH ν κ) {w x : Int} (hw : wN ν (-1) w) (hx : xN ν w (-1) x) (h : w < 0 ∨ (¬ sI (ν 25) 8 < 12 ∧ (x < 0 ∨ nU ν x ≤ nU ν w))) : lT ν κ (κ 8) (κ 9) := by
  obtain ⟨⟨h1, -⟩, ⟨-, -, -, hU⟩, h4, h5⟩ := hH
  have e1 := wN_u hw
  have e2 := xN_u hU hx
  have b1 := wN_b hw (by omega)
  have b2 := xN_b hx (by omega)
  have e : tkR ν = (ν 25, sI (ν 25) 8, ν 26 0, ν 27 0) := by
    unfold tkR tkF
    rw [e1]
    by_cases q : w = -1
    · rw [if_pos q]
    · rw [if_neg q]
      have h' : ¬ sI (ν 25) 8 < 12 ∧ (x < 0 ∨ nU ν x ≤ nU ν w) := by
        rcases h with h | h
        · omega
        · exact h
      rw [if_neg h'.1]
      dsimp only
      rw [e2, if_pos (by omega)]
  rw [lT, e]
  exact ⟨h1, h4, h5, fun _ _ _ => rfl⟩
theorem lod_1 {ν κ : Nat → Int → Int} (hH : LH ν κ) {w : Int} (hw : wN ν (-1) w) (h0 : ¬ w < 0) (h : sI (ν 25) 8 < 12) : lT ν κ (iU (iU (κ 8) 4 (w + 1)) 5 0) (κ 9) := by
  obtain ⟨⟨h1, -⟩, -⟩ := hH
  have e1 := wN_u hw
  have e : tkR ν = (ν 25, sI (ν 25) 8, w, 0) := by
    unfold tkR tkF
    rw [e1, if_neg (by omega), if_pos h]
  rw [lT, e]
  refine ⟨h1, ?_, iU_s _ _ _, fun j a b => ?_⟩
  · rw [iU_n _ _ (by omega), iU_s]
  · rw [iU_n _ _ b, iU_n _ _ a]
theorem lod_2 {ν κ : Nat → Int → Int} (hH : LH ν κ) {w x : Int} (hw : wN ν (-1) w) (hx : xN ν w (-1) x) (h0 : ¬ w < 0) (hx0 : ¬ x < 0) (h : ¬ sI (ν 25) 8 < 12) (hu : nU ν w < nU ν x) : lT ν κ (iU (iU (κ 8) 4 (w + 1)) 5 0) (iU (κ 9) x (κ 9 x - 1)) := by
  obtain ⟨⟨h1, -⟩, ⟨-, -, -, hU⟩, -⟩ := hH
  have e1 := wN_u hw
  have e2 := xN_u hU hx
  have b2 := xN_b hx (by omega)
  have e : tkR ν = (iU (ν 25) x (ν 25 x + -1), sI (ν 25) 8 + -1, w, 0) := by
    unfold tkR tkF
    rw [e1, if_neg (by omega), if_neg h]
    dsimp only
    rw [e2, if_neg (by omega)]
  rw [lT, e]
  refine ⟨fun k a b => ?_, ?_, iU_s _ _ _, fun j a b => ?_⟩
  · dsimp only
    unfold iU
    by_cases q : k = x
    · rw [if_pos q, if_pos q, h1 x (by omega) (by omega)]
      omega
    · rw [if_neg q, if_neg q]
      exact h1 k a b
  · rw [iU_n _ _ (by omega), iU_s]
  · rw [iU_n _ _ b, iU_n _ _ a]

set_option maxHeartbeats 4000000 in
set_option maxRecDepth 100000 in
theorem k_loads (l : Launch) (D : va_G) (cI cZ cJ : ClassId) (o : Nat → Nat) (κ : Nat → Int → Int) (ν : Nat → Int → Int) (hH : LH ν κ) : Kv l D (tY cI cZ cJ) yL_loads wsL_loads rmL_loads [.ref (o 5), .ref (o 8), .ref (o 9)] (WLlod cI o κ) (fun (x : (Int → Int) × (Int → Int)) => lT ν κ x.1 x.2) (fun x => WLlod cI o (mset (mset κ 8 x.1) 9 x.2)) := by
  obtain ⟨⟨hM, hT2, hV⟩, ⟨hb25, hb1, hsum, hU⟩, h84, h85⟩ := id hH
  have hsum0 : 0 ≤ sI (ν 25) 8 := (sI_bd (ν 25) (c := 6) hb25 (i := 8) (by omega)).1
  refine kv_of (by decide +kernel) rfl (Nat.le_of_ble_eq_true rfl) ?_
  intro zp ze zs zm zargs zbelow zmeth zc A Q ls M hA w hl kret
  have hl : lv_has ls 8 [(0, .ref (o 5)), (1, .ref (o 8)), (2, .ref (o 9))] := hl
  refine q_ic M dL_loads_0 ?_
  refine q_isn (lv' := [(3, .int (iI (-1))), (0, .ref (o 5)), (1, .ref (o 8)), (2, .ref (o 9))]) M dL_loads_1 rfl hl (by decide) rfl (fun ls hl => ?_)
  refine q_bp M dL_loads_2 (by decide +kernel) ?_
  refine q_is (lv' := [(4, .int (iI 12)), (3, .int (iI (-1))), (0, .ref (o 5)), (1, .ref (o 8)), (2, .ref (o 9))]) M dL_loads_4 hl (by decide) rfl (fun ls hl => ?_)
  refine q_bp M dL_loads_6 (by decide +kernel) ?_
  refine q_is (lv' := [(5, .int (iI 7)), (4, .int (iI 12)), (3, .int (iI (-1))), (0, .ref (o 5)), (1, .ref (o 8)), (2, .ref (o 9))]) M dL_loads_8 hl (by decide) rfl (fun ls hl => ?_)
  have lp10 : ∀ (n10 : Nat) (k : Int) (w9 : Int) (room : Int), (-1 ≤ k ∧ k ≤ 7) → (wN ν k w9) → (room = 12 - sI (ν 25) 8 + sI (ν 25) (k + 1)) → (k + 1 : Int) < (n10 : Int) → ∀ (H : Heap) (locs : List Loc) (ls : Array Slot), wW D A zs.heap (WLlod cI o κ) H locs → lv_has ls 8 [(0, .ref (o 5)), (1, .ref (o 8)), (2, .ref (o 9)), (3, .int (iI w9)), (4, .int (iI room)), (5, .int (iI k))] → W zp l ze rmL_loads zs zm zargs zbelow zmeth zc H locs 0 0 Q (F0 zm 10 ls []) := by
    intro n10
    induction n10 with
    | zero => intro k w9 room hk hw9 hroom hm H locs ls w hl; exfalso; omega
    | succ n10 ih10 =>
      intro k w9 room hk hw9 hroom hm10 H locs ls w hl
      have hwb := wN_b hw9 (by omega)
      refine q_il M dL_loads_10 (lv_at hl 5 rfl) ?_
      refine q_if_lt (tgt := 92) M dL_loads_12 (by decide) (by omega) (fun c12 => ?_) (fun c12 => ?_)
      · have ek : k = -1 := by omega
        rw [ek] at hw9 hroom
        rw [show (-1 : Int) + 1 = 0 by omega, sI_0] at hroom
        refine q_ic M dL_loads_92 ?_
        refine q_is (lv' := [(5, .int (iI (-1))), (0, .ref (o 5)), (1, .ref (o 8)), (2, .ref (o 9)), (3, .int (iI w9)), (4, .int (iI room))]) M dL_loads_93 hl (by decide) rfl (fun ls hl => ?_)
        refine q_bp M dL_loads_95 (by decide +kernel) ?_
        refine q_is (lv' := [(6, .int (iI 7)), (5, .int (iI (-1))), (0, .ref (o 5)), (1, .ref (o 8)), (2, .ref (o 9)), (3, .int (iI w9)), (4, .int (iI room))]) M dL_loads_97 hl (by decide) rfl (fun ls hl => ?_)
        have lp99 : ∀ (n99 : Nat) (k : Int) (x9 : Int), (-1 ≤ k ∧ k ≤ 7) → (xN ν w9 k x9) → (k + 1 : Int) < (n99 : Int) → ∀ (H : Heap) (locs : List Loc) (ls : Array Slot), wW D A zs.heap (WLlod cI o κ) H locs → lv_has ls 8 [(0, .ref (o 5)), (1, .ref (o 8)), (2, .ref (o 9)), (3, .int (iI w9)), (4, .int (iI room)), (5, .int (iI x9)), (6, .int (iI k))] → W zp l ze rmL_loads zs zm zargs zbelow zmeth zc H locs 0 0 Q (F0 zm 99 ls []) := by
          intro n99
          induction n99 with
          | zero => intro k x9 hk hx9 hm H locs ls w hl; exfalso; omega
          | succ n99 ih99 =>
            intro k x9 hk hx9 hm99 H locs ls w hl
            have hxb := xN_b hx9 (by omega)
            refine q_il M dL_loads_99 (lv_at hl 6 rfl) ?_
            refine q_if_lt (tgt := 166) M dL_loads_101 (by decide) (by omega) (fun c101 => ?_) (fun c101 => ?_)
            · have ek : k = -1 := by omega
              rw [ek] at hx9
              refine q_iln M dL_loads_166 (lv_at hl 3 rfl) ?_
              refine q_if_lt (tgt := 200) M dL_loads_167 (by decide) (by omega) (fun c167 => ?_) (fun c167 => ?_)
              · refine q_ic M dL_loads_200 ?_
                refine q_is (lv' := [(6, .int (iI 0)), (0, .ref (o 5)), (1, .ref (o 8)), (2, .ref (o 9)), (3, .int (iI w9)), (4, .int (iI room)), (5, .int (iI x9))]) M dL_loads_201 hl (by decide) rfl (fun ls hl => ?_)
                refine q_il M dL_loads_203 (lv_at hl 0 rfl) ?_
                refine q_if_eq (tgt := 216) M dL_loads_205 (by decide) (by omega) (fun c205 => ?_) (fun c205 => ?_)
                · refine q_iln M dL_loads_216 (lv_at hl 4 rfl) ?_
                  refine q_if_lt (tgt := 240) M dL_loads_217 (by decide) (by omega) (fun c217 => ?_) (fun c217 => ?_)
                  · exact kret _ _ _ _ (κ 8, κ 9) dL_loads_240 w (lod_0 hH hw9 hx9 (Or.inl (by omega)))
                  · exfalso; omega
                · exfalso; omega
              · refine q_il M dL_loads_170 (lv_at hl 4 rfl) ?_
                refine q_if_ne (tgt := 200) M dL_loads_172 (by decide) (by omega) (fun c172 => ?_) (fun c172 => ?_)
                · refine q_ic M dL_loads_200 ?_
                  refine q_is (lv' := [(6, .int (iI 0)), (0, .ref (o 5)), (1, .ref (o 8)), (2, .ref (o 9)), (3, .int (iI w9)), (4, .int (iI room)), (5, .int (iI x9))]) M dL_loads_201 hl (by decide) rfl (fun ls hl => ?_)
                  refine q_il M dL_loads_203 (lv_at hl 0 rfl) ?_
                  refine q_if_eq (tgt := 216) M dL_loads_205 (by decide) (by omega) (fun c205 => ?_) (fun c205 => ?_)
                  · refine q_iln M dL_loads_216 (lv_at hl 4 rfl) ?_
                    refine q_if_lt (tgt := 240) M dL_loads_217 (by decide) (by omega) (fun c217 => ?_) (fun c217 => ?_)
                    · exfalso; omega
                    · refine q_il M dL_loads_220 (lv_at hl 5 rfl) ?_
                      refine q_if_gt (tgt := 230) M dL_loads_222 (by decide) (by omega) (fun c222 => ?_) (fun c222 => ?_)
                      · refine q_aln M dL_loads_230 (lv_at hl 2 rfl) ?_
                        refine q_ic M dL_loads_231 ?_
                        refine q_iln M dL_loads_232 (lv_at hl 4 rfl) ?_
                        refine q_ic M dL_loads_233 ?_
                        refine q_add M dL_loads_234 ?_
                        refine q_iast (f := κ 8) (ws2 := WLlod cI o (mset κ 8 (iU (κ 8) 4 (w9 + 1)))) M w 1 0 rfl rfl (by omega) rfl dL_loads_235 (fun H locs w => ?_)
                        refine q_aln M dL_loads_236 (lv_at hl 2 rfl) ?_
                        refine q_ic M dL_loads_237 ?_
                        refine q_ic M dL_loads_238 ?_
                        refine q_iast (f := iU (κ 8) 4 (w9 + 1)) (ws2 := WLlod cI o (mset κ 8 (iU (iU (κ 8) 4 (w9 + 1)) 5 0))) M w 1 0 rfl rfl (by omega) rfl dL_loads_239 (fun H locs w => ?_)
                        exact kret _ _ _ _ (iU (iU (κ 8) 4 (w9 + 1)) 5 0, κ 9) dL_loads_240 w (lod_1 hH hw9 (by omega) (by omega))
                      · exfalso; omega
                  · exfalso; omega
                · refine q_il M dL_loads_175 (lv_at hl 5 rfl) ?_
                  refine q_if_lt (tgt := 200) M dL_loads_177 (by decide) (by omega) (fun c177 => ?_) (fun c177 => ?_)
                  · refine q_ic M dL_loads_200 ?_
                    refine q_is (lv' := [(6, .int (iI 0)), (0, .ref (o 5)), (1, .ref (o 8)), (2, .ref (o 9)), (3, .int (iI w9)), (4, .int (iI room)), (5, .int (iI x9))]) M dL_loads_201 hl (by decide) rfl (fun ls hl => ?_)
                    refine q_il M dL_loads_203 (lv_at hl 0 rfl) ?_
                    refine q_if_eq (tgt := 216) M dL_loads_205 (by decide) (by omega) (fun c205 => ?_) (fun c205 => ?_)
                    · refine q_iln M dL_loads_216 (lv_at hl 4 rfl) ?_
                      refine q_if_lt (tgt := 240) M dL_loads_217 (by decide) (by omega) (fun c217 => ?_) (fun c217 => ?_)
                      · exfalso; omega
                      · refine q_il M dL_loads_220 (lv_at hl 5 rfl) ?_
                        refine q_if_gt (tgt := 230) M dL_loads_222 (by decide) (by omega) (fun c222 => ?_) (fun c222 => ?_)
                        · exfalso; omega
                        · refine q_il M dL_loads_225 (lv_at hl 0 rfl) ?_
                          refine q_if_eq (tgt := 240) M dL_loads_227 (by decide) (by omega) (fun c227 => ?_) (fun c227 => ?_)
                          · exact kret _ _ _ _ (κ 8, κ 9) dL_loads_240 w (lod_0 hH hw9 hx9 (Or.inr ⟨by omega, Or.inl (by omega)⟩))
                          · exfalso; omega
                    · exfalso; omega
                  · have hVx := hV x9 (by omega) (by omega)
                    have hVw := hV w9 (by omega) (by omega)
                    have bUx := hU x9
                    have bUw := hU w9
                    refine q_aln M dL_loads_180 (lv_at hl 2 rfl) ?_
                    refine q_bp M dL_loads_181 (by decide +kernel) ?_
                    refine q_il M dL_loads_183 (lv_at hl 5 rfl) ?_
                    refine q_add M dL_loads_185 ?_
                    refine q_iald (f := κ 9) M w 2 0 rfl rfl (by omega) dL_loads_186 ?_
                    refine q_aln M dL_loads_187 (lv_at hl 2 rfl) ?_
                    refine q_bp M dL_loads_188 (by decide +kernel) ?_
                    refine q_iln M dL_loads_190 (lv_at hl 3 rfl) ?_
                    refine q_add M dL_loads_191 ?_
                    refine q_iald (f := κ 9) M w 2 0 rfl rfl (by omega) dL_loads_192 ?_
                    refine q_icmp_le (tgt := 200) M dL_loads_193 (by decide) (by omega) (fun c193 => ?_) (fun c193 => ?_)
                    · refine q_ic M dL_loads_200 ?_
                      refine q_is (lv' := [(6, .int (iI 0)), (0, .ref (o 5)), (1, .ref (o 8)), (2, .ref (o 9)), (3, .int (iI w9)), (4, .int (iI room)), (5, .int (iI x9))]) M dL_loads_201 hl (by decide) rfl (fun ls hl => ?_)
                      refine q_il M dL_loads_203 (lv_at hl 0 rfl) ?_
                      refine q_if_eq (tgt := 216) M dL_loads_205 (by decide) (by omega) (fun c205 => ?_) (fun c205 => ?_)
                      · refine q_iln M dL_loads_216 (lv_at hl 4 rfl) ?_
                        refine q_if_lt (tgt := 240) M dL_loads_217 (by decide) (by omega) (fun c217 => ?_) (fun c217 => ?_)
                        · exfalso; omega
                        · refine q_il M dL_loads_220 (lv_at hl 5 rfl) ?_
                          refine q_if_gt (tgt := 230) M dL_loads_222 (by decide) (by omega) (fun c222 => ?_) (fun c222 => ?_)
                          · exfalso; omega
                          · refine q_il M dL_loads_225 (lv_at hl 0 rfl) ?_
                            refine q_if_eq (tgt := 240) M dL_loads_227 (by decide) (by omega) (fun c227 => ?_) (fun c227 => ?_)
                            · exact kret _ _ _ _ (κ 8, κ 9) dL_loads_240 w (lod_0 hH hw9 hx9 (Or.inr ⟨by omega, Or.inr (by omega)⟩))
                            · exfalso; omega
                      · exfalso; omega
                    · refine q_ic M dL_loads_196 ?_
                      refine q_go (tgt := 201) M dL_loads_197 (by decide) ?_
                      refine q_is (lv' := [(6, .int (iI 1)), (0, .ref (o 5)), (1, .ref (o 8)), (2, .ref (o 9)), (3, .int (iI w9)), (4, .int (iI room)), (5, .int (iI x9))]) M dL_loads_201 hl (by decide) rfl (fun ls hl => ?_)
                      refine q_il M dL_loads_203 (lv_at hl 0 rfl) ?_
                      refine q_if_eq (tgt := 216) M dL_loads_205 (by decide) (by omega) (fun c205 => ?_) (fun c205 => ?_)
                      · exfalso; omega
                      · refine q_aln M dL_loads_208 (lv_at hl 3 rfl) ?_
                        refine q_il M dL_loads_209 (lv_at hl 6 rfl) ?_
                        refine q_dup2 M dL_loads_211 rfl rfl ?_
                        refine q_iald (f := κ 9) M w 2 0 rfl rfl (by omega) dL_loads_212 ?_
                        refine q_ic M dL_loads_213 ?_
                        refine q_sub M dL_loads_214 ?_
                        refine q_iast (f := κ 9) (ws2 := WLlod cI o (mset κ 9 (iU (κ 9) x9 (((κ 9) x9) - 1)))) M w 2 0 rfl rfl (by omega) rfl dL_loads_215 (fun H locs w => ?_)
                        refine q_iln M dL_loads_216 (lv_at hl 4 rfl) ?_
                        refine q_if_lt (tgt := 240) M dL_loads_217 (by decide) (by omega) (fun c217 => ?_) (fun c217 => ?_)
                        · exfalso; omega
                        · refine q_il M dL_loads_220 (lv_at hl 5 rfl) ?_
                          refine q_if_gt (tgt := 230) M dL_loads_222 (by decide) (by omega) (fun c222 => ?_) (fun c222 => ?_)
                          · exfalso; omega
                          · refine q_il M dL_loads_225 (lv_at hl 0 rfl) ?_
                            refine q_if_eq (tgt := 240) M dL_loads_227 (by decide) (by omega) (fun c227 => ?_) (fun c227 => ?_)
                            · exfalso; omega
                            · refine q_aln M dL_loads_230 (lv_at hl 2 rfl) ?_
                              refine q_ic M dL_loads_231 ?_
                              refine q_iln M dL_loads_232 (lv_at hl 4 rfl) ?_
                              refine q_ic M dL_loads_233 ?_
                              refine q_add M dL_loads_234 ?_
                              refine q_iast (f := κ 8) (ws2 := WLlod cI o (mset (mset κ 8 (iU (κ 8) 4 (w9 + 1))) 9 (iU (κ 9) x9 (((κ 9) x9) - 1)))) M w 1 0 rfl rfl (by omega) rfl dL_loads_235 (fun H locs w => ?_)
                              refine q_aln M dL_loads_236 (lv_at hl 2 rfl) ?_
                              refine q_ic M dL_loads_237 ?_
                              refine q_ic M dL_loads_238 ?_
                              refine q_iast (f := iU (κ 8) 4 (w9 + 1)) (ws2 := WLlod cI o (mset (mset κ 8 (iU (iU (κ 8) 4 (w9 + 1)) 5 0)) 9 (iU (κ 9) x9 (((κ 9) x9) - 1)))) M w 1 0 rfl rfl (by omega) rfl dL_loads_239 (fun H locs w => ?_)
                              exact kret _ _ _ _ (iU (iU (κ 8) 4 (w9 + 1)) 5 0, iU (κ 9) x9 (((κ 9) x9) - 1)) dL_loads_240 w (lod_2 hH hw9 hx9 (by omega) (by omega) (by omega) (by omega))
            · obtain hVk := hV k (by omega) (by omega)
              have hMk := hM k (by omega) (by omega)
              have hTk := hT2 k (by omega) (by omega)
              have b25 := hb25 k
              have b1 := hb1 k
              have bU := hU k
              refine q_il M dL_loads_104 (lv_at hl 6 rfl) ?_
              refine q_iln M dL_loads_106 (lv_at hl 3 rfl) ?_
              refine q_icmp_eq (tgt := 121) M dL_loads_107 (by decide) (by omega) (fun c107 => ?_) (fun c107 => ?_)
              · refine q_ic M dL_loads_121 ?_
                refine q_is (lv' := [(7, .int (iI 0)), (0, .ref (o 5)), (1, .ref (o 8)), (2, .ref (o 9)), (3, .int (iI w9)), (4, .int (iI room)), (5, .int (iI x9)), (6, .int (iI k))]) M dL_loads_122 hl (by decide) rfl (fun ls hl => ?_)
                refine q_il M dL_loads_124 (lv_at hl 0 rfl) ?_
                refine q_if_eq (tgt := 156) M dL_loads_126 (by decide) (by omega) (fun c126 => ?_) (fun c126 => ?_)
                · refine q_il M dL_loads_156 (lv_at hl 6 rfl) ?_
                  refine q_is (lv' := [(5, .int (iI x9)), (7, .int (iI 0)), (0, .ref (o 5)), (1, .ref (o 8)), (2, .ref (o 9)), (3, .int (iI w9)), (4, .int (iI room)), (6, .int (iI k))]) M dL_loads_158 hl (by decide) rfl (fun ls hl => ?_)
                  refine q_inc (z := k) (lv' := [(6, .int (iI (k + (-1)))), (5, .int (iI x9)), (7, .int (iI 0)), (0, .ref (o 5)), (1, .ref (o 8)), (2, .ref (o 9)), (3, .int (iI w9)), (4, .int (iI room))]) M dL_loads_160 hl (k := 7) rfl (by decide) rfl (fun ls hl => ?_)
                  refine q_go (tgt := 99) M dL_loads_163 (by decide) ?_
                  exact ih99 (k + -1) x9 (by omega) (xN_f (by omega) hx9 (Or.inl (fun z => by have z1 := z.1; have z2 := z.2; omega))) (by omega) _ _ _ w (lv_sub hl [3, 4, 5, 6, 7, 1, 0] rfl)
                · exfalso; omega
              · refine q_aln M dL_loads_110 (lv_at hl 2 rfl) ?_
                refine q_il M dL_loads_111 (lv_at hl 6 rfl) ?_
                refine q_iald (f := κ 9) M w 2 0 rfl rfl (by omega) dL_loads_113 ?_
                refine q_if_le (tgt := 121) M dL_loads_114 (by decide) (by omega) (fun c114 => ?_) (fun c114 => ?_)
                · refine q_ic M dL_loads_121 ?_
                  refine q_is (lv' := [(7, .int (iI 0)), (0, .ref (o 5)), (1, .ref (o 8)), (2, .ref (o 9)), (3, .int (iI w9)), (4, .int (iI room)), (5, .int (iI x9)), (6, .int (iI k))]) M dL_loads_122 hl (by decide) rfl (fun ls hl => ?_)
                  refine q_il M dL_loads_124 (lv_at hl 0 rfl) ?_
                  refine q_if_eq (tgt := 156) M dL_loads_126 (by decide) (by omega) (fun c126 => ?_) (fun c126 => ?_)
                  · refine q_il M dL_loads_156 (lv_at hl 6 rfl) ?_
                    refine q_is (lv' := [(5, .int (iI x9)), (7, .int (iI 0)), (0, .ref (o 5)), (1, .ref (o 8)), (2, .ref (o 9)), (3, .int (iI w9)), (4, .int (iI room)), (6, .int (iI k))]) M dL_loads_158 hl (by decide) rfl (fun ls hl => ?_)
                    refine q_inc (z := k) (lv' := [(6, .int (iI (k + (-1)))), (5, .int (iI x9)), (7, .int (iI 0)), (0, .ref (o 5)), (1, .ref (o 8)), (2, .ref (o 9)), (3, .int (iI w9)), (4, .int (iI room))]) M dL_loads_160 hl (k := 7) rfl (by decide) rfl (fun ls hl => ?_)
                    refine q_go (tgt := 99) M dL_loads_163 (by decide) ?_
                    exact ih99 (k + -1) x9 (by omega) (xN_f (by omega) hx9 (Or.inl (fun z => by have z1 := z.1; have z2 := z.2; omega))) (by omega) _ _ _ w (lv_sub hl [3, 4, 5, 6, 7, 1, 0] rfl)
                  · exfalso; omega
                · refine q_ic M dL_loads_117 ?_
                  refine q_go (tgt := 122) M dL_loads_118 (by decide) ?_
                  refine q_is (lv' := [(7, .int (iI 1)), (0, .ref (o 5)), (1, .ref (o 8)), (2, .ref (o 9)), (3, .int (iI w9)), (4, .int (iI room)), (5, .int (iI x9)), (6, .int (iI k))]) M dL_loads_122 hl (by decide) rfl (fun ls hl => ?_)
                  refine q_il M dL_loads_124 (lv_at hl 0 rfl) ?_
                  refine q_if_eq (tgt := 156) M dL_loads_126 (by decide) (by omega) (fun c126 => ?_) (fun c126 => ?_)
                  · exfalso; omega
                  · refine q_il M dL_loads_129 (lv_at hl 6 rfl) ?_
                    refine q_if_lt (tgt := 151) M dL_loads_131 (by decide) (by omega) (fun c131 => ?_) (fun c131 => ?_)
                    · refine q_il M dL_loads_151 (lv_at hl 7 rfl) ?_
                      refine q_go (tgt := 158) M dL_loads_153 (by decide) ?_
                      refine q_is (lv' := [(5, .int (iI k)), (7, .int (iI 1)), (0, .ref (o 5)), (1, .ref (o 8)), (2, .ref (o 9)), (3, .int (iI w9)), (4, .int (iI room)), (6, .int (iI k))]) M dL_loads_158 hl (by decide) rfl (fun ls hl => ?_)
                      refine q_inc (z := k) (lv' := [(6, .int (iI (k + (-1)))), (5, .int (iI k)), (7, .int (iI 1)), (0, .ref (o 5)), (1, .ref (o 8)), (2, .ref (o 9)), (3, .int (iI w9)), (4, .int (iI room))]) M dL_loads_160 hl (k := 7) rfl (by decide) rfl (fun ls hl => ?_)
                      refine q_go (tgt := 99) M dL_loads_163 (by decide) ?_
                      exact ih99 (k + -1) k (by omega) (xN_t (by omega) ⟨by omega, by omega⟩ hx9 (Or.inl (by omega))) (by omega) _ _ _ w (lv_sub hl [3, 4, 5, 6, 7, 1, 0] rfl)
                    · have hVx := hV x9 (by omega) (by omega)
                      have bUx := hU x9
                      refine q_aln M dL_loads_134 (lv_at hl 3 rfl) ?_
                      refine q_bp M dL_loads_135 (by decide +kernel) ?_
                      refine q_il M dL_loads_137 (lv_at hl 7 rfl) ?_
                      refine q_add M dL_loads_139 ?_
                      refine q_iald (f := κ 9) M w 2 0 rfl rfl (by omega) dL_loads_140 ?_
                      refine q_aln M dL_loads_141 (lv_at hl 3 rfl) ?_
                      refine q_bp M dL_loads_142 (by decide +kernel) ?_
                      refine q_il M dL_loads_144 (lv_at hl 6 rfl) ?_
                      refine q_add M dL_loads_146 ?_
                      refine q_iald (f := κ 9) M w 2 0 rfl rfl (by omega) dL_loads_147 ?_
                      refine q_icmp_le (tgt := 156) M dL_loads_148 (by decide) (by omega) (fun c148 => ?_) (fun c148 => ?_)
                      · refine q_il M dL_loads_156 (lv_at hl 6 rfl) ?_
                        refine q_is (lv' := [(5, .int (iI x9)), (7, .int (iI 1)), (0, .ref (o 5)), (1, .ref (o 8)), (2, .ref (o 9)), (3, .int (iI w9)), (4, .int (iI room)), (6, .int (iI k))]) M dL_loads_158 hl (by decide) rfl (fun ls hl => ?_)
                        refine q_inc (z := k) (lv' := [(6, .int (iI (k + (-1)))), (5, .int (iI x9)), (7, .int (iI 1)), (0, .ref (o 5)), (1, .ref (o 8)), (2, .ref (o 9)), (3, .int (iI w9)), (4, .int (iI room))]) M dL_loads_160 hl (k := 7) rfl (by decide) rfl (fun ls hl => ?_)
                        refine q_go (tgt := 99) M dL_loads_163 (by decide) ?_
                        exact ih99 (k + -1) x9 (by omega) (xN_f (by omega) hx9 (Or.inr ⟨by omega, by omega⟩)) (by omega) _ _ _ w (lv_sub hl [3, 4, 5, 6, 7, 1, 0] rfl)
                      · refine q_il M dL_loads_151 (lv_at hl 7 rfl) ?_
                        refine q_go (tgt := 158) M dL_loads_153 (by decide) ?_
                        refine q_is (lv' := [(5, .int (iI k)), (7, .int (iI 1)), (0, .ref (o 5)), (1, .ref (o 8)), (2, .ref (o 9)), (3, .int (iI w9)), (4, .int (iI room)), (6, .int (iI k))]) M dL_loads_158 hl (by decide) rfl (fun ls hl => ?_)
                        refine q_inc (z := k) (lv' := [(6, .int (iI (k + (-1)))), (5, .int (iI k)), (7, .int (iI 1)), (0, .ref (o 5)), (1, .ref (o 8)), (2, .ref (o 9)), (3, .int (iI w9)), (4, .int (iI room))]) M dL_loads_160 hl (k := 7) rfl (by decide) rfl (fun ls hl => ?_)
                        refine q_go (tgt := 99) M dL_loads_163 (by decide) ?_
                        exact ih99 (k + -1) k (by omega) (xN_t (by omega) ⟨by omega, by omega⟩ hx9 (Or.inr (by omega))) (by omega) _ _ _ w (lv_sub hl [3, 4, 5, 6, 7, 1, 0] rfl)
        exact lp99 9 7 (-1) (by omega) (xN_0 ν w9) (by omega) _ _ _ w (lv_sub hl [2, 3, 4, 5, 6, 1, 0] rfl)
      · obtain hVk := hV k (by omega) (by omega)
        have hMk := hM k (by omega) (by omega)
        have hTk := hT2 k (by omega) (by omega)
        have b25 := hb25 k
        have b1 := hb1 k
        have bU := hU k
        refine q_il M dL_loads_15 (lv_at hl 4 rfl) ?_
        refine q_aln M dL_loads_17 (lv_at hl 2 rfl) ?_
        refine q_il M dL_loads_18 (lv_at hl 5 rfl) ?_
        refine q_iald (f := κ 9) M w 2 0 rfl rfl (by omega) dL_loads_20 ?_
        refine q_top (y := ν 25 k) (by exact hMk) ?_
        refine q_sub M dL_loads_21 ?_
        refine q_is (lv' := [(4, .int (iI (room - (ν 25 k)))), (0, .ref (o 5)), (1, .ref (o 8)), (2, .ref (o 9)), (3, .int (iI w9)), (5, .int (iI k))]) M dL_loads_22 hl (by decide) rfl (fun ls hl => ?_)
        refine q_aln M dL_loads_24 (lv_at hl 3 rfl) ?_
        refine q_il M dL_loads_25 (lv_at hl 5 rfl) ?_
        refine q_iald (f := κ 9) M w 2 0 rfl rfl (by omega) dL_loads_27 ?_
        refine q_aln M dL_loads_28 (lv_at hl 1 rfl) ?_
        refine q_il M dL_loads_29 (lv_at hl 5 rfl) ?_
        refine q_iald (f := κ 5) M w 0 0 rfl rfl (by omega) dL_loads_31 ?_
        refine q_icmp_ge (tgt := 51) M dL_loads_32 (by decide) (by omega) (fun c32 => ?_) (fun c32 => ?_)
        · refine q_ic M dL_loads_51 ?_
          refine q_is (lv' := [(6, .int (iI 0)), (4, .int (iI (room - (ν 25 k)))), (0, .ref (o 5)), (1, .ref (o 8)), (2, .ref (o 9)), (3, .int (iI w9)), (5, .int (iI k))]) M dL_loads_52 hl (by decide) rfl (fun ls hl => ?_)
          refine q_il M dL_loads_54 (lv_at hl 0 rfl) ?_
          refine q_if_eq (tgt := 84) M dL_loads_56 (by decide) (by omega) (fun c56 => ?_) (fun c56 => ?_)
          · refine q_iln M dL_loads_84 (lv_at hl 5 rfl) ?_
            refine q_isn (lv' := [(3, .int (iI w9)), (6, .int (iI 0)), (4, .int (iI (room - (ν 25 k)))), (0, .ref (o 5)), (1, .ref (o 8)), (2, .ref (o 9)), (5, .int (iI k))]) M dL_loads_85 rfl hl (by decide) rfl (fun ls hl => ?_)
            refine q_inc (z := k) (lv' := [(5, .int (iI (k + (-1)))), (3, .int (iI w9)), (6, .int (iI 0)), (4, .int (iI (room - (ν 25 k)))), (0, .ref (o 5)), (1, .ref (o 8)), (2, .ref (o 9))]) M dL_loads_86 hl (k := 6) rfl (by decide) rfl (fun ls hl => ?_)
            refine q_go (tgt := 10) M dL_loads_89 (by decide) ?_
            exact ih10 (k + -1) w9 (room - ν 25 k) (by omega) (wN_f (by omega) hw9 (Or.inl (fun z => by have z1 := z.1; have z2 := z.2; omega))) (by have hs9 := sI_s (ν 25) (i := k) (by omega); rw [show k + -1 + 1 = k by omega]; omega) (by omega) _ _ _ w (lv_sub hl [4, 5, 6, 1, 3, 0] rfl)
          · exfalso; omega
        · refine q_aln M dL_loads_35 (lv_at hl 3 rfl) ?_
          refine q_bp M dL_loads_36 (by decide +kernel) ?_
          refine q_il M dL_loads_38 (lv_at hl 5 rfl) ?_
          refine q_add M dL_loads_40 ?_
          refine q_iald (f := κ 9) M w 2 0 rfl rfl (by omega) dL_loads_41 ?_
          refine q_ldc (n := 1000000) M (by decide +kernel) dL_loads_42 ?_
          refine q_icmp_ge (tgt := 51) M dL_loads_44 (by decide) (by omega) (fun c44 => ?_) (fun c44 => ?_)
          · refine q_ic M dL_loads_51 ?_
            refine q_is (lv' := [(6, .int (iI 0)), (4, .int (iI (room - (ν 25 k)))), (0, .ref (o 5)), (1, .ref (o 8)), (2, .ref (o 9)), (3, .int (iI w9)), (5, .int (iI k))]) M dL_loads_52 hl (by decide) rfl (fun ls hl => ?_)
            refine q_il M dL_loads_54 (lv_at hl 0 rfl) ?_
            refine q_if_eq (tgt := 84) M dL_loads_56 (by decide) (by omega) (fun c56 => ?_) (fun c56 => ?_)
            · refine q_iln M dL_loads_84 (lv_at hl 5 rfl) ?_
              refine q_isn (lv' := [(3, .int (iI w9)), (6, .int (iI 0)), (4, .int (iI (room - (ν 25 k)))), (0, .ref (o 5)), (1, .ref (o 8)), (2, .ref (o 9)), (5, .int (iI k))]) M dL_loads_85 rfl hl (by decide) rfl (fun ls hl => ?_)
              refine q_inc (z := k) (lv' := [(5, .int (iI (k + (-1)))), (3, .int (iI w9)), (6, .int (iI 0)), (4, .int (iI (room - (ν 25 k)))), (0, .ref (o 5)), (1, .ref (o 8)), (2, .ref (o 9))]) M dL_loads_86 hl (k := 6) rfl (by decide) rfl (fun ls hl => ?_)
              refine q_go (tgt := 10) M dL_loads_89 (by decide) ?_
              exact ih10 (k + -1) w9 (room - ν 25 k) (by omega) (wN_f (by omega) hw9 (Or.inl (fun z => by have z1 := z.1; have z2 := z.2; omega))) (by have hs9 := sI_s (ν 25) (i := k) (by omega); rw [show k + -1 + 1 = k by omega]; omega) (by omega) _ _ _ w (lv_sub hl [4, 5, 6, 1, 3, 0] rfl)
            · exfalso; omega
          · refine q_ic M dL_loads_47 ?_
            refine q_go (tgt := 52) M dL_loads_48 (by decide) ?_
            refine q_is (lv' := [(6, .int (iI 1)), (4, .int (iI (room - (ν 25 k)))), (0, .ref (o 5)), (1, .ref (o 8)), (2, .ref (o 9)), (3, .int (iI w9)), (5, .int (iI k))]) M dL_loads_52 hl (by decide) rfl (fun ls hl => ?_)
            refine q_il M dL_loads_54 (lv_at hl 0 rfl) ?_
            refine q_if_eq (tgt := 84) M dL_loads_56 (by decide) (by omega) (fun c56 => ?_) (fun c56 => ?_)
            · exfalso; omega
            · refine q_iln M dL_loads_59 (lv_at hl 5 rfl) ?_
              refine q_if_lt (tgt := 79) M dL_loads_60 (by decide) (by omega) (fun c60 => ?_) (fun c60 => ?_)
              · refine q_il M dL_loads_79 (lv_at hl 6 rfl) ?_
                refine q_go (tgt := 85) M dL_loads_81 (by decide) ?_
                refine q_isn (lv' := [(3, .int (iI k)), (6, .int (iI 1)), (4, .int (iI (room - (ν 25 k)))), (0, .ref (o 5)), (1, .ref (o 8)), (2, .ref (o 9)), (5, .int (iI k))]) M dL_loads_85 rfl hl (by decide) rfl (fun ls hl => ?_)
                refine q_inc (z := k) (lv' := [(5, .int (iI (k + (-1)))), (3, .int (iI k)), (6, .int (iI 1)), (4, .int (iI (room - (ν 25 k)))), (0, .ref (o 5)), (1, .ref (o 8)), (2, .ref (o 9))]) M dL_loads_86 hl (k := 6) rfl (by decide) rfl (fun ls hl => ?_)
                refine q_go (tgt := 10) M dL_loads_89 (by decide) ?_
                exact ih10 (k + -1) k (room - ν 25 k) (by omega) (wN_t (by omega) ⟨by omega, by omega⟩ hw9 (Or.inl (by omega))) (by have hs9 := sI_s (ν 25) (i := k) (by omega); rw [show k + -1 + 1 = k by omega]; omega) (by omega) _ _ _ w (lv_sub hl [4, 5, 6, 1, 3, 0] rfl)
              · have hVw := hV w9 (by omega) (by omega)
                have bUw := hU w9
                refine q_aln M dL_loads_63 (lv_at hl 4 rfl) ?_
                refine q_bp M dL_loads_64 (by decide +kernel) ?_
                refine q_il M dL_loads_66 (lv_at hl 6 rfl) ?_
                refine q_add M dL_loads_68 ?_
                refine q_iald (f := κ 9) M w 2 0 rfl rfl (by omega) dL_loads_69 ?_
                refine q_aln M dL_loads_70 (lv_at hl 4 rfl) ?_
                refine q_bp M dL_loads_71 (by decide +kernel) ?_
                refine q_iln M dL_loads_73 (lv_at hl 5 rfl) ?_
                refine q_add M dL_loads_74 ?_
                refine q_iald (f := κ 9) M w 2 0 rfl rfl (by omega) dL_loads_75 ?_
                refine q_icmp_gt (tgt := 84) M dL_loads_76 (by decide) (by omega) (fun c76 => ?_) (fun c76 => ?_)
                · refine q_iln M dL_loads_84 (lv_at hl 5 rfl) ?_
                  refine q_isn (lv' := [(3, .int (iI w9)), (6, .int (iI 1)), (4, .int (iI (room - (ν 25 k)))), (0, .ref (o 5)), (1, .ref (o 8)), (2, .ref (o 9)), (5, .int (iI k))]) M dL_loads_85 rfl hl (by decide) rfl (fun ls hl => ?_)
                  refine q_inc (z := k) (lv' := [(5, .int (iI (k + (-1)))), (3, .int (iI w9)), (6, .int (iI 1)), (4, .int (iI (room - (ν 25 k)))), (0, .ref (o 5)), (1, .ref (o 8)), (2, .ref (o 9))]) M dL_loads_86 hl (k := 6) rfl (by decide) rfl (fun ls hl => ?_)
                  refine q_go (tgt := 10) M dL_loads_89 (by decide) ?_
                  exact ih10 (k + -1) w9 (room - ν 25 k) (by omega) (wN_f (by omega) hw9 (Or.inr ⟨by omega, by omega⟩)) (by have hs9 := sI_s (ν 25) (i := k) (by omega); rw [show k + -1 + 1 = k by omega]; omega) (by omega) _ _ _ w (lv_sub hl [4, 5, 6, 1, 3, 0] rfl)
                · refine q_il M dL_loads_79 (lv_at hl 6 rfl) ?_
                  refine q_go (tgt := 85) M dL_loads_81 (by decide) ?_
                  refine q_isn (lv' := [(3, .int (iI k)), (6, .int (iI 1)), (4, .int (iI (room - (ν 25 k)))), (0, .ref (o 5)), (1, .ref (o 8)), (2, .ref (o 9)), (5, .int (iI k))]) M dL_loads_85 rfl hl (by decide) rfl (fun ls hl => ?_)
                  refine q_inc (z := k) (lv' := [(5, .int (iI (k + (-1)))), (3, .int (iI k)), (6, .int (iI 1)), (4, .int (iI (room - (ν 25 k)))), (0, .ref (o 5)), (1, .ref (o 8)), (2, .ref (o 9))]) M dL_loads_86 hl (k := 6) rfl (by decide) rfl (fun ls hl => ?_)
                  refine q_go (tgt := 10) M dL_loads_89 (by decide) ?_
                  exact ih10 (k + -1) k (room - ν 25 k) (by omega) (wN_t (by omega) ⟨by omega, by omega⟩ hw9 (Or.inr (by omega))) (by have hs9 := sI_s (ν 25) (i := k) (by omega); rw [show k + -1 + 1 = k by omega]; omega) (by omega) _ _ _ w (lv_sub hl [4, 5, 6, 1, 3, 0] rfl)
  exact lp10 9 7 (-1) 12 (by omega) (wN_0 ν) (by rw [show (7 : Int) + 1 = 8 by omega]; omega) (by omega) _ _ _ w (lv_sub hl [3, 4, 5, 2, 1, 0] rfl)
