/-! LAYS, as the law does it -/
def ctI (T : Int → Int) : Int := T 0 + 256 * T 1 + 65536 * T 2
def jpI (d : Int → Int) : Int := d 0 + 4 * d 1 + 16 * d 2 + 64 * d 3
theorem iU_0 (f : Int → Int) (i v j : Int) : (j = i ∧ iU f i v j = v) ∨ (j ≠ i ∧ iU f i v j = f j) := by
  by_cases q : j = i
  · exact Or.inl ⟨q, if_pos q⟩
  · exact Or.inr ⟨q, if_neg q⟩
theorem shL_a : shL 1 0 = 1 ∧ shL 1 8 = 256 ∧ shL 1 16 = 65536 ∧ shL 1 2 = 4 ∧ shL 1 4 = 16 ∧ shL 1 6 = 64 := ⟨shL_1 ⟨0, by omega⟩, shL_1 ⟨8, by omega⟩, shL_1 ⟨16, by omega⟩, shL_1 ⟨2, by omega⟩, shL_1 ⟨4, by omega⟩, shL_1 ⟨6, by omega⟩⟩
theorem shR_a {a : Int} (ha : 0 ≤ a ∧ a < 2147483648) : shR a 0 = a ∧ shR a 8 = a / 256 ∧ shR a 16 = a / 65536 ∧ shR a 2 = a / 4 ∧ shR a 4 = a / 16 ∧ shR a 6 = a / 64 := by
  have e0 : shR a 0 = a / 1 := shR_v ha ⟨0, by omega⟩
  have e1 : shR a 8 = a / 256 := shR_v ha ⟨8, by omega⟩
  have e2 : shR a 16 = a / 65536 := shR_v ha ⟨16, by omega⟩
  have e3 : shR a 2 = a / 4 := shR_v ha ⟨2, by omega⟩
  have e4 : shR a 4 = a / 16 := shR_v ha ⟨4, by omega⟩
  have e5 : shR a 6 = a / 64 := shR_v ha ⟨6, by omega⟩
  exact ⟨by omega, e1, e2, e3, e4, e5⟩
theorem ct_add (T : Int → Int) {p : Int} (hp : 0 ≤ p ∧ p < 3) : ctI T + shL 1 (8 * p) = ctI (iU T p (T p + 1)) := by
  obtain ⟨s0, s1, s2, -⟩ := shL_a
  have a0 := iU_0 T p (T p + 1) 0
  have a1 := iU_0 T p (T p + 1) 1
  have a2 := iU_0 T p (T p + 1) 2
  unfold ctI
  by_cases q0 : p = 0
  · rw [q0] at a0 a1 a2 ⊢
    rw [show (8 : Int) * 0 = 0 by omega, s0]
    omega
  · by_cases q1 : p = 1
    · rw [q1] at a0 a1 a2 ⊢
      rw [show (8 : Int) * 1 = 8 by omega, s1]
      omega
    · have q2 : p = 2 := by omega
      rw [q2] at a0 a1 a2 ⊢
      rw [show (8 : Int) * 2 = 16 by omega, s2]
      omega
theorem ct_get {T : Int → Int} (hT : ∀ x, 0 ≤ T x ∧ T x ≤ 200) {p : Int} (hp : 0 ≤ p ∧ p < 3) : anI (shR (ctI T) (8 * p)) 255 = T p := by
  have h0 := hT 0
  have h1 := hT 1
  have h2 := hT 2
  have hb : 0 ≤ ctI T ∧ ctI T < 2147483648 := by unfold ctI; omega
  obtain ⟨s0, s1, s2, -⟩ := shR_a hb
  rw [anI_255]
  by_cases q0 : p = 0
  · rw [q0, show (8 : Int) * 0 = 0 by omega, s0]
    unfold ctI
    omega
  · by_cases q1 : p = 1
    · rw [q1, show (8 : Int) * 1 = 8 by omega, s1]
      unfold ctI
      omega
    · rw [show p = 2 by omega, show (8 : Int) * 2 = 16 by omega, s2]
      unfold ctI
      omega
theorem jp_get {d : Int → Int} (hd : ∀ x, 0 ≤ x → x < 4 → 0 ≤ d x ∧ d x ≤ 3) {e : Int} (he : 0 ≤ e ∧ e < 4) : anI (shR (jpI d) (2 * e)) 3 = d e := by
  have h0 := hd 0 (by omega) (by omega)
  have h1 := hd 1 (by omega) (by omega)
  have h2 := hd 2 (by omega) (by omega)
  have h3 := hd 3 (by omega) (by omega)
  have hb : 0 ≤ jpI d ∧ jpI d < 2147483648 := by unfold jpI; omega
  obtain ⟨s0, -, -, s1, s2, s3⟩ := shR_a hb
  rw [anI_3]
  by_cases q0 : e = 0
  · rw [q0, show (2 : Int) * 0 = 0 by omega, s0]
    unfold jpI
    omega
  · by_cases q1 : e = 1
    · rw [q1, show (2 : Int) * 1 = 2 by omega, s1]
      unfold jpI
      omega
    · by_cases q2 : e = 2
      · rw [q2, show (2 : Int) * 2 = 4 by omega, s2]
        unfold jpI
        omega
      · rw [show e = 3 by omega, show (2 : Int) * 3 = 6 by omega, s3]
        unfold jpI
        omega
theorem jp_add (d : Int → Int) {e : Int} (he : 0 ≤ e ∧ e < 4) : jpI d + shL 1 (2 * e) = jpI (iU d e (d e + 1)) := by
  obtain ⟨s0, -, -, s1, s2, s3⟩ := shL_a
  have a0 := iU_0 d e (d e + 1) 0
  have a1 := iU_0 d e (d e + 1) 1
  have a2 := iU_0 d e (d e + 1) 2
  have a3 := iU_0 d e (d e + 1) 3
  unfold jpI
  by_cases q0 : e = 0
  · rw [q0] at a0 a1 a2 a3 ⊢
    rw [show (2 : Int) * 0 = 0 by omega, s0]
    omega
  · by_cases q1 : e = 1
    · rw [q1] at a0 a1 a2 a3 ⊢
      rw [show (2 : Int) * 1 = 2 by omega, s1]
      omega
    · by_cases q2 : e = 2
      · rw [q2] at a0 a1 a2 a3 ⊢
        rw [show (2 : Int) * 2 = 4 by omega, s2]
        omega
      · have q3 : e = 3 := by omega
        rw [q3] at a0 a1 a2 a3 ⊢
        rw [show (2 : Int) * 3 = 6 by omega, s3]
        omega
def lyG (m : Nat → Int → Int) (s q k : Int) (g : Int → Int) : Prop := q + k ≤ 64 → ∀ i, 0 ≤ i → i < k → g (q + i) = 2 * bP m s i + fB m s i
def lyH (q : Int) (g ft : Int → Int) : Prop := ∀ x, 0 ≤ x → x < q → x < 63 → g x = ft x
theorem lyG_s {m : Nat → Int → Int} {s q k v : Int} {g : Int → Int} (h : lyG m s q k g) (hv : v = 2 * bP m s k + fB m s k) : lyG m s q (k + 1) (iU g (q + k) v) := by
  intro h1 i h2 h3
  by_cases e : i = k
  · rw [e, iU_s, hv]
  · rw [iU_n g v (show q + i ≠ q + k by omega)]
    exact h (by omega) i h2 (by omega)
theorem lyG_x {m : Nat → Int → Int} {s q k : Int} (h : 63 < q + k) (g : Int → Int) : lyG m s q (k + 1) g := fun h1 => absurd h1 (by omega)
theorem lyH_s {q i : Int} {g ft : Int → Int} (h : lyH q g ft) (hi : q ≤ i ∨ i = 63) (v : Int) : lyH q (iU g i v) ft := fun x h1 h2 h3 => (iU_n g v (show x ≠ i by omega)).trans (h x h1 h2 h3)
theorem lvD_bd {T d : Int → Int} {e : Int} (he : 0 ≤ e ∧ e < 4) (hT : T e ≤ 3) (hd : ∀ x, 0 ≤ x → x < 4 → 0 ≤ d x ∧ d x ≤ 3) : ∀ x, 0 ≤ x → x < 4 → 0 ≤ lvD T d e x ∧ lvD T d e x ≤ 3 := by
  intro x h1 h2
  unfold lvD
  by_cases q : T e ≤ d e
  · rw [if_pos q]; exact hd x h1 h2
  · rw [if_neg q]
    have a := iU_0 d e (d e + 1) x
    have b := hd x h1 h2
    have c := hd e he.1 he.2
    omega

set_option maxHeartbeats 4000000 in
set_option maxRecDepth 100000 in
theorem k_lays (l : Launch) (D : va_G) (cI cZ cJ : ClassId) (o : Nat → Nat) (κ : Nat → Int → Int) (ν : Nat → Int → Int) (s q : Int) (t : Nat) (ft : Int → Int) (hI : IP (vw ν)) (hS : SDs (vw ν) s) (hs : 0 ≤ s ∧ s < 3) (hq : 0 ≤ q ∧ q ≤ 192) (hLN : LN ν κ) (hP6 : ∀ k, 0 ≤ k → k < 3 → κ 4 (3 + k) = ν 6 k) : Ke l D (tY cI cZ cJ) yL_lays wsL_lays rmL_lays [.int (iI s), .int (iI q), .ref t, .ref (o 6), .ref (o 7), .ref (o 4)] (WLlay cI o t κ ft) (fun (z : Int) (g : Int → Int) => z = lBs (vw ν) s ∧ lyG (vw ν) s q (lBs (vw ν) s) g ∧ lyH q g ft) (fun g => WLlay cI o t κ g) := by
  obtain ⟨hn9, -⟩ := id (hLN s hs.1 hs.2)
  refine ke_of (by decide +kernel) rfl (Nat.le_of_ble_eq_true rfl) ?_
  intro zp ze zs zm zargs zbelow zmeth zc A Q ls M hA w hl kret
  have hl : lv_has ls 14 [(0, .int (iI s)), (1, .int (iI q)), (2, .ref t), (3, .ref (o 6)), (4, .ref (o 7)), (5, .ref (o 4))] := hl
  refine q_ic M dL_lays_0 ?_
  refine q_is (lv' := [(6, .int (iI 0)), (0, .int (iI s)), (1, .int (iI q)), (2, .ref t), (3, .ref (o 6)), (4, .ref (o 7)), (5, .ref (o 4))]) M dL_lays_1 hl (by decide) rfl (fun ls hl => ?_)
  refine q_ic M dL_lays_3 ?_
  refine q_is (lv' := [(7, .int (iI 0)), (6, .int (iI 0)), (0, .int (iI s)), (1, .int (iI q)), (2, .ref t), (3, .ref (o 6)), (4, .ref (o 7)), (5, .ref (o 4))]) M dL_lays_4 hl (by decide) rfl (fun ls hl => ?_)
  refine q_ic M dL_lays_6 ?_
  refine q_is (lv' := [(8, .int (iI 0)), (7, .int (iI 0)), (6, .int (iI 0)), (0, .int (iI s)), (1, .int (iI q)), (2, .ref t), (3, .ref (o 6)), (4, .ref (o 7)), (5, .ref (o 4))]) M dL_lays_7 hl (by decide) rfl (fun ls hl => ?_)
  refine q_ic M dL_lays_9 ?_
  refine q_is (lv' := [(9, .int (iI 0)), (8, .int (iI 0)), (7, .int (iI 0)), (6, .int (iI 0)), (0, .int (iI s)), (1, .int (iI q)), (2, .ref t), (3, .ref (o 6)), (4, .ref (o 7)), (5, .ref (o 4))]) M dL_lays_10 hl (by decide) rfl (fun ls hl => ?_)
  have lp12 : ∀ (n12 : Nat) (k : Int) (e : Int) (jps : Int) (cts : Int) (g : Int → Int), (0 ≤ k ∧ k ≤ 64) → (lsOK (ν 9 s) (sP (vw ν) s) (sR (vw ν) s) (sG (vw ν) s) (sT (vw ν) s) k) → (k = 64 ∨ (ly (vw ν) s k).2.1 = 0) → (e = eE (vw ν) s k) → (0 ≤ e ∧ e ≤ ν 9 s) → (∀ x, 0 ≤ x → x < 4 → 0 ≤ dnE (vw ν) s k x ∧ dnE (vw ν) s k x ≤ 3) → (jps = jpI (dnE (vw ν) s k)) → (cts = ctI (ly (vw ν) s k).2.2.2) → (lyG (vw ν) s q k g) → (lyH q g ft) → (64 - k : Int) < (n12 : Int) → ∀ (H : Heap) (locs : List Loc) (ls : Array Slot), wW D A zs.heap (WLlay cI o t κ g) H locs → lv_has ls 14 [(0, .int (iI s)), (1, .int (iI q)), (2, .ref t), (3, .ref (o 6)), (4, .ref (o 7)), (5, .ref (o 4)), (6, .int (iI k)), (7, .int (iI e)), (8, .int (iI jps)), (9, .int (iI cts))] → W zp l ze rmL_lays zs zm zargs zbelow zmeth zc H locs 0 0 Q (F0 zm 12 ls []) := by
    intro n12
    induction n12 with
    | zero => intro k e jps cts g hk hok0 hr he hE hd hjp hct hg1 hg2 hm H locs ls w hl; exfalso; omega
    | succ n12 ih12 =>
      intro k e jps cts g hk hok0 hr he hE hd hjp hct hg1 hg2 hm12 H locs ls w hl
      refine q_il M dL_lays_12 (lv_at hl 7 rfl) ?_
      refine q_al M dL_lays_14 (lv_at hl 4 rfl) ?_
      refine q_iln M dL_lays_16 (lv_at hl 0 rfl) ?_
      refine q_iald (f := κ 7) M w 2 0 rfl rfl (by omega) dL_lays_17 ?_
      refine q_top (y := ν 9 s) (by exact (hLN s hs.1 hs.2).1.1) ?_
      refine q_icmp_ge (tgt := 223) M dL_lays_18 (by decide) (by omega) (fun c18 => ?_) (fun c18 => ?_)
      · have hx : k = 64 ∨ ν 9 s ≤ (ly (vw ν) s k).1 := by
          rcases hr with z | z
          · exact Or.inl z
          · have z2 : eE (vw ν) s k = (ly (vw ν) s k).1 := if_pos z
            omega
        have eB : lBs (vw ν) s = k := lB_of hk hok0.2.2.2.2 hx
        refine q_il M dL_lays_223 (lv_at hl 6 rfl) ?_
        exact kret _ _ _ _ _ g dL_lays_225 w (⟨eB.symm, by rw [eB]; exact hg1, hg2⟩)
      · refine q_il M dL_lays_21 (lv_at hl 6 rfl) ?_
        refine q_bp M dL_lays_23 (by decide +kernel) ?_
        refine q_icmp_ge (tgt := 223) M dL_lays_25 (by decide) (by omega) (fun c25 => ?_) (fun c25 => ?_)
        · have hx : k = 64 ∨ ν 9 s ≤ (ly (vw ν) s k).1 := Or.inl (by omega)
          have eB : lBs (vw ν) s = k := lB_of hk hok0.2.2.2.2 hx
          refine q_il M dL_lays_223 (lv_at hl 6 rfl) ?_
          exact kret _ _ _ _ _ g dL_lays_225 w (⟨eB.symm, by rw [eB]; exact hg1, hg2⟩)
        · have hr2 : (ly (vw ν) s k).2.1 = 0 := by omega
          have he1 : (ly (vw ν) s k).1 = e := by rw [he]; exact (if_pos hr2).symm
          have hdk : dnE (vw ν) s k = (ly (vw ν) s k).2.2.1 := if_pos hr2
          obtain ⟨-, hent⟩ := hLN s hs.1 hs.2
          obtain ⟨n1, n2, n3, n4⟩ := hent e hE.1 (by omega)
          obtain ⟨q1, q2, q3, q4⟩ := hS.2 e hE.1 (by show e < ν 9 s; omega)
          have q2 : 1 ≤ ν 11 (s * 8 + e) ∧ ν 11 (s * 8 + e) ≤ 4 := q2
          have q3 : 0 ≤ ν 13 (s * 8 + e) ∧ ν 13 (s * 8 + e) ≤ 3 := q3
          have q4 : 0 < ν 13 (s * 8 + e) → 0 ≤ ν 12 (s * 8 + e) ∧ ν 12 (s * 8 + e) < ν 9 s := q4
          rw [hdk] at hd
          have hde := hd e (by omega) (by omega)
          refine q_bp M dL_lays_28 (by decide +kernel) ?_
          refine q_iln M dL_lays_30 (lv_at hl 0 rfl) ?_
          refine q_mul M dL_lays_31 ?_
          refine q_ic M dL_lays_32 ?_
          refine q_il M dL_lays_33 (lv_at hl 7 rfl) ?_
          refine q_mul M dL_lays_35 ?_
          refine q_add M dL_lays_36 ?_
          refine q_is (lv' := [(10, .int (iI ((16 * s) + (4 * e)))), (0, .int (iI s)), (1, .int (iI q)), (2, .ref t), (3, .ref (o 6)), (4, .ref (o 7)), (5, .ref (o 4)), (6, .int (iI k)), (7, .int (iI e)), (8, .int (iI jps)), (9, .int (iI cts))]) M dL_lays_37 hl (by decide) rfl (fun ls hl => ?_)
          refine q_ic M dL_lays_39 ?_
          refine q_is (lv' := [(11, .int (iI 0)), (10, .int (iI ((16 * s) + (4 * e)))), (0, .int (iI s)), (1, .int (iI q)), (2, .ref t), (3, .ref (o 6)), (4, .ref (o 7)), (5, .ref (o 4)), (6, .int (iI k)), (7, .int (iI e)), (8, .int (iI jps)), (9, .int (iI cts))]) M dL_lays_40 hl (by decide) rfl (fun ls hl => ?_)
          have lp42 : ∀ (n42 : Nat) (j : Int) (n : Int) (cts2 : Int) (g2 : Int → Int), (0 ≤ j ∧ j ≤ 64) → (0 ≤ n ∧ n ≤ ν 11 (s * 8 + e)) → (j = k + n) → (lsOK (ν 9 s) (sP (vw ν) s) (sR (vw ν) s) (sG (vw ν) s) (sT (vw ν) s) j) → ((n < ν 11 (s * 8 + e) → (ly (vw ν) s j).1 = e ∧ (ly (vw ν) s j).2.1 = n ∧ (ly (vw ν) s j).2.2.1 = (ly (vw ν) s k).2.2.1) ∧ (n = ν 11 (s * 8 + e) → (ly (vw ν) s j).1 = lvE (sT (vw ν) s) (sG (vw ν) s) (ly (vw ν) s k).2.2.1 e ∧ (ly (vw ν) s j).2.1 = 0 ∧ (ly (vw ν) s j).2.2.1 = lvD (sT (vw ν) s) (ly (vw ν) s k).2.2.1 e)) → (cts2 = ctI (ly (vw ν) s j).2.2.2) → (lyG (vw ν) s q j g2) → (lyH q g2 ft) → (64 - j : Int) < (n42 : Int) → ∀ (H : Heap) (locs : List Loc) (ls : Array Slot), wW D A zs.heap (WLlay cI o t κ g2) H locs → lv_has ls 14 [(0, .int (iI s)), (1, .int (iI q)), (2, .ref t), (3, .ref (o 6)), (4, .ref (o 7)), (5, .ref (o 4)), (6, .int (iI j)), (7, .int (iI e)), (8, .int (iI jps)), (9, .int (iI cts2)), (10, .int (iI (16 * s + 4 * e))), (11, .int (iI n))] → W zp l ze rmL_lays zs zm zargs zbelow zmeth zc H locs 0 0 Q (F0 zm 42 ls []) := by
            intro n42
            induction n42 with
            | zero => intro j n cts2 g2 hj hn hjn hok hi hc2 hg3 hg4 hm H locs ls w hl; exfalso; omega
            | succ n42 ih42 =>
              intro j n cts2 g2 hj hn hjn hok hi hc2 hg3 hg4 hm42 H locs ls w hl
              refine q_il M dL_lays_42 (lv_at hl 11 rfl) ?_
              refine q_aln M dL_lays_44 (lv_at hl 3 rfl) ?_
              refine q_il M dL_lays_45 (lv_at hl 10 rfl) ?_
              refine q_ic M dL_lays_47 ?_
              refine q_add M dL_lays_48 ?_
              refine q_iald (f := κ 6) M w 1 0 rfl rfl (by omega) dL_lays_49 ?_
              refine q_top (y := ν 11 (s * 8 + e)) (by exact n2) ?_
              refine q_icmp_ge (tgt := 155) M dL_lays_50 (by decide) (by omega) (fun c50 => ?_) (fun c50 => ?_)
              · have hkn : 0 < n ∧ n ≤ ν 11 (s * 8 + e) := by omega
                have g3 := leave_E (m := (vw ν)) (s := s) (k := k) (j := j) (n := n) (R := ν 11 (s * 8 + e)) (by rw [he1]; exact hi) hkn
                rw [he1] at g3
                refine q_il M dL_lays_155 (lv_at hl 8 rfl) ?_
                refine q_ic M dL_lays_157 ?_
                refine q_il M dL_lays_158 (lv_at hl 7 rfl) ?_
                refine q_mul M dL_lays_160 ?_
                refine q_shr M dL_lays_161 ?_
                refine q_ic M dL_lays_162 ?_
                refine q_and M dL_lays_163 ?_
                refine q_top (y := (ly (vw ν) s k).2.2.1 e) (by rw [hjp, hdk]; exact jp_get hd (by omega)) ?_
                refine q_aln M dL_lays_164 (lv_at hl 3 rfl) ?_
                refine q_il M dL_lays_165 (lv_at hl 10 rfl) ?_
                refine q_ic M dL_lays_167 ?_
                refine q_add M dL_lays_168 ?_
                refine q_iald (f := κ 6) M w 1 0 rfl rfl (by omega) dL_lays_169 ?_
                refine q_top (y := ν 13 (s * 8 + e)) (by exact n3) ?_
                refine q_icmp_ge (tgt := 177) M dL_lays_170 (by decide) (by omega) (fun c170 => ?_) (fun c170 => ?_)
                · refine q_ic M dL_lays_177 ?_
                  refine q_is (lv' := [(11, .int (iI 0)), (0, .int (iI s)), (1, .int (iI q)), (2, .ref t), (3, .ref (o 6)), (4, .ref (o 7)), (5, .ref (o 4)), (6, .int (iI j)), (7, .int (iI e)), (8, .int (iI jps)), (9, .int (iI cts2)), (10, .int (iI (16 * s + 4 * e)))]) M dL_lays_178 hl (by decide) rfl (fun ls hl => ?_)
                  refine q_il M dL_lays_180 (lv_at hl 9 rfl) ?_
                  refine q_il M dL_lays_182 (lv_at hl 0 rfl) ?_
                  refine q_if_eq (tgt := 196) M dL_lays_184 (by decide) (by omega) (fun c184 => ?_) (fun c184 => ?_)
                  · refine q_ic M dL_lays_196 ?_
                    refine q_add M dL_lays_197 ?_
                    refine q_is (lv' := [(8, .int (iI (jps + 0))), (11, .int (iI 0)), (0, .int (iI s)), (1, .int (iI q)), (2, .ref t), (3, .ref (o 6)), (4, .ref (o 7)), (5, .ref (o 4)), (6, .int (iI j)), (7, .int (iI e)), (9, .int (iI cts2)), (10, .int (iI (16 * s + 4 * e)))]) M dL_lays_198 hl (by decide) rfl (fun ls hl => ?_)
                    refine q_il M dL_lays_200 (lv_at hl 1 rfl) ?_
                    refine q_if_eq (tgt := 214) M dL_lays_202 (by decide) (by omega) (fun c202 => ?_) (fun c202 => ?_)
                    · refine q_il M dL_lays_214 (lv_at hl 9 rfl) ?_
                      refine q_ic M dL_lays_216 ?_
                      refine q_add M dL_lays_217 ?_
                      refine q_is (lv' := [(7, .int (iI (e + 1))), (8, .int (iI (jps + 0))), (11, .int (iI 0)), (0, .int (iI s)), (1, .int (iI q)), (2, .ref t), (3, .ref (o 6)), (4, .ref (o 7)), (5, .ref (o 4)), (6, .int (iI j)), (9, .int (iI cts2)), (10, .int (iI (16 * s + 4 * e)))]) M dL_lays_218 hl (by decide) rfl (fun ls hl => ?_)
                      have g1 : lvE (sT (vw ν) s) (sG (vw ν) s) (ly (vw ν) s k).2.2.1 e = e + 1 := if_pos (show (ν 13 (s * 8 + e) ≤ (ly (vw ν) s k).2.2.1 e) by omega)
                      have g2d : lvD (sT (vw ν) s) (ly (vw ν) s k).2.2.1 e = (ly (vw ν) s k).2.2.1 := if_pos (show (ν 13 (s * 8 + e) ≤ (ly (vw ν) s k).2.2.1 e) by omega)
                      have hE2 := lvE_bd hS (e := e) ⟨by omega, by show _ < ν 9 s; omega⟩ (d := (ly (vw ν) s k).2.2.1) (hd e (by omega) (by omega)).1
                      rw [g1] at hE2
                      have he2 : e + 1 = eE (vw ν) s j := by rw [g3.1, g1]
                      have hd2 : ∀ x, 0 ≤ x → x < 4 → 0 ≤ dnE (vw ν) s j x ∧ dnE (vw ν) s j x ≤ 3 := by rw [g3.2]; exact lvD_bd (by omega) (by show ν 13 (s * 8 + e) ≤ 3; omega) hd
                      have hjp2 : jps + 0 = jpI (dnE (vw ν) s j) := by rw [g3.2, g2d, hjp, hdk]; exact Int.add_zero _
                      refine q_go (tgt := 12) M dL_lays_220 (by decide) ?_
                      exact ih12 j (e + 1) (jps + 0) cts2 g2 (by omega) hok ((Int.lt_or_eq_of_le hkn.2).elim (fun z => Or.inl (by omega)) (fun z => Or.inr (hi.2 z).2.1)) he2 hE2 hd2 hjp2 hc2 hg3 hg4 (by omega) _ _ _ w (lv_sub hl [3, 4, 5, 6, 7, 8, 9, 0, 1, 10] rfl)
                    · exfalso; omega
                  · exfalso; omega
                · refine q_ic M dL_lays_173 ?_
                  refine q_go (tgt := 178) M dL_lays_174 (by decide) ?_
                  refine q_is (lv' := [(11, .int (iI 1)), (0, .int (iI s)), (1, .int (iI q)), (2, .ref t), (3, .ref (o 6)), (4, .ref (o 7)), (5, .ref (o 4)), (6, .int (iI j)), (7, .int (iI e)), (8, .int (iI jps)), (9, .int (iI cts2)), (10, .int (iI (16 * s + 4 * e)))]) M dL_lays_178 hl (by decide) rfl (fun ls hl => ?_)
                  refine q_il M dL_lays_180 (lv_at hl 9 rfl) ?_
                  refine q_il M dL_lays_182 (lv_at hl 0 rfl) ?_
                  refine q_if_eq (tgt := 196) M dL_lays_184 (by decide) (by omega) (fun c184 => ?_) (fun c184 => ?_)
                  · exfalso; omega
                  · refine q_ic M dL_lays_187 ?_
                    refine q_ic M dL_lays_188 ?_
                    refine q_il M dL_lays_189 (lv_at hl 8 rfl) ?_
                    refine q_mul M dL_lays_191 ?_
                    refine q_shl M dL_lays_192 ?_
                    refine q_go (tgt := 197) M dL_lays_193 (by decide) ?_
                    refine q_add M dL_lays_197 ?_
                    refine q_is (lv' := [(8, .int (iI (jps + (shL 1 (2 * e))))), (11, .int (iI 1)), (0, .int (iI s)), (1, .int (iI q)), (2, .ref t), (3, .ref (o 6)), (4, .ref (o 7)), (5, .ref (o 4)), (6, .int (iI j)), (7, .int (iI e)), (9, .int (iI cts2)), (10, .int (iI (16 * s + 4 * e)))]) M dL_lays_198 hl (by decide) rfl (fun ls hl => ?_)
                    refine q_il M dL_lays_200 (lv_at hl 1 rfl) ?_
                    refine q_if_eq (tgt := 214) M dL_lays_202 (by decide) (by omega) (fun c202 => ?_) (fun c202 => ?_)
                    · exfalso; omega
                    · refine q_aln M dL_lays_205 (lv_at hl 5 rfl) ?_
                      refine q_il M dL_lays_206 (lv_at hl 11 rfl) ?_
                      refine q_ic M dL_lays_208 ?_
                      refine q_add M dL_lays_209 ?_
                      refine q_iald (f := κ 6) M w 1 0 rfl rfl (by omega) dL_lays_210 ?_
                      refine q_top (y := ν 12 (s * 8 + e)) (by exact n4 (by omega)) ?_
                      refine q_go (tgt := 218) M dL_lays_211 (by decide) ?_
                      refine q_is (lv' := [(7, .int (iI (ν 12 (s * 8 + e)))), (8, .int (iI (jps + (shL 1 (2 * e))))), (11, .int (iI 1)), (0, .int (iI s)), (1, .int (iI q)), (2, .ref t), (3, .ref (o 6)), (4, .ref (o 7)), (5, .ref (o 4)), (6, .int (iI j)), (9, .int (iI cts2)), (10, .int (iI (16 * s + 4 * e)))]) M dL_lays_218 hl (by decide) rfl (fun ls hl => ?_)
                      have g1 : lvE (sT (vw ν) s) (sG (vw ν) s) (ly (vw ν) s k).2.2.1 e = ν 12 (s * 8 + e) := if_neg (show ¬ (ν 13 (s * 8 + e) ≤ (ly (vw ν) s k).2.2.1 e) by omega)
                      have g2d : lvD (sT (vw ν) s) (ly (vw ν) s k).2.2.1 e = iU (ly (vw ν) s k).2.2.1 e ((ly (vw ν) s k).2.2.1 e + 1) := if_neg (show ¬ (ν 13 (s * 8 + e) ≤ (ly (vw ν) s k).2.2.1 e) by omega)
                      have hE2 := lvE_bd hS (e := e) ⟨by omega, by show _ < ν 9 s; omega⟩ (d := (ly (vw ν) s k).2.2.1) (hd e (by omega) (by omega)).1
                      rw [g1] at hE2
                      have he2 : ν 12 (s * 8 + e) = eE (vw ν) s j := by rw [g3.1, g1]
                      have hd2 : ∀ x, 0 ≤ x → x < 4 → 0 ≤ dnE (vw ν) s j x ∧ dnE (vw ν) s j x ≤ 3 := by rw [g3.2]; exact lvD_bd (by omega) (by show ν 13 (s * 8 + e) ≤ 3; omega) hd
                      have hjp2 : jps + (shL 1 (2 * e)) = jpI (dnE (vw ν) s j) := by rw [g3.2, g2d, hjp, hdk]; exact jp_add _ (by omega)
                      refine q_go (tgt := 12) M dL_lays_220 (by decide) ?_
                      exact ih12 j (ν 12 (s * 8 + e)) (jps + (shL 1 (2 * e))) cts2 g2 (by omega) hok ((Int.lt_or_eq_of_le hkn.2).elim (fun z => Or.inl (by omega)) (fun z => Or.inr (hi.2 z).2.1)) he2 hE2 hd2 hjp2 hc2 hg3 hg4 (by omega) _ _ _ w (lv_sub hl [3, 4, 5, 6, 7, 8, 9, 0, 1, 10] rfl)
              · refine q_il M dL_lays_53 (lv_at hl 6 rfl) ?_
                refine q_bp M dL_lays_55 (by decide +kernel) ?_
                refine q_icmp_ge (tgt := 155) M dL_lays_57 (by decide) (by omega) (fun c57 => ?_) (fun c57 => ?_)
                · have hkn : 0 < n ∧ n ≤ ν 11 (s * 8 + e) := by omega
                  have g3 := leave_E (m := (vw ν)) (s := s) (k := k) (j := j) (n := n) (R := ν 11 (s * 8 + e)) (by rw [he1]; exact hi) hkn
                  rw [he1] at g3
                  refine q_il M dL_lays_155 (lv_at hl 8 rfl) ?_
                  refine q_ic M dL_lays_157 ?_
                  refine q_il M dL_lays_158 (lv_at hl 7 rfl) ?_
                  refine q_mul M dL_lays_160 ?_
                  refine q_shr M dL_lays_161 ?_
                  refine q_ic M dL_lays_162 ?_
                  refine q_and M dL_lays_163 ?_
                  refine q_top (y := (ly (vw ν) s k).2.2.1 e) (by rw [hjp, hdk]; exact jp_get hd (by omega)) ?_
                  refine q_aln M dL_lays_164 (lv_at hl 3 rfl) ?_
                  refine q_il M dL_lays_165 (lv_at hl 10 rfl) ?_
                  refine q_ic M dL_lays_167 ?_
                  refine q_add M dL_lays_168 ?_
                  refine q_iald (f := κ 6) M w 1 0 rfl rfl (by omega) dL_lays_169 ?_
                  refine q_top (y := ν 13 (s * 8 + e)) (by exact n3) ?_
                  refine q_icmp_ge (tgt := 177) M dL_lays_170 (by decide) (by omega) (fun c170 => ?_) (fun c170 => ?_)
                  · refine q_ic M dL_lays_177 ?_
                    refine q_is (lv' := [(11, .int (iI 0)), (0, .int (iI s)), (1, .int (iI q)), (2, .ref t), (3, .ref (o 6)), (4, .ref (o 7)), (5, .ref (o 4)), (6, .int (iI j)), (7, .int (iI e)), (8, .int (iI jps)), (9, .int (iI cts2)), (10, .int (iI (16 * s + 4 * e)))]) M dL_lays_178 hl (by decide) rfl (fun ls hl => ?_)
                    refine q_il M dL_lays_180 (lv_at hl 9 rfl) ?_
                    refine q_il M dL_lays_182 (lv_at hl 0 rfl) ?_
                    refine q_if_eq (tgt := 196) M dL_lays_184 (by decide) (by omega) (fun c184 => ?_) (fun c184 => ?_)
                    · refine q_ic M dL_lays_196 ?_
                      refine q_add M dL_lays_197 ?_
                      refine q_is (lv' := [(8, .int (iI (jps + 0))), (11, .int (iI 0)), (0, .int (iI s)), (1, .int (iI q)), (2, .ref t), (3, .ref (o 6)), (4, .ref (o 7)), (5, .ref (o 4)), (6, .int (iI j)), (7, .int (iI e)), (9, .int (iI cts2)), (10, .int (iI (16 * s + 4 * e)))]) M dL_lays_198 hl (by decide) rfl (fun ls hl => ?_)
                      refine q_il M dL_lays_200 (lv_at hl 1 rfl) ?_
                      refine q_if_eq (tgt := 214) M dL_lays_202 (by decide) (by omega) (fun c202 => ?_) (fun c202 => ?_)
                      · refine q_il M dL_lays_214 (lv_at hl 9 rfl) ?_
                        refine q_ic M dL_lays_216 ?_
                        refine q_add M dL_lays_217 ?_
                        refine q_is (lv' := [(7, .int (iI (e + 1))), (8, .int (iI (jps + 0))), (11, .int (iI 0)), (0, .int (iI s)), (1, .int (iI q)), (2, .ref t), (3, .ref (o 6)), (4, .ref (o 7)), (5, .ref (o 4)), (6, .int (iI j)), (9, .int (iI cts2)), (10, .int (iI (16 * s + 4 * e)))]) M dL_lays_218 hl (by decide) rfl (fun ls hl => ?_)
                        have g1 : lvE (sT (vw ν) s) (sG (vw ν) s) (ly (vw ν) s k).2.2.1 e = e + 1 := if_pos (show (ν 13 (s * 8 + e) ≤ (ly (vw ν) s k).2.2.1 e) by omega)
                        have g2d : lvD (sT (vw ν) s) (ly (vw ν) s k).2.2.1 e = (ly (vw ν) s k).2.2.1 := if_pos (show (ν 13 (s * 8 + e) ≤ (ly (vw ν) s k).2.2.1 e) by omega)
                        have hE2 := lvE_bd hS (e := e) ⟨by omega, by show _ < ν 9 s; omega⟩ (d := (ly (vw ν) s k).2.2.1) (hd e (by omega) (by omega)).1
                        rw [g1] at hE2
                        have he2 : e + 1 = eE (vw ν) s j := by rw [g3.1, g1]
                        have hd2 : ∀ x, 0 ≤ x → x < 4 → 0 ≤ dnE (vw ν) s j x ∧ dnE (vw ν) s j x ≤ 3 := by rw [g3.2]; exact lvD_bd (by omega) (by show ν 13 (s * 8 + e) ≤ 3; omega) hd
                        have hjp2 : jps + 0 = jpI (dnE (vw ν) s j) := by rw [g3.2, g2d, hjp, hdk]; exact Int.add_zero _
                        refine q_go (tgt := 12) M dL_lays_220 (by decide) ?_
                        exact ih12 j (e + 1) (jps + 0) cts2 g2 (by omega) hok ((Int.lt_or_eq_of_le hkn.2).elim (fun z => Or.inl (by omega)) (fun z => Or.inr (hi.2 z).2.1)) he2 hE2 hd2 hjp2 hc2 hg3 hg4 (by omega) _ _ _ w (lv_sub hl [3, 4, 5, 6, 7, 8, 9, 0, 1, 10] rfl)
                      · exfalso; omega
                    · exfalso; omega
                  · refine q_ic M dL_lays_173 ?_
                    refine q_go (tgt := 178) M dL_lays_174 (by decide) ?_
                    refine q_is (lv' := [(11, .int (iI 1)), (0, .int (iI s)), (1, .int (iI q)), (2, .ref t), (3, .ref (o 6)), (4, .ref (o 7)), (5, .ref (o 4)), (6, .int (iI j)), (7, .int (iI e)), (8, .int (iI jps)), (9, .int (iI cts2)), (10, .int (iI (16 * s + 4 * e)))]) M dL_lays_178 hl (by decide) rfl (fun ls hl => ?_)
                    refine q_il M dL_lays_180 (lv_at hl 9 rfl) ?_
                    refine q_il M dL_lays_182 (lv_at hl 0 rfl) ?_
                    refine q_if_eq (tgt := 196) M dL_lays_184 (by decide) (by omega) (fun c184 => ?_) (fun c184 => ?_)
                    · exfalso; omega
                    · refine q_ic M dL_lays_187 ?_
                      refine q_ic M dL_lays_188 ?_
                      refine q_il M dL_lays_189 (lv_at hl 8 rfl) ?_
                      refine q_mul M dL_lays_191 ?_
                      refine q_shl M dL_lays_192 ?_
                      refine q_go (tgt := 197) M dL_lays_193 (by decide) ?_
                      refine q_add M dL_lays_197 ?_
                      refine q_is (lv' := [(8, .int (iI (jps + (shL 1 (2 * e))))), (11, .int (iI 1)), (0, .int (iI s)), (1, .int (iI q)), (2, .ref t), (3, .ref (o 6)), (4, .ref (o 7)), (5, .ref (o 4)), (6, .int (iI j)), (7, .int (iI e)), (9, .int (iI cts2)), (10, .int (iI (16 * s + 4 * e)))]) M dL_lays_198 hl (by decide) rfl (fun ls hl => ?_)
                      refine q_il M dL_lays_200 (lv_at hl 1 rfl) ?_
                      refine q_if_eq (tgt := 214) M dL_lays_202 (by decide) (by omega) (fun c202 => ?_) (fun c202 => ?_)
                      · exfalso; omega
                      · refine q_aln M dL_lays_205 (lv_at hl 5 rfl) ?_
                        refine q_il M dL_lays_206 (lv_at hl 11 rfl) ?_
                        refine q_ic M dL_lays_208 ?_
                        refine q_add M dL_lays_209 ?_
                        refine q_iald (f := κ 6) M w 1 0 rfl rfl (by omega) dL_lays_210 ?_
                        refine q_top (y := ν 12 (s * 8 + e)) (by exact n4 (by omega)) ?_
                        refine q_go (tgt := 218) M dL_lays_211 (by decide) ?_
                        refine q_is (lv' := [(7, .int (iI (ν 12 (s * 8 + e)))), (8, .int (iI (jps + (shL 1 (2 * e))))), (11, .int (iI 1)), (0, .int (iI s)), (1, .int (iI q)), (2, .ref t), (3, .ref (o 6)), (4, .ref (o 7)), (5, .ref (o 4)), (6, .int (iI j)), (9, .int (iI cts2)), (10, .int (iI (16 * s + 4 * e)))]) M dL_lays_218 hl (by decide) rfl (fun ls hl => ?_)
                        have g1 : lvE (sT (vw ν) s) (sG (vw ν) s) (ly (vw ν) s k).2.2.1 e = ν 12 (s * 8 + e) := if_neg (show ¬ (ν 13 (s * 8 + e) ≤ (ly (vw ν) s k).2.2.1 e) by omega)
                        have g2d : lvD (sT (vw ν) s) (ly (vw ν) s k).2.2.1 e = iU (ly (vw ν) s k).2.2.1 e ((ly (vw ν) s k).2.2.1 e + 1) := if_neg (show ¬ (ν 13 (s * 8 + e) ≤ (ly (vw ν) s k).2.2.1 e) by omega)
                        have hE2 := lvE_bd hS (e := e) ⟨by omega, by show _ < ν 9 s; omega⟩ (d := (ly (vw ν) s k).2.2.1) (hd e (by omega) (by omega)).1
                        rw [g1] at hE2
                        have he2 : ν 12 (s * 8 + e) = eE (vw ν) s j := by rw [g3.1, g1]
                        have hd2 : ∀ x, 0 ≤ x → x < 4 → 0 ≤ dnE (vw ν) s j x ∧ dnE (vw ν) s j x ≤ 3 := by rw [g3.2]; exact lvD_bd (by omega) (by show ν 13 (s * 8 + e) ≤ 3; omega) hd
                        have hjp2 : jps + (shL 1 (2 * e)) = jpI (dnE (vw ν) s j) := by rw [g3.2, g2d, hjp, hdk]; exact jp_add _ (by omega)
                        refine q_go (tgt := 12) M dL_lays_220 (by decide) ?_
                        exact ih12 j (ν 12 (s * 8 + e)) (jps + (shL 1 (2 * e))) cts2 g2 (by omega) hok ((Int.lt_or_eq_of_le hkn.2).elim (fun z => Or.inl (by omega)) (fun z => Or.inr (hi.2 z).2.1)) he2 hE2 hd2 hjp2 hc2 hg3 hg4 (by omega) _ _ _ w (lv_sub hl [3, 4, 5, 6, 7, 8, 9, 0, 1, 10] rfl)
                · obtain ⟨a1, a2, a3⟩ := hi.1 (by omega)
                  have ep : bP (vw ν) s j = ν 10 (s * 8 + e) := by show ν 10 (s * 8 + (ly (vw ν) s j).1) = _; rw [a1]
                  have ec := ly_turn (vw ν) s hj.1
                  rw [ep] at ec
                  have hok2 := lsOK_s hS hj.1 hok (show (ly (vw ν) s j).1 < ν 9 s by omega)
                  have q9 : ∀ x, 0 ≤ (ly (vw ν) s (j + 1)).2.2.2 x ∧ (ly (vw ν) s (j + 1)).2.2.2 x ≤ 200 := fun x => ⟨(hok2.2.2.2.1 x).1, Int.le_trans (hok2.2.2.2.1 x).2 (show j + 1 ≤ 200 by omega)⟩
                  have q9p := q9 (ν 10 (s * 8 + e))
                  have q6 : 0 ≤ ν 6 (ν 10 (s * 8 + e)) ∧ ν 6 (ν 10 (s * 8 + e)) ≤ 8 := hI.2.2.2.1 _
                  have eb : bT (vw ν) s j = (ly (vw ν) s (j + 1)).2.2.2 (ν 10 (s * 8 + e)) := by unfold bT; rw [ep, ec, iU_s]
                  refine q_il M dL_lays_60 (lv_at hl 9 rfl) ?_
                  refine q_ic M dL_lays_62 ?_
                  refine q_bp M dL_lays_63 (by decide +kernel) ?_
                  refine q_aln M dL_lays_65 (lv_at hl 3 rfl) ?_
                  refine q_il M dL_lays_66 (lv_at hl 10 rfl) ?_
                  refine q_iald (f := κ 6) M w 1 0 rfl rfl (by omega) dL_lays_68 ?_
                  refine q_top (y := ν 10 (s * 8 + e)) (by exact n1.1) ?_
                  refine q_mul M dL_lays_69 ?_
                  refine q_shl M dL_lays_70 ?_
                  refine q_add M dL_lays_71 ?_
                  refine q_top (y := ctI (ly (vw ν) s (j + 1)).2.2.2) (by rw [hc2, ec]; exact ct_add _ n1.2) ?_
                  refine q_is (lv' := [(9, .int (iI (ctI (ly (vw ν) s (j + 1)).2.2.2))), (0, .int (iI s)), (1, .int (iI q)), (2, .ref t), (3, .ref (o 6)), (4, .ref (o 7)), (5, .ref (o 4)), (6, .int (iI j)), (7, .int (iI e)), (8, .int (iI jps)), (10, .int (iI (16 * s + 4 * e))), (11, .int (iI n))]) M dL_lays_72 hl (by decide) rfl (fun ls hl => ?_)
                  refine q_al M dL_lays_74 (lv_at hl 6 rfl) ?_
                  refine q_ic M dL_lays_76 ?_
                  refine q_aln M dL_lays_77 (lv_at hl 4 rfl) ?_
                  refine q_il M dL_lays_78 (lv_at hl 10 rfl) ?_
                  refine q_iald (f := κ 6) M w 1 0 rfl rfl (by omega) dL_lays_80 ?_
                  refine q_top (y := ν 10 (s * 8 + e)) (by exact n1.1) ?_
                  refine q_add M dL_lays_81 ?_
                  refine q_iald (f := κ 4) M w 0 0 rfl rfl (by omega) dL_lays_82 ?_
                  refine q_top (y := ν 6 (ν 10 (s * 8 + e))) (by exact hP6 _ n1.2.1 n1.2.2) ?_
                  refine q_is (lv' := [(12, .int (iI (ν 6 (ν 10 (s * 8 + e))))), (9, .int (iI (ctI (ly (vw ν) s (j + 1)).2.2.2))), (0, .int (iI s)), (1, .int (iI q)), (2, .ref t), (3, .ref (o 6)), (4, .ref (o 7)), (5, .ref (o 4)), (6, .int (iI j)), (7, .int (iI e)), (8, .int (iI jps)), (10, .int (iI (16 * s + 4 * e))), (11, .int (iI n))]) M dL_lays_83 hl (by decide) rfl (fun ls hl => ?_)
                  refine q_il M dL_lays_85 (lv_at hl 0 rfl) ?_
                  refine q_if_le (tgt := 114) M dL_lays_87 (by decide) (by omega) (fun c87 => ?_) (fun c87 => ?_)
                  · refine q_ic M dL_lays_114 ?_
                    refine q_is (lv' := [(13, .int (iI 0)), (12, .int (iI (ν 6 (ν 10 (s * 8 + e))))), (9, .int (iI (ctI (ly (vw ν) s (j + 1)).2.2.2))), (0, .int (iI s)), (1, .int (iI q)), (2, .ref t), (3, .ref (o 6)), (4, .ref (o 7)), (5, .ref (o 4)), (6, .int (iI j)), (7, .int (iI e)), (8, .int (iI jps)), (10, .int (iI (16 * s + 4 * e))), (11, .int (iI n))]) M dL_lays_115 hl (by decide) rfl (fun ls hl => ?_)
                    have ef : fB (vw ν) s j = 0 := by unfold fB; rw [ep, eb]; exact if_neg (fun z => by have z1 : 0 < ν 6 _ := z.1; have z2 : _ % ν 6 _ = 0 := z.2; omega)
                    refine q_aln M dL_lays_117 (lv_at hl 5 rfl) ?_
                    refine q_iln M dL_lays_118 (lv_at hl 4 rfl) ?_
                    refine q_il M dL_lays_119 (lv_at hl 9 rfl) ?_
                    refine q_add M dL_lays_121 ?_
                    refine q_bp M dL_lays_122 (by decide +kernel) ?_
                    refine q_icmp_le (tgt := 132) M dL_lays_124 (by decide) (by omega) (fun c124 => ?_) (fun c124 => ?_)
                    · refine q_iln M dL_lays_132 (lv_at hl 4 rfl) ?_
                      refine q_il M dL_lays_133 (lv_at hl 9 rfl) ?_
                      refine q_add M dL_lays_135 ?_
                      refine q_ic M dL_lays_136 ?_
                      refine q_aln M dL_lays_137 (lv_at hl 6 rfl) ?_
                      refine q_il M dL_lays_138 (lv_at hl 12 rfl) ?_
                      refine q_iald (f := κ 6) M w 1 0 rfl rfl (by omega) dL_lays_140 ?_
                      refine q_top (y := ν 10 (s * 8 + e)) (by exact n1.1) ?_
                      refine q_mul M dL_lays_141 ?_
                      refine q_il M dL_lays_142 (lv_at hl 0 rfl) ?_
                      refine q_add M dL_lays_144 ?_
                      refine q_iast (f := g2) (ws2 := WLlay cI o t κ (iU g2 (q + j) ((2 * (ν 10 (s * 8 + e))) + 0))) M w 3 0 rfl rfl (by omega) rfl dL_lays_145 (fun H locs w => ?_)
                      refine q_inc (z := j) (lv' := [(6, .int (iI (j + 1))), (13, .int (iI 0)), (12, .int (iI (ν 6 (ν 10 (s * 8 + e))))), (9, .int (iI (ctI (ly (vw ν) s (j + 1)).2.2.2))), (0, .int (iI s)), (1, .int (iI q)), (2, .ref t), (3, .ref (o 6)), (4, .ref (o 7)), (5, .ref (o 4)), (7, .int (iI e)), (8, .int (iI jps)), (10, .int (iI (16 * s + 4 * e))), (11, .int (iI n))]) M dL_lays_146 hl (k := 9) rfl (by decide) rfl (fun ls hl => ?_)
                      refine q_inc (z := n) (lv' := [(11, .int (iI (n + 1))), (6, .int (iI (j + 1))), (13, .int (iI 0)), (12, .int (iI (ν 6 (ν 10 (s * 8 + e))))), (9, .int (iI (ctI (ly (vw ν) s (j + 1)).2.2.2))), (0, .int (iI s)), (1, .int (iI q)), (2, .ref t), (3, .ref (o 6)), (4, .ref (o 7)), (5, .ref (o 4)), (7, .int (iI e)), (8, .int (iI jps)), (10, .int (iI (16 * s + 4 * e)))]) M dL_lays_149 hl (k := 13) rfl (by decide) rfl (fun ls hl => ?_)
                      refine q_go (tgt := 42) M dL_lays_152 (by decide) ?_
                      have hx := ly_next (vw ν) s hj.1
                      have hx1 : ν 11 (s * 8 + (ly (vw ν) s j).1) ≤ (ly (vw ν) s j).2.1 + 1 → _ := hx.1
                      have hx2 : ¬ ν 11 (s * 8 + (ly (vw ν) s j).1) ≤ (ly (vw ν) s j).2.1 + 1 → _ := hx.2
                      rw [a1, a2, a3] at hx1 hx2
                      exact ih42 (j + 1) (n + 1) _ _ (by omega) (by omega) (by omega) hok2 ⟨fun z => hx2 (by omega), fun z => hx1 (by omega)⟩ rfl (lyG_s hg3 (by rw [ep, ef])) (lyH_s hg4 (Or.inl (by omega)) _) (by omega) _ _ _ w (lv_sub hl [5, 6, 7, 8, 9, 10, 1, 11, 12, 4, 13, 0] rfl)
                    · refine q_bp M dL_lays_127 (by decide +kernel) ?_
                      refine q_go (tgt := 136) M dL_lays_129 (by decide) ?_
                      refine q_ic M dL_lays_136 ?_
                      refine q_aln M dL_lays_137 (lv_at hl 6 rfl) ?_
                      refine q_il M dL_lays_138 (lv_at hl 12 rfl) ?_
                      refine q_iald (f := κ 6) M w 1 0 rfl rfl (by omega) dL_lays_140 ?_
                      refine q_top (y := ν 10 (s * 8 + e)) (by exact n1.1) ?_
                      refine q_mul M dL_lays_141 ?_
                      refine q_il M dL_lays_142 (lv_at hl 0 rfl) ?_
                      refine q_add M dL_lays_144 ?_
                      refine q_iast (f := g2) (ws2 := WLlay cI o t κ (iU g2 63 ((2 * (ν 10 (s * 8 + e))) + 0))) M w 3 0 rfl rfl (by omega) rfl dL_lays_145 (fun H locs w => ?_)
                      refine q_inc (z := j) (lv' := [(6, .int (iI (j + 1))), (13, .int (iI 0)), (12, .int (iI (ν 6 (ν 10 (s * 8 + e))))), (9, .int (iI (ctI (ly (vw ν) s (j + 1)).2.2.2))), (0, .int (iI s)), (1, .int (iI q)), (2, .ref t), (3, .ref (o 6)), (4, .ref (o 7)), (5, .ref (o 4)), (7, .int (iI e)), (8, .int (iI jps)), (10, .int (iI (16 * s + 4 * e))), (11, .int (iI n))]) M dL_lays_146 hl (k := 9) rfl (by decide) rfl (fun ls hl => ?_)
                      refine q_inc (z := n) (lv' := [(11, .int (iI (n + 1))), (6, .int (iI (j + 1))), (13, .int (iI 0)), (12, .int (iI (ν 6 (ν 10 (s * 8 + e))))), (9, .int (iI (ctI (ly (vw ν) s (j + 1)).2.2.2))), (0, .int (iI s)), (1, .int (iI q)), (2, .ref t), (3, .ref (o 6)), (4, .ref (o 7)), (5, .ref (o 4)), (7, .int (iI e)), (8, .int (iI jps)), (10, .int (iI (16 * s + 4 * e)))]) M dL_lays_149 hl (k := 13) rfl (by decide) rfl (fun ls hl => ?_)
                      refine q_go (tgt := 42) M dL_lays_152 (by decide) ?_
                      have hx := ly_next (vw ν) s hj.1
                      have hx1 : ν 11 (s * 8 + (ly (vw ν) s j).1) ≤ (ly (vw ν) s j).2.1 + 1 → _ := hx.1
                      have hx2 : ¬ ν 11 (s * 8 + (ly (vw ν) s j).1) ≤ (ly (vw ν) s j).2.1 + 1 → _ := hx.2
                      rw [a1, a2, a3] at hx1 hx2
                      exact ih42 (j + 1) (n + 1) _ _ (by omega) (by omega) (by omega) hok2 ⟨fun z => hx2 (by omega), fun z => hx1 (by omega)⟩ rfl (lyG_x (by omega) _) (lyH_s hg4 (Or.inr rfl) _) (by omega) _ _ _ w (lv_sub hl [5, 6, 7, 8, 9, 10, 1, 11, 12, 4, 13, 0] rfl)
                  · refine q_il M dL_lays_90 (lv_at hl 1 rfl) ?_
                    refine q_bp M dL_lays_92 (by decide +kernel) ?_
                    refine q_aln M dL_lays_94 (lv_at hl 5 rfl) ?_
                    refine q_il M dL_lays_95 (lv_at hl 11 rfl) ?_
                    refine q_iald (f := κ 6) M w 1 0 rfl rfl (by omega) dL_lays_97 ?_
                    refine q_top (y := ν 10 (s * 8 + e)) (by exact n1.1) ?_
                    refine q_mul M dL_lays_98 ?_
                    refine q_shr M dL_lays_99 ?_
                    refine q_sp M dL_lays_100 (by decide +kernel) ?_
                    refine q_and M dL_lays_103 ?_
                    refine q_top (y := (ly (vw ν) s (j + 1)).2.2.2 (ν 10 (s * 8 + e))) (by exact ct_get q9 n1.2) ?_
                    refine q_il M dL_lays_104 (lv_at hl 0 rfl) ?_
                    have qr := Int.emod_nonneg ((ly (vw ν) s (j + 1)).2.2.2 (ν 10 (s * 8 + e))) (show ν 6 (ν 10 (s * 8 + e)) ≠ 0 by omega)
                    have qs := Int.emod_lt_of_pos ((ly (vw ν) s (j + 1)).2.2.2 (ν 10 (s * 8 + e))) (show 0 < ν 6 (ν 10 (s * 8 + e)) by omega)
                    refine q_rem M dL_lays_106 (by omega) ?_
                    refine q_if_ne (tgt := 114) M dL_lays_107 (by decide) (by omega) (fun c107 => ?_) (fun c107 => ?_)
                    · refine q_ic M dL_lays_114 ?_
                      refine q_is (lv' := [(13, .int (iI 0)), (12, .int (iI (ν 6 (ν 10 (s * 8 + e))))), (9, .int (iI (ctI (ly (vw ν) s (j + 1)).2.2.2))), (0, .int (iI s)), (1, .int (iI q)), (2, .ref t), (3, .ref (o 6)), (4, .ref (o 7)), (5, .ref (o 4)), (6, .int (iI j)), (7, .int (iI e)), (8, .int (iI jps)), (10, .int (iI (16 * s + 4 * e))), (11, .int (iI n))]) M dL_lays_115 hl (by decide) rfl (fun ls hl => ?_)
                      have ef : fB (vw ν) s j = 0 := by unfold fB; rw [ep, eb]; exact if_neg (fun z => by have z1 : 0 < ν 6 _ := z.1; have z2 : _ % ν 6 _ = 0 := z.2; omega)
                      refine q_aln M dL_lays_117 (lv_at hl 5 rfl) ?_
                      refine q_iln M dL_lays_118 (lv_at hl 4 rfl) ?_
                      refine q_il M dL_lays_119 (lv_at hl 9 rfl) ?_
                      refine q_add M dL_lays_121 ?_
                      refine q_bp M dL_lays_122 (by decide +kernel) ?_
                      refine q_icmp_le (tgt := 132) M dL_lays_124 (by decide) (by omega) (fun c124 => ?_) (fun c124 => ?_)
                      · refine q_iln M dL_lays_132 (lv_at hl 4 rfl) ?_
                        refine q_il M dL_lays_133 (lv_at hl 9 rfl) ?_
                        refine q_add M dL_lays_135 ?_
                        refine q_ic M dL_lays_136 ?_
                        refine q_aln M dL_lays_137 (lv_at hl 6 rfl) ?_
                        refine q_il M dL_lays_138 (lv_at hl 12 rfl) ?_
                        refine q_iald (f := κ 6) M w 1 0 rfl rfl (by omega) dL_lays_140 ?_
                        refine q_top (y := ν 10 (s * 8 + e)) (by exact n1.1) ?_
                        refine q_mul M dL_lays_141 ?_
                        refine q_il M dL_lays_142 (lv_at hl 0 rfl) ?_
                        refine q_add M dL_lays_144 ?_
                        refine q_iast (f := g2) (ws2 := WLlay cI o t κ (iU g2 (q + j) ((2 * (ν 10 (s * 8 + e))) + 0))) M w 3 0 rfl rfl (by omega) rfl dL_lays_145 (fun H locs w => ?_)
                        refine q_inc (z := j) (lv' := [(6, .int (iI (j + 1))), (13, .int (iI 0)), (12, .int (iI (ν 6 (ν 10 (s * 8 + e))))), (9, .int (iI (ctI (ly (vw ν) s (j + 1)).2.2.2))), (0, .int (iI s)), (1, .int (iI q)), (2, .ref t), (3, .ref (o 6)), (4, .ref (o 7)), (5, .ref (o 4)), (7, .int (iI e)), (8, .int (iI jps)), (10, .int (iI (16 * s + 4 * e))), (11, .int (iI n))]) M dL_lays_146 hl (k := 9) rfl (by decide) rfl (fun ls hl => ?_)
                        refine q_inc (z := n) (lv' := [(11, .int (iI (n + 1))), (6, .int (iI (j + 1))), (13, .int (iI 0)), (12, .int (iI (ν 6 (ν 10 (s * 8 + e))))), (9, .int (iI (ctI (ly (vw ν) s (j + 1)).2.2.2))), (0, .int (iI s)), (1, .int (iI q)), (2, .ref t), (3, .ref (o 6)), (4, .ref (o 7)), (5, .ref (o 4)), (7, .int (iI e)), (8, .int (iI jps)), (10, .int (iI (16 * s + 4 * e)))]) M dL_lays_149 hl (k := 13) rfl (by decide) rfl (fun ls hl => ?_)
                        refine q_go (tgt := 42) M dL_lays_152 (by decide) ?_
                        have hx := ly_next (vw ν) s hj.1
                        have hx1 : ν 11 (s * 8 + (ly (vw ν) s j).1) ≤ (ly (vw ν) s j).2.1 + 1 → _ := hx.1
                        have hx2 : ¬ ν 11 (s * 8 + (ly (vw ν) s j).1) ≤ (ly (vw ν) s j).2.1 + 1 → _ := hx.2
                        rw [a1, a2, a3] at hx1 hx2
                        exact ih42 (j + 1) (n + 1) _ _ (by omega) (by omega) (by omega) hok2 ⟨fun z => hx2 (by omega), fun z => hx1 (by omega)⟩ rfl (lyG_s hg3 (by rw [ep, ef])) (lyH_s hg4 (Or.inl (by omega)) _) (by omega) _ _ _ w (lv_sub hl [5, 6, 7, 8, 9, 10, 1, 11, 12, 4, 13, 0] rfl)
                      · refine q_bp M dL_lays_127 (by decide +kernel) ?_
                        refine q_go (tgt := 136) M dL_lays_129 (by decide) ?_
                        refine q_ic M dL_lays_136 ?_
                        refine q_aln M dL_lays_137 (lv_at hl 6 rfl) ?_
                        refine q_il M dL_lays_138 (lv_at hl 12 rfl) ?_
                        refine q_iald (f := κ 6) M w 1 0 rfl rfl (by omega) dL_lays_140 ?_
                        refine q_top (y := ν 10 (s * 8 + e)) (by exact n1.1) ?_
                        refine q_mul M dL_lays_141 ?_
                        refine q_il M dL_lays_142 (lv_at hl 0 rfl) ?_
                        refine q_add M dL_lays_144 ?_
                        refine q_iast (f := g2) (ws2 := WLlay cI o t κ (iU g2 63 ((2 * (ν 10 (s * 8 + e))) + 0))) M w 3 0 rfl rfl (by omega) rfl dL_lays_145 (fun H locs w => ?_)
                        refine q_inc (z := j) (lv' := [(6, .int (iI (j + 1))), (13, .int (iI 0)), (12, .int (iI (ν 6 (ν 10 (s * 8 + e))))), (9, .int (iI (ctI (ly (vw ν) s (j + 1)).2.2.2))), (0, .int (iI s)), (1, .int (iI q)), (2, .ref t), (3, .ref (o 6)), (4, .ref (o 7)), (5, .ref (o 4)), (7, .int (iI e)), (8, .int (iI jps)), (10, .int (iI (16 * s + 4 * e))), (11, .int (iI n))]) M dL_lays_146 hl (k := 9) rfl (by decide) rfl (fun ls hl => ?_)
                        refine q_inc (z := n) (lv' := [(11, .int (iI (n + 1))), (6, .int (iI (j + 1))), (13, .int (iI 0)), (12, .int (iI (ν 6 (ν 10 (s * 8 + e))))), (9, .int (iI (ctI (ly (vw ν) s (j + 1)).2.2.2))), (0, .int (iI s)), (1, .int (iI q)), (2, .ref t), (3, .ref (o 6)), (4, .ref (o 7)), (5, .ref (o 4)), (7, .int (iI e)), (8, .int (iI jps)), (10, .int (iI (16 * s + 4 * e)))]) M dL_lays_149 hl (k := 13) rfl (by decide) rfl (fun ls hl => ?_)
                        refine q_go (tgt := 42) M dL_lays_152 (by decide) ?_
                        have hx := ly_next (vw ν) s hj.1
                        have hx1 : ν 11 (s * 8 + (ly (vw ν) s j).1) ≤ (ly (vw ν) s j).2.1 + 1 → _ := hx.1
                        have hx2 : ¬ ν 11 (s * 8 + (ly (vw ν) s j).1) ≤ (ly (vw ν) s j).2.1 + 1 → _ := hx.2
                        rw [a1, a2, a3] at hx1 hx2
                        exact ih42 (j + 1) (n + 1) _ _ (by omega) (by omega) (by omega) hok2 ⟨fun z => hx2 (by omega), fun z => hx1 (by omega)⟩ rfl (lyG_x (by omega) _) (lyH_s hg4 (Or.inr rfl) _) (by omega) _ _ _ w (lv_sub hl [5, 6, 7, 8, 9, 10, 1, 11, 12, 4, 13, 0] rfl)
                    · refine q_ic M dL_lays_110 ?_
                      refine q_go (tgt := 115) M dL_lays_111 (by decide) ?_
                      refine q_is (lv' := [(13, .int (iI 1)), (12, .int (iI (ν 6 (ν 10 (s * 8 + e))))), (9, .int (iI (ctI (ly (vw ν) s (j + 1)).2.2.2))), (0, .int (iI s)), (1, .int (iI q)), (2, .ref t), (3, .ref (o 6)), (4, .ref (o 7)), (5, .ref (o 4)), (6, .int (iI j)), (7, .int (iI e)), (8, .int (iI jps)), (10, .int (iI (16 * s + 4 * e))), (11, .int (iI n))]) M dL_lays_115 hl (by decide) rfl (fun ls hl => ?_)
                      have ef : fB (vw ν) s j = 1 := by unfold fB; rw [ep, eb]; exact if_pos ⟨by show 0 < ν 6 _; omega, by show _ % ν 6 _ = 0; omega⟩
                      refine q_aln M dL_lays_117 (lv_at hl 5 rfl) ?_
                      refine q_iln M dL_lays_118 (lv_at hl 4 rfl) ?_
                      refine q_il M dL_lays_119 (lv_at hl 9 rfl) ?_
                      refine q_add M dL_lays_121 ?_
                      refine q_bp M dL_lays_122 (by decide +kernel) ?_
                      refine q_icmp_le (tgt := 132) M dL_lays_124 (by decide) (by omega) (fun c124 => ?_) (fun c124 => ?_)
                      · refine q_iln M dL_lays_132 (lv_at hl 4 rfl) ?_
                        refine q_il M dL_lays_133 (lv_at hl 9 rfl) ?_
                        refine q_add M dL_lays_135 ?_
                        refine q_ic M dL_lays_136 ?_
                        refine q_aln M dL_lays_137 (lv_at hl 6 rfl) ?_
                        refine q_il M dL_lays_138 (lv_at hl 12 rfl) ?_
                        refine q_iald (f := κ 6) M w 1 0 rfl rfl (by omega) dL_lays_140 ?_
                        refine q_top (y := ν 10 (s * 8 + e)) (by exact n1.1) ?_
                        refine q_mul M dL_lays_141 ?_
                        refine q_il M dL_lays_142 (lv_at hl 0 rfl) ?_
                        refine q_add M dL_lays_144 ?_
                        refine q_iast (f := g2) (ws2 := WLlay cI o t κ (iU g2 (q + j) ((2 * (ν 10 (s * 8 + e))) + 1))) M w 3 0 rfl rfl (by omega) rfl dL_lays_145 (fun H locs w => ?_)
                        refine q_inc (z := j) (lv' := [(6, .int (iI (j + 1))), (13, .int (iI 1)), (12, .int (iI (ν 6 (ν 10 (s * 8 + e))))), (9, .int (iI (ctI (ly (vw ν) s (j + 1)).2.2.2))), (0, .int (iI s)), (1, .int (iI q)), (2, .ref t), (3, .ref (o 6)), (4, .ref (o 7)), (5, .ref (o 4)), (7, .int (iI e)), (8, .int (iI jps)), (10, .int (iI (16 * s + 4 * e))), (11, .int (iI n))]) M dL_lays_146 hl (k := 9) rfl (by decide) rfl (fun ls hl => ?_)
                        refine q_inc (z := n) (lv' := [(11, .int (iI (n + 1))), (6, .int (iI (j + 1))), (13, .int (iI 1)), (12, .int (iI (ν 6 (ν 10 (s * 8 + e))))), (9, .int (iI (ctI (ly (vw ν) s (j + 1)).2.2.2))), (0, .int (iI s)), (1, .int (iI q)), (2, .ref t), (3, .ref (o 6)), (4, .ref (o 7)), (5, .ref (o 4)), (7, .int (iI e)), (8, .int (iI jps)), (10, .int (iI (16 * s + 4 * e)))]) M dL_lays_149 hl (k := 13) rfl (by decide) rfl (fun ls hl => ?_)
                        refine q_go (tgt := 42) M dL_lays_152 (by decide) ?_
                        have hx := ly_next (vw ν) s hj.1
                        have hx1 : ν 11 (s * 8 + (ly (vw ν) s j).1) ≤ (ly (vw ν) s j).2.1 + 1 → _ := hx.1
                        have hx2 : ¬ ν 11 (s * 8 + (ly (vw ν) s j).1) ≤ (ly (vw ν) s j).2.1 + 1 → _ := hx.2
                        rw [a1, a2, a3] at hx1 hx2
                        exact ih42 (j + 1) (n + 1) _ _ (by omega) (by omega) (by omega) hok2 ⟨fun z => hx2 (by omega), fun z => hx1 (by omega)⟩ rfl (lyG_s hg3 (by rw [ep, ef])) (lyH_s hg4 (Or.inl (by omega)) _) (by omega) _ _ _ w (lv_sub hl [5, 6, 7, 8, 9, 10, 1, 11, 12, 4, 13, 0] rfl)
                      · refine q_bp M dL_lays_127 (by decide +kernel) ?_
                        refine q_go (tgt := 136) M dL_lays_129 (by decide) ?_
                        refine q_ic M dL_lays_136 ?_
                        refine q_aln M dL_lays_137 (lv_at hl 6 rfl) ?_
                        refine q_il M dL_lays_138 (lv_at hl 12 rfl) ?_
                        refine q_iald (f := κ 6) M w 1 0 rfl rfl (by omega) dL_lays_140 ?_
                        refine q_top (y := ν 10 (s * 8 + e)) (by exact n1.1) ?_
                        refine q_mul M dL_lays_141 ?_
                        refine q_il M dL_lays_142 (lv_at hl 0 rfl) ?_
                        refine q_add M dL_lays_144 ?_
                        refine q_iast (f := g2) (ws2 := WLlay cI o t κ (iU g2 63 ((2 * (ν 10 (s * 8 + e))) + 1))) M w 3 0 rfl rfl (by omega) rfl dL_lays_145 (fun H locs w => ?_)
                        refine q_inc (z := j) (lv' := [(6, .int (iI (j + 1))), (13, .int (iI 1)), (12, .int (iI (ν 6 (ν 10 (s * 8 + e))))), (9, .int (iI (ctI (ly (vw ν) s (j + 1)).2.2.2))), (0, .int (iI s)), (1, .int (iI q)), (2, .ref t), (3, .ref (o 6)), (4, .ref (o 7)), (5, .ref (o 4)), (7, .int (iI e)), (8, .int (iI jps)), (10, .int (iI (16 * s + 4 * e))), (11, .int (iI n))]) M dL_lays_146 hl (k := 9) rfl (by decide) rfl (fun ls hl => ?_)
                        refine q_inc (z := n) (lv' := [(11, .int (iI (n + 1))), (6, .int (iI (j + 1))), (13, .int (iI 1)), (12, .int (iI (ν 6 (ν 10 (s * 8 + e))))), (9, .int (iI (ctI (ly (vw ν) s (j + 1)).2.2.2))), (0, .int (iI s)), (1, .int (iI q)), (2, .ref t), (3, .ref (o 6)), (4, .ref (o 7)), (5, .ref (o 4)), (7, .int (iI e)), (8, .int (iI jps)), (10, .int (iI (16 * s + 4 * e)))]) M dL_lays_149 hl (k := 13) rfl (by decide) rfl (fun ls hl => ?_)
                        refine q_go (tgt := 42) M dL_lays_152 (by decide) ?_
                        have hx := ly_next (vw ν) s hj.1
                        have hx1 : ν 11 (s * 8 + (ly (vw ν) s j).1) ≤ (ly (vw ν) s j).2.1 + 1 → _ := hx.1
                        have hx2 : ¬ ν 11 (s * 8 + (ly (vw ν) s j).1) ≤ (ly (vw ν) s j).2.1 + 1 → _ := hx.2
                        rw [a1, a2, a3] at hx1 hx2
                        exact ih42 (j + 1) (n + 1) _ _ (by omega) (by omega) (by omega) hok2 ⟨fun z => hx2 (by omega), fun z => hx1 (by omega)⟩ rfl (lyG_x (by omega) _) (lyH_s hg4 (Or.inr rfl) _) (by omega) _ _ _ w (lv_sub hl [5, 6, 7, 8, 9, 10, 1, 11, 12, 4, 13, 0] rfl)
          exact lp42 65 k 0 cts g (by omega) (by omega) (by omega) hok0 ⟨fun _ => ⟨he1, hr2, rfl⟩, fun z => by omega⟩ hct hg1 hg2 (by omega) _ _ _ w (lv_sub hl [2, 3, 4, 5, 6, 7, 8, 9, 10, 11, 1, 0] rfl)
  have e0 : ly (vw ν) s 0 = (0, 0, fun _ => 0, fun _ => 0) := lay_0 _ _ _ _
  have e1 : eE (vw ν) s 0 = 0 := by unfold eE; rw [e0]; rfl
  have e2 : dnE (vw ν) s 0 = fun _ => 0 := by unfold dnE; rw [e0]; rfl
  exact lp12 65 0 0 0 0 ft (by omega) (lsOK_0 hS) (Or.inr (by rw [e0])) e1.symm (by omega) (by rw [e2]; intro x h1 h2; exact ⟨Int.le_refl 0, by show (0 : Int) ≤ 3; omega⟩) (by rw [e2]; rfl) (by rw [e0]; rfl) (fun h1 i h2 h3 => absurd h3 (by omega)) (fun _ _ _ _ => rfl) (by omega) _ _ _ w (lv_sub hl [4, 5, 6, 7, 8, 9, 3, 2, 1, 0] rfl)
