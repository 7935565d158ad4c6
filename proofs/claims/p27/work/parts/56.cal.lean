/-! CALLS: the class asked; -7 for what is not possible -/
theorem ql_of {l : Launch} {D : va_G} {tys : List (ClassId × FieldType)} {y : MethodName} {wds wds' : List Cond} {rm : Room} {av : List Value} {ws ws2 : va_W} {k : Int} {cc : ByteArray} {maxL : Nat} {hh : List (Nat × Nat × Nat × Nat)} (hy : plainName y.cls = true) (hw : wds = Cond.codeWith y cc maxL (some .int) hh :: wds') (hlen : (lg_sl av).length ≤ maxL)
    (body : ∀ (p : Program) (e : Env) (s : State) (m : MethodId) (args : Array Value) (below : List Frame) (meth : Method) (c : Code) (A : Nat → Prop) (Q : State → Prop) (ls : Array Slot), qM p m c cc maxL s args wds y.cls D tys → (∀ q : Nat, s.heap.size ≤ q → A q) → wW D A s.heap ws s.heap [] → lv_has ls maxL (lv_args 0 av) → qT A s s.heap → c.exceptionTable.toList = tableOf hh →
      (∀ (pc : Nat) (ls1 : Array Slot) (H1 : Heap) (locs1 : List Loc) (z1 : Int) (k9 n9 : Nat), k9 ≤ rm.cells → n9 ≤ rm.slots → decode cc pc = .ok (.ireturn, 1) → wW D A s.heap ws2 H1 locs1 → z1 = k → W p l e rm s m args below meth c H1 locs1 k9 n9 Q (F0 m pc ls1 [.int (iI z1)])) →
      W p l e rm s m args below meth c s.heap [] 0 0 Q (F0 m 0 ls [])) : Lc l D tys y wds rm av ws k ws2 := by
  intro sz
  refine va_MetW (hh := hh) (cc := cc) (maxL := maxL) (ret := some .int) hy hw ?_
  intro p e s m args below meth c s₁ B hml hv
  obtain ⟨rfl, ⟨hsz, hP, hK, hD0⟩, hT⟩ := hv
  have hlocks := B.notSynchronized
  subst hsz
  rw [lg_entry_eq]
  have hl := lv_entry av (n := maxL) hlen
  have hts := atoms_spec (ws := wds) B.pre
  refine body p e s m _ below meth c (va_A ws s.heap.size) _ _ ⟨⟨B.exec, B.bytes, hml, findClass_of_methodNamed B.named, hts⟩, hK⟩ (fun q h => Or.inr h) ⟨hP, hD0.self, va_S.rf⟩ hl hT (vx_table (x := y) B (hts _ (by rw [hw]; exact List.mem_cons_self))) ?_
  intro pc ls1 H1 locs1 z1 k9 n9 hk hn hdg w1 hz
  subst hz
  exact W.widen (k := rm.cells) (n := rm.slots) hk hn (W.iret B.exec B.bytes B.returns (fun t ht _ => ⟨⟨_, (), rfl, rfl, by show va_P D vwCl ws2 t.heap; rw [ht]; exact w1.1⟩, w1.2.2.F ht⟩) w1.2.2.2.2 hdg)

def CK (ex : Option String) (z k : Int) (μ μp μ2 : Nat → Int → Int) : Prop := (ex = none ∧ k = z ∧ μ2 = μp) ∨ (ex = some eISE ∧ k = -7 ∧ μ2 = μ)

set_option maxHeartbeats 4000000 in
set_option maxRecDepth 100000 in
theorem c_setSize (l : Launch) (hfl : l.stackTraces = false) (D : va_G) (cI cZ cJ : ClassId) (a : Nat → Nat) (μ : Nat → Int → Int) (s v : Int) (hs : -2147483648 ≤ s ∧ s < 2147483648) (hv : -2147483648 ≤ v ∧ v < 2147483648) (h23 : μ 23 0 = 0 ∨ μ 23 0 = 1) (y0 y1 : Int) (k : Int) (μ2 : Nat → Int → Int) (hk : CK (sq (chk (0 ≤ s ∧ s ≤ 7) eIOB) (sq (chk (1 ≤ v ∧ v ≤ 6) eIAE) (chk (μ 23 0 = 0) eISE))) (μ 0 s) k μ (mset μ 0 (iU (μ 0) s v)) μ2) : Lc l D (tY cI cZ cJ) yL_calls wsL_calls rmL_calls [.ref (a 0), .int (iI 0), .int (iI s), .int (iI v), .int (iI y0), .int (iI y1)] (WAll cI a μ) k (WAll cI a μ2) := by
  refine ql_of (by decide +kernel) rfl (Nat.le_of_ble_eq_true rfl) ?_
  intro zp ze zs zm zargs zbelow zmeth zc A Q ls M hA w hl hT htab kret
  have hl : lv_has ls 7 [(0, .ref (a 0)), (1, .int (iI 0)), (2, .int (iI s)), (3, .int (iI v)), (4, .int (iI y0)), (5, .int (iI y1))] := hl
  refine q_iln M dL_calls_0 (lv_at hl 1 rfl) ?_
  refine q_if_ne (tgt := 13) M dL_calls_1 (by decide) (by omega) (fun c1 => ?_) (fun c1 => ?_)
  · exfalso; omega
  refine q_aln M dL_calls_4 (lv_at hl 0 rfl) ?_
  refine q_iln M dL_calls_5 (lv_at hl 2 rfl) ?_
  refine q_iln M dL_calls_6 (lv_at hl 3 rfl) ?_
  refine qx_iV (As := [.int (iI s), .int (iI v)]) (rest := []) (wc := WAll cI a μ) (wc2 := WAll cI a (mset μ 0 (iU (μ 0) s v))) (ws2 := WAll cI a (mset μ 0 (iU (μ 0) s v))) M w hA hT hl (k_setSize l hfl D cI cZ cJ a μ s v hs hv h23) gL_calls_X6_setSize rfl ⟨by decide, by decide⟩ ⟨by decide, by decide⟩ 2 ⟨rfl, by decide +kernel⟩ rfl [true, true, true, true, true, true, true, true, true, true, true, true, true, true, true, true, true, true, true, true, true, true, true, true, true, true, true, true, true, true, true, true, true, true, true, true, true, true, true, true, true, true, true, true, true, true, true, true, true, true] rfl rfl 0 rfl rfl rfl (Nat.le_of_ble_eq_true rfl) rfl dL_calls_7 (fun E ce q9 H1 locs1 hE w h1 h2 h3 => ?_) (fun H locs hE w => ?_)
  · rcases hk with ⟨h0, -⟩ | ⟨h0, hk1, hm2⟩
    · rw [h0] at hE; cases hE
    · rw [h0] at hE
      cases hE
      refine vx_catch M.1.2.2.2.1 [] ⟨0, 157, 158, 50⟩ [] htab (fun z hz => nomatch hz) (by decide) (by decide) (M.1.2.2.2.2 (.classLink RL 50 eISE) (by decide +kernel)) (va_Nw.use rfl hT.2.2.2.1.2.2) h1 h2 h3 ?_
      refine q_as (lv' := [(6, .ref q9), (0, .ref (a 0)), (1, .int (iI 0)), (2, .int (iI s)), (3, .int (iI v)), (4, .int (iI y0)), (5, .int (iI y1))]) M dL_calls_158 hl (by decide) rfl (fun ls hl => ?_)
      refine q_bp M dL_calls_160 (by decide +kernel) ?_
      exact kret _ _ _ _ _ _ _ (by decide) (by decide) dL_calls_162 (by rw [hm2]; exact w) hk1.symm
  · rcases hk with ⟨-, hk1, hm2⟩ | ⟨h0, -⟩
    · refine q_go (tgt := 157) M dL_calls_10 (by decide) ?_
      exact kret _ _ _ _ _ _ _ (by decide) (by decide) dL_calls_157 (by rw [hm2]; exact w) hk1.symm
    · rw [h0] at hE; cases hE

set_option maxHeartbeats 4000000 in
set_option maxRecDepth 100000 in
theorem c_setStep (l : Launch) (hfl : l.stackTraces = false) (D : va_G) (cI cZ cJ : ClassId) (a : Nat → Nat) (μ : Nat → Int → Int) (p t s x : Int) (hp : -2147483648 ≤ p ∧ p < 2147483648) (ht : -2147483648 ≤ t ∧ t < 2147483648) (hs : -2147483648 ≤ s ∧ s < 2147483648) (hx : -2147483648 ≤ x ∧ x < 2147483648) (h23 : μ 23 0 = 0 ∨ μ 23 0 = 1)  (k : Int) (μ2 : Nat → Int → Int) (hk : CK (sq (chk (0 ≤ p ∧ p ≤ 11) eIOB) (sq (chk (0 ≤ t ∧ t ≤ 3) eIOB) (sq (chk (0 ≤ s ∧ s ≤ 15) eIOB) (sq (chk (-1 ≤ x ∧ x ≤ 7) eIOB) (chk (μ 23 0 = 0) eISE))))) (μ 2 ((p * 4 + t) * 16 + s)) k μ (mset μ 2 (iU (μ 2) ((p * 4 + t) * 16 + s) x)) μ2) : Lc l D (tY cI cZ cJ) yL_calls wsL_calls rmL_calls [.ref (a 0), .int (iI 1), .int (iI p), .int (iI t), .int (iI s), .int (iI x)] (WAll cI a μ) k (WAll cI a μ2) := by
  refine ql_of (by decide +kernel) rfl (Nat.le_of_ble_eq_true rfl) ?_
  intro zp ze zs zm zargs zbelow zmeth zc A Q ls M hA w hl hT htab kret
  have hl : lv_has ls 7 [(0, .ref (a 0)), (1, .int (iI 1)), (2, .int (iI p)), (3, .int (iI t)), (4, .int (iI s)), (5, .int (iI x))] := hl
  refine q_iln M dL_calls_0 (lv_at hl 1 rfl) ?_
  refine q_if_ne (tgt := 13) M dL_calls_1 (by decide) (by omega) (fun c1 => ?_) (fun c1 => ?_)
  rotate_left
  · exfalso; omega
  refine q_iln M dL_calls_13 (lv_at hl 1 rfl) ?_
  refine q_ic M dL_calls_14 ?_
  refine q_icmp_ne (tgt := 31) M dL_calls_15 (by decide) (by omega) (fun c15 => ?_) (fun c15 => ?_)
  · exfalso; omega
  refine q_aln M dL_calls_18 (lv_at hl 0 rfl) ?_
  refine q_iln M dL_calls_19 (lv_at hl 2 rfl) ?_
  refine q_iln M dL_calls_20 (lv_at hl 3 rfl) ?_
  refine q_il M dL_calls_21 (lv_at hl 4 rfl) ?_
  refine q_il M dL_calls_23 (lv_at hl 5 rfl) ?_
  refine qx_iV (As := [.int (iI p), .int (iI t), .int (iI s), .int (iI x)]) (rest := []) (wc := WAll cI a μ) (wc2 := WAll cI a (mset μ 2 (iU (μ 2) ((p * 4 + t) * 16 + s) x))) (ws2 := WAll cI a (mset μ 2 (iU (μ 2) ((p * 4 + t) * 16 + s) x))) M w hA hT hl (k_setStep l hfl D cI cZ cJ a μ p t s x hp ht hs hx h23) gL_calls_X6_setStep rfl ⟨by decide, by decide⟩ ⟨by decide, by decide⟩ 4 ⟨rfl, by decide +kernel⟩ rfl [true, true, true, true, true, true, true, true, true, true, true, true, true, true, true, true, true, true, true, true, true, true, true, true, true, true, true, true, true, true, true, true, true, true, true, true, true, true, true, true, true, true, true, true, true, true, true, true, true, true] rfl rfl 0 rfl rfl rfl (Nat.le_of_ble_eq_true rfl) rfl dL_calls_25 (fun E ce q9 H1 locs1 hE w h1 h2 h3 => ?_) (fun H locs hE w => ?_)
  · rcases hk with ⟨h0, -⟩ | ⟨h0, hk1, hm2⟩
    · rw [h0] at hE; cases hE
    · rw [h0] at hE
      cases hE
      refine vx_catch M.1.2.2.2.1 [] ⟨0, 157, 158, 50⟩ [] htab (fun z hz => nomatch hz) (by decide) (by decide) (M.1.2.2.2.2 (.classLink RL 50 eISE) (by decide +kernel)) (va_Nw.use rfl hT.2.2.2.1.2.2) h1 h2 h3 ?_
      refine q_as (lv' := [(6, .ref q9), (0, .ref (a 0)), (1, .int (iI 1)), (2, .int (iI p)), (3, .int (iI t)), (4, .int (iI s)), (5, .int (iI x))]) M dL_calls_158 hl (by decide) rfl (fun ls hl => ?_)
      refine q_bp M dL_calls_160 (by decide +kernel) ?_
      exact kret _ _ _ _ _ _ _ (by decide) (by decide) dL_calls_162 (by rw [hm2]; exact w) hk1.symm
  · rcases hk with ⟨-, hk1, hm2⟩ | ⟨h0, -⟩
    · refine q_go (tgt := 157) M dL_calls_28 (by decide) ?_
      exact kret _ _ _ _ _ _ _ (by decide) (by decide) dL_calls_157 (by rw [hm2]; exact w) hk1.symm
    · rw [h0] at hE; cases hE

set_option maxHeartbeats 4000000 in
set_option maxRecDepth 100000 in
theorem c_setFill (l : Launch) (hfl : l.stackTraces = false) (D : va_G) (cI cZ cJ : ClassId) (a : Nat → Nat) (μ : Nat → Int → Int) (p t s x : Int) (hp : -2147483648 ≤ p ∧ p < 2147483648) (ht : -2147483648 ≤ t ∧ t < 2147483648) (hs : -2147483648 ≤ s ∧ s < 2147483648) (hx : -2147483648 ≤ x ∧ x < 2147483648) (h23 : μ 23 0 = 0 ∨ μ 23 0 = 1)  (k : Int) (μ2 : Nat → Int → Int) (hk : CK (sq (chk (0 ≤ p ∧ p ≤ 11) eIOB) (sq (chk (0 ≤ t ∧ t ≤ 3) eIOB) (sq (chk (12 ≤ s ∧ s ≤ 15) eIOB) (sq (chk (-1 ≤ x ∧ x ≤ 7) eIOB) (chk (μ 23 0 = 0) eISE))))) (μ 3 ((p * 4 + t) * 4 + s - 12)) k μ (mset μ 3 (iU (μ 3) ((p * 4 + t) * 4 + s - 12) x)) μ2) : Lc l D (tY cI cZ cJ) yL_calls wsL_calls rmL_calls [.ref (a 0), .int (iI 2), .int (iI p), .int (iI t), .int (iI s), .int (iI x)] (WAll cI a μ) k (WAll cI a μ2) := by
  refine ql_of (by decide +kernel) rfl (Nat.le_of_ble_eq_true rfl) ?_
  intro zp ze zs zm zargs zbelow zmeth zc A Q ls M hA w hl hT htab kret
  have hl : lv_has ls 7 [(0, .ref (a 0)), (1, .int (iI 2)), (2, .int (iI p)), (3, .int (iI t)), (4, .int (iI s)), (5, .int (iI x))] := hl
  refine q_iln M dL_calls_0 (lv_at hl 1 rfl) ?_
  refine q_if_ne (tgt := 13) M dL_calls_1 (by decide) (by omega) (fun c1 => ?_) (fun c1 => ?_)
  rotate_left
  · exfalso; omega
  refine q_iln M dL_calls_13 (lv_at hl 1 rfl) ?_
  refine q_ic M dL_calls_14 ?_
  refine q_icmp_ne (tgt := 31) M dL_calls_15 (by decide) (by omega) (fun c15 => ?_) (fun c15 => ?_)
  rotate_left
  · exfalso; omega
  refine q_iln M dL_calls_31 (lv_at hl 1 rfl) ?_
  refine q_ic M dL_calls_32 ?_
  refine q_icmp_ne (tgt := 49) M dL_calls_33 (by decide) (by omega) (fun c33 => ?_) (fun c33 => ?_)
  · exfalso; omega
  refine q_aln M dL_calls_36 (lv_at hl 0 rfl) ?_
  refine q_iln M dL_calls_37 (lv_at hl 2 rfl) ?_
  refine q_iln M dL_calls_38 (lv_at hl 3 rfl) ?_
  refine q_il M dL_calls_39 (lv_at hl 4 rfl) ?_
  refine q_il M dL_calls_41 (lv_at hl 5 rfl) ?_
  refine qx_iV (As := [.int (iI p), .int (iI t), .int (iI s), .int (iI x)]) (rest := []) (wc := WAll cI a μ) (wc2 := WAll cI a (mset μ 3 (iU (μ 3) ((p * 4 + t) * 4 + s - 12) x))) (ws2 := WAll cI a (mset μ 3 (iU (μ 3) ((p * 4 + t) * 4 + s - 12) x))) M w hA hT hl (k_setFill l hfl D cI cZ cJ a μ p t s x hp ht hs hx h23) gL_calls_X6_setFill rfl ⟨by decide, by decide⟩ ⟨by decide, by decide⟩ 4 ⟨rfl, by decide +kernel⟩ rfl [true, true, true, true, true, true, true, true, true, true, true, true, true, true, true, true, true, true, true, true, true, true, true, true, true, true, true, true, true, true, true, true, true, true, true, true, true, true, true, true, true, true, true, true, true, true, true, true, true, true] rfl rfl 0 rfl rfl rfl (Nat.le_of_ble_eq_true rfl) rfl dL_calls_43 (fun E ce q9 H1 locs1 hE w h1 h2 h3 => ?_) (fun H locs hE w => ?_)
  · rcases hk with ⟨h0, -⟩ | ⟨h0, hk1, hm2⟩
    · rw [h0] at hE; cases hE
    · rw [h0] at hE
      cases hE
      refine vx_catch M.1.2.2.2.1 [] ⟨0, 157, 158, 50⟩ [] htab (fun z hz => nomatch hz) (by decide) (by decide) (M.1.2.2.2.2 (.classLink RL 50 eISE) (by decide +kernel)) (va_Nw.use rfl hT.2.2.2.1.2.2) h1 h2 h3 ?_
      refine q_as (lv' := [(6, .ref q9), (0, .ref (a 0)), (1, .int (iI 2)), (2, .int (iI p)), (3, .int (iI t)), (4, .int (iI s)), (5, .int (iI x))]) M dL_calls_158 hl (by decide) rfl (fun ls hl => ?_)
      refine q_bp M dL_calls_160 (by decide +kernel) ?_
      exact kret _ _ _ _ _ _ _ (by decide) (by decide) dL_calls_162 (by rw [hm2]; exact w) hk1.symm
  · rcases hk with ⟨-, hk1, hm2⟩ | ⟨h0, -⟩
    · refine q_go (tgt := 157) M dL_calls_46 (by decide) ?_
      exact kret _ _ _ _ _ _ _ (by decide) (by decide) dL_calls_157 (by rw [hm2]; exact w) hk1.symm
    · rw [h0] at hE; cases hE

set_option maxHeartbeats 4000000 in
set_option maxRecDepth 100000 in
theorem c_setFeel (l : Launch) (hfl : l.stackTraces = false) (D : va_G) (cI cZ cJ : ClassId) (a : Nat → Nat) (μ : Nat → Int → Int) (p x u : Int) (hp : -2147483648 ≤ p ∧ p < 2147483648) (hx : -2147483648 ≤ x ∧ x < 2147483648) (hu : -2147483648 ≤ u ∧ u < 2147483648) (h23 : μ 23 0 = 0 ∨ μ 23 0 = 1) (y0 : Int) (k : Int) (μ2 : Nat → Int → Int) (hk : CK (sq (chk (0 ≤ p ∧ p ≤ 11) eIOB) (sq (chk (0 ≤ x ∧ x ≤ 6) eIAE) (sq (chk (u = 0 ∨ 2 ≤ u ∧ u ≤ 8) eIAE) (chk (μ 23 0 = 0) eISE)))) (μ 4 p) k μ (mset (mset μ 4 (iU (μ 4) p x)) 5 (iU (μ 5) p u)) μ2) : Lc l D (tY cI cZ cJ) yL_calls wsL_calls rmL_calls [.ref (a 0), .int (iI 3), .int (iI p), .int (iI x), .int (iI u), .int (iI y0)] (WAll cI a μ) k (WAll cI a μ2) := by
  refine ql_of (by decide +kernel) rfl (Nat.le_of_ble_eq_true rfl) ?_
  intro zp ze zs zm zargs zbelow zmeth zc A Q ls M hA w hl hT htab kret
  have hl : lv_has ls 7 [(0, .ref (a 0)), (1, .int (iI 3)), (2, .int (iI p)), (3, .int (iI x)), (4, .int (iI u)), (5, .int (iI y0))] := hl
  refine q_iln M dL_calls_0 (lv_at hl 1 rfl) ?_
  refine q_if_ne (tgt := 13) M dL_calls_1 (by decide) (by omega) (fun c1 => ?_) (fun c1 => ?_)
  rotate_left
  · exfalso; omega
  refine q_iln M dL_calls_13 (lv_at hl 1 rfl) ?_
  refine q_ic M dL_calls_14 ?_
  refine q_icmp_ne (tgt := 31) M dL_calls_15 (by decide) (by omega) (fun c15 => ?_) (fun c15 => ?_)
  rotate_left
  · exfalso; omega
  refine q_iln M dL_calls_31 (lv_at hl 1 rfl) ?_
  refine q_ic M dL_calls_32 ?_
  refine q_icmp_ne (tgt := 49) M dL_calls_33 (by decide) (by omega) (fun c33 => ?_) (fun c33 => ?_)
  rotate_left
  · exfalso; omega
  refine q_iln M dL_calls_49 (lv_at hl 1 rfl) ?_
  refine q_ic M dL_calls_50 ?_
  refine q_icmp_ne (tgt := 65) M dL_calls_51 (by decide) (by omega) (fun c51 => ?_) (fun c51 => ?_)
  · exfalso; omega
  refine q_aln M dL_calls_54 (lv_at hl 0 rfl) ?_
  refine q_iln M dL_calls_55 (lv_at hl 2 rfl) ?_
  refine q_iln M dL_calls_56 (lv_at hl 3 rfl) ?_
  refine q_il M dL_calls_57 (lv_at hl 4 rfl) ?_
  refine qx_iV (As := [.int (iI p), .int (iI x), .int (iI u)]) (rest := []) (wc := WAll cI a μ) (wc2 := WAll cI a (mset (mset μ 4 (iU (μ 4) p x)) 5 (iU (μ 5) p u))) (ws2 := WAll cI a (mset (mset μ 4 (iU (μ 4) p x)) 5 (iU (μ 5) p u))) M w hA hT hl (k_setFeel l hfl D cI cZ cJ a μ p x u hp hx hu h23) gL_calls_X6_setFeel rfl ⟨by decide, by decide⟩ ⟨by decide, by decide⟩ 3 ⟨rfl, by decide +kernel⟩ rfl [true, true, true, true, true, true, true, true, true, true, true, true, true, true, true, true, true, true, true, true, true, true, true, true, true, true, true, true, true, true, true, true, true, true, true, true, true, true, true, true, true, true, true, true, true, true, true, true, true, true] rfl rfl 0 rfl rfl rfl (Nat.le_of_ble_eq_true rfl) rfl dL_calls_59 (fun E ce q9 H1 locs1 hE w h1 h2 h3 => ?_) (fun H locs hE w => ?_)
  · rcases hk with ⟨h0, -⟩ | ⟨h0, hk1, hm2⟩
    · rw [h0] at hE; cases hE
    · rw [h0] at hE
      cases hE
      refine vx_catch M.1.2.2.2.1 [] ⟨0, 157, 158, 50⟩ [] htab (fun z hz => nomatch hz) (by decide) (by decide) (M.1.2.2.2.2 (.classLink RL 50 eISE) (by decide +kernel)) (va_Nw.use rfl hT.2.2.2.1.2.2) h1 h2 h3 ?_
      refine q_as (lv' := [(6, .ref q9), (0, .ref (a 0)), (1, .int (iI 3)), (2, .int (iI p)), (3, .int (iI x)), (4, .int (iI u)), (5, .int (iI y0))]) M dL_calls_158 hl (by decide) rfl (fun ls hl => ?_)
      refine q_bp M dL_calls_160 (by decide +kernel) ?_
      exact kret _ _ _ _ _ _ _ (by decide) (by decide) dL_calls_162 (by rw [hm2]; exact w) hk1.symm
  · rcases hk with ⟨-, hk1, hm2⟩ | ⟨h0, -⟩
    · refine q_go (tgt := 157) M dL_calls_62 (by decide) ?_
      exact kret _ _ _ _ _ _ _ (by decide) (by decide) dL_calls_157 (by rw [hm2]; exact w) hk1.symm
    · rw [h0] at hE; cases hE

set_option maxHeartbeats 4000000 in
set_option maxRecDepth 100000 in
theorem c_addEntry (l : Launch) (hfl : l.stackTraces = false) (D : va_G) (cI cZ cJ : ClassId) (a : Nat → Nat) (μ : Nat → Int → Int) (s p r : Int) (hs : -2147483648 ≤ s ∧ s < 2147483648) (hp : -2147483648 ≤ p ∧ p < 2147483648) (hr : -2147483648 ≤ r ∧ r < 2147483648) (h23 : μ 23 0 = 0 ∨ μ 23 0 = 1) (h8 : ∀ i, 0 ≤ i → i < 6 → 0 ≤ μ 8 i ∧ μ 8 i ≤ 8) (hS : (0 ≤ s ∧ s < 6) ∧ (0 ≤ p ∧ p < 12) ∧ (1 ≤ r ∧ r ≤ 4) ∧ μ 8 s < 8 → SDs (apM μ s p r) s) (y0 : Int) (k : Int) (μ2 : Nat → Int → Int) (hk : CK (sq (chk (0 ≤ s ∧ s ≤ 5) eIOB) (sq (chk (0 ≤ p ∧ p ≤ 11) eIOB) (sq (chk (1 ≤ r ∧ r ≤ 4) eIAE) (sq (chk (μ 23 0 = 0) eISE) (chk (μ 8 s < 8) eISE))))) (μ 8 s) k μ (laM (apM μ s p r) s) μ2) : Lc l D (tY cI cZ cJ) yL_calls wsL_calls rmL_calls [.ref (a 0), .int (iI 4), .int (iI s), .int (iI p), .int (iI r), .int (iI y0)] (WAll cI a μ) k (WAll cI a μ2) := by
  refine ql_of (by decide +kernel) rfl (Nat.le_of_ble_eq_true rfl) ?_
  intro zp ze zs zm zargs zbelow zmeth zc A Q ls M hA w hl hT htab kret
  have hl : lv_has ls 7 [(0, .ref (a 0)), (1, .int (iI 4)), (2, .int (iI s)), (3, .int (iI p)), (4, .int (iI r)), (5, .int (iI y0))] := hl
  refine q_iln M dL_calls_0 (lv_at hl 1 rfl) ?_
  refine q_if_ne (tgt := 13) M dL_calls_1 (by decide) (by omega) (fun c1 => ?_) (fun c1 => ?_)
  rotate_left
  · exfalso; omega
  refine q_iln M dL_calls_13 (lv_at hl 1 rfl) ?_
  refine q_ic M dL_calls_14 ?_
  refine q_icmp_ne (tgt := 31) M dL_calls_15 (by decide) (by omega) (fun c15 => ?_) (fun c15 => ?_)
  rotate_left
  · exfalso; omega
  refine q_iln M dL_calls_31 (lv_at hl 1 rfl) ?_
  refine q_ic M dL_calls_32 ?_
  refine q_icmp_ne (tgt := 49) M dL_calls_33 (by decide) (by omega) (fun c33 => ?_) (fun c33 => ?_)
  rotate_left
  · exfalso; omega
  refine q_iln M dL_calls_49 (lv_at hl 1 rfl) ?_
  refine q_ic M dL_calls_50 ?_
  refine q_icmp_ne (tgt := 65) M dL_calls_51 (by decide) (by omega) (fun c51 => ?_) (fun c51 => ?_)
  rotate_left
  · exfalso; omega
  refine q_iln M dL_calls_65 (lv_at hl 1 rfl) ?_
  refine q_ic M dL_calls_66 ?_
  refine q_icmp_ne (tgt := 81) M dL_calls_67 (by decide) (by omega) (fun c67 => ?_) (fun c67 => ?_)
  · exfalso; omega
  refine q_aln M dL_calls_70 (lv_at hl 0 rfl) ?_
  refine q_iln M dL_calls_71 (lv_at hl 2 rfl) ?_
  refine q_iln M dL_calls_72 (lv_at hl 3 rfl) ?_
  refine q_il M dL_calls_73 (lv_at hl 4 rfl) ?_
  refine qx_iV (As := [.int (iI s), .int (iI p), .int (iI r)]) (rest := []) (wc := WAll cI a μ) (wc2 := WAll cI a (laM (apM μ s p r) s)) (ws2 := WAll cI a (laM (apM μ s p r) s)) M w hA hT hl (k_addEntry l hfl D cI cZ cJ a μ s p r hs hp hr h23 h8 hS) gL_calls_X6_addEntry rfl ⟨by decide, by decide⟩ ⟨by decide, by decide⟩ 3 ⟨rfl, by decide +kernel⟩ rfl [true, true, true, true, true, true, true, true, true, true, true, true, true, true, true, true, true, true, true, true, true, true, true, true, true, true, true, true, true, true, true, true, true, true, true, true, true, true, true, true, true, true, true, true, true, true, true, true, true, true] rfl rfl 0 rfl rfl rfl (Nat.le_of_ble_eq_true rfl) rfl dL_calls_75 (fun E ce q9 H1 locs1 hE w h1 h2 h3 => ?_) (fun H locs hE w => ?_)
  · rcases hk with ⟨h0, -⟩ | ⟨h0, hk1, hm2⟩
    · rw [h0] at hE; cases hE
    · rw [h0] at hE
      cases hE
      refine vx_catch M.1.2.2.2.1 [] ⟨0, 157, 158, 50⟩ [] htab (fun z hz => nomatch hz) (by decide) (by decide) (M.1.2.2.2.2 (.classLink RL 50 eISE) (by decide +kernel)) (va_Nw.use rfl hT.2.2.2.1.2.2) h1 h2 h3 ?_
      refine q_as (lv' := [(6, .ref q9), (0, .ref (a 0)), (1, .int (iI 4)), (2, .int (iI s)), (3, .int (iI p)), (4, .int (iI r)), (5, .int (iI y0))]) M dL_calls_158 hl (by decide) rfl (fun ls hl => ?_)
      refine q_bp M dL_calls_160 (by decide +kernel) ?_
      exact kret _ _ _ _ _ _ _ (by decide) (by decide) dL_calls_162 (by rw [hm2]; exact w) hk1.symm
  · rcases hk with ⟨-, hk1, hm2⟩ | ⟨h0, -⟩
    · refine q_go (tgt := 157) M dL_calls_78 (by decide) ?_
      exact kret _ _ _ _ _ _ _ (by decide) (by decide) dL_calls_157 (by rw [hm2]; exact w) hk1.symm
    · rw [h0] at hE; cases hE

set_option maxHeartbeats 4000000 in
set_option maxRecDepth 100000 in
theorem c_jump (l : Launch) (hfl : l.stackTraces = false) (D : va_G) (cI cZ cJ : ClassId) (a : Nat → Nat) (μ : Nat → Int → Int) (s e g t : Int) (hs : -2147483648 ≤ s ∧ s < 2147483648) (he : -2147483648 ≤ e ∧ e < 2147483648) (hg : -2147483648 ≤ g ∧ g < 2147483648) (ht : -2147483648 ≤ t ∧ t < 2147483648) (h23 : μ 23 0 = 0 ∨ μ 23 0 = 1) (h8 : ∀ i, 0 ≤ i → i < 6 → 0 ≤ μ 8 i ∧ μ 8 i ≤ 8) (hS : (0 ≤ s ∧ s < 6) ∧ (0 ≤ e ∧ e < μ 8 s) ∧ (0 ≤ g ∧ g < μ 8 s) ∧ (0 ≤ t ∧ t ≤ 3) → SDs (juM μ s e g t) s)  (k : Int) (μ2 : Nat → Int → Int) (hk : CK (sq (chk (0 ≤ s ∧ s ≤ 5) eIOB) (sq (chk (0 ≤ e ∧ e ≤ μ 8 s - 1) eIOB) (sq (chk (0 ≤ g ∧ g ≤ μ 8 s - 1) eIOB) (sq (chk (0 ≤ t ∧ t ≤ 3) eIAE) (chk (μ 23 0 = 0) eISE))))) (lBs (juM μ s e g t) s) k μ (laM (juM μ s e g t) s) μ2) : Lc l D (tY cI cZ cJ) yL_calls wsL_calls rmL_calls [.ref (a 0), .int (iI 5), .int (iI s), .int (iI e), .int (iI g), .int (iI t)] (WAll cI a μ) k (WAll cI a μ2) := by
  refine ql_of (by decide +kernel) rfl (Nat.le_of_ble_eq_true rfl) ?_
  intro zp ze zs zm zargs zbelow zmeth zc A Q ls M hA w hl hT htab kret
  have hl : lv_has ls 7 [(0, .ref (a 0)), (1, .int (iI 5)), (2, .int (iI s)), (3, .int (iI e)), (4, .int (iI g)), (5, .int (iI t))] := hl
  refine q_iln M dL_calls_0 (lv_at hl 1 rfl) ?_
  refine q_if_ne (tgt := 13) M dL_calls_1 (by decide) (by omega) (fun c1 => ?_) (fun c1 => ?_)
  rotate_left
  · exfalso; omega
  refine q_iln M dL_calls_13 (lv_at hl 1 rfl) ?_
  refine q_ic M dL_calls_14 ?_
  refine q_icmp_ne (tgt := 31) M dL_calls_15 (by decide) (by omega) (fun c15 => ?_) (fun c15 => ?_)
  rotate_left
  · exfalso; omega
  refine q_iln M dL_calls_31 (lv_at hl 1 rfl) ?_
  refine q_ic M dL_calls_32 ?_
  refine q_icmp_ne (tgt := 49) M dL_calls_33 (by decide) (by omega) (fun c33 => ?_) (fun c33 => ?_)
  rotate_left
  · exfalso; omega
  refine q_iln M dL_calls_49 (lv_at hl 1 rfl) ?_
  refine q_ic M dL_calls_50 ?_
  refine q_icmp_ne (tgt := 65) M dL_calls_51 (by decide) (by omega) (fun c51 => ?_) (fun c51 => ?_)
  rotate_left
  · exfalso; omega
  refine q_iln M dL_calls_65 (lv_at hl 1 rfl) ?_
  refine q_ic M dL_calls_66 ?_
  refine q_icmp_ne (tgt := 81) M dL_calls_67 (by decide) (by omega) (fun c67 => ?_) (fun c67 => ?_)
  rotate_left
  · exfalso; omega
  refine q_iln M dL_calls_81 (lv_at hl 1 rfl) ?_
  refine q_ic M dL_calls_82 ?_
  refine q_icmp_ne (tgt := 99) M dL_calls_83 (by decide) (by omega) (fun c83 => ?_) (fun c83 => ?_)
  · exfalso; omega
  refine q_aln M dL_calls_86 (lv_at hl 0 rfl) ?_
  refine q_iln M dL_calls_87 (lv_at hl 2 rfl) ?_
  refine q_iln M dL_calls_88 (lv_at hl 3 rfl) ?_
  refine q_il M dL_calls_89 (lv_at hl 4 rfl) ?_
  refine q_il M dL_calls_91 (lv_at hl 5 rfl) ?_
  refine qx_iV (As := [.int (iI s), .int (iI e), .int (iI g), .int (iI t)]) (rest := []) (wc := WAll cI a μ) (wc2 := WAll cI a (laM (juM μ s e g t) s)) (ws2 := WAll cI a (laM (juM μ s e g t) s)) M w hA hT hl (k_jump l hfl D cI cZ cJ a μ s e g t hs he hg ht h23 h8 hS) gL_calls_X6_jump rfl ⟨by decide, by decide⟩ ⟨by decide, by decide⟩ 4 ⟨rfl, by decide +kernel⟩ rfl [true, true, true, true, true, true, true, true, true, true, true, true, true, true, true, true, true, true, true, true, true, true, true, true, true, true, true, true, true, true, true, true, true, true, true, true, true, true, true, true, true, true, true, true, true, true, true, true, true, true] rfl rfl 0 rfl rfl rfl (Nat.le_of_ble_eq_true rfl) rfl dL_calls_93 (fun E ce q9 H1 locs1 hE w h1 h2 h3 => ?_) (fun H locs hE w => ?_)
  · rcases hk with ⟨h0, -⟩ | ⟨h0, hk1, hm2⟩
    · rw [h0] at hE; cases hE
    · rw [h0] at hE
      cases hE
      refine vx_catch M.1.2.2.2.1 [] ⟨0, 157, 158, 50⟩ [] htab (fun z hz => nomatch hz) (by decide) (by decide) (M.1.2.2.2.2 (.classLink RL 50 eISE) (by decide +kernel)) (va_Nw.use rfl hT.2.2.2.1.2.2) h1 h2 h3 ?_
      refine q_as (lv' := [(6, .ref q9), (0, .ref (a 0)), (1, .int (iI 5)), (2, .int (iI s)), (3, .int (iI e)), (4, .int (iI g)), (5, .int (iI t))]) M dL_calls_158 hl (by decide) rfl (fun ls hl => ?_)
      refine q_bp M dL_calls_160 (by decide +kernel) ?_
      exact kret _ _ _ _ _ _ _ (by decide) (by decide) dL_calls_162 (by rw [hm2]; exact w) hk1.symm
  · rcases hk with ⟨-, hk1, hm2⟩ | ⟨h0, -⟩
    · refine q_go (tgt := 157) M dL_calls_96 (by decide) ?_
      exact kret _ _ _ _ _ _ _ (by decide) (by decide) dL_calls_157 (by rw [hm2]; exact w) hk1.symm
    · rw [h0] at hE; cases hE

set_option maxHeartbeats 4000000 in
set_option maxRecDepth 100000 in
theorem c_addToSet (l : Launch) (hfl : l.stackTraces = false) (D : va_G) (cI cZ cJ : ClassId) (a : Nat → Nat) (μ : Nat → Int → Int) (s : Int) (hs : -2147483648 ≤ s ∧ s < 2147483648) (h23 : μ 23 0 = 0 ∨ μ 23 0 = 1) (hc : 0 ≤ μ 22 0 ∧ μ 22 0 ≤ 8) (y0 y1 y2 : Int) (k : Int) (μ2 : Nat → Int → Int) (hk : CK (sq (chk (0 ≤ s ∧ s ≤ 5) eIOB) (sq (chk (μ 23 0 = 0) eISE) (chk (μ 22 0 < 8) eISE))) (μ 22 0 + 1) k μ (mset (mset μ 18 (iU (μ 18) (μ 22 0) s)) 22 (fun _ => μ 22 0 + 1)) μ2) : Lc l D (tY cI cZ cJ) yL_calls wsL_calls rmL_calls [.ref (a 0), .int (iI 6), .int (iI s), .int (iI y0), .int (iI y1), .int (iI y2)] (WAll cI a μ) k (WAll cI a μ2) := by
  refine ql_of (by decide +kernel) rfl (Nat.le_of_ble_eq_true rfl) ?_
  intro zp ze zs zm zargs zbelow zmeth zc A Q ls M hA w hl hT htab kret
  have hl : lv_has ls 7 [(0, .ref (a 0)), (1, .int (iI 6)), (2, .int (iI s)), (3, .int (iI y0)), (4, .int (iI y1)), (5, .int (iI y2))] := hl
  refine q_iln M dL_calls_0 (lv_at hl 1 rfl) ?_
  refine q_if_ne (tgt := 13) M dL_calls_1 (by decide) (by omega) (fun c1 => ?_) (fun c1 => ?_)
  rotate_left
  · exfalso; omega
  refine q_iln M dL_calls_13 (lv_at hl 1 rfl) ?_
  refine q_ic M dL_calls_14 ?_
  refine q_icmp_ne (tgt := 31) M dL_calls_15 (by decide) (by omega) (fun c15 => ?_) (fun c15 => ?_)
  rotate_left
  · exfalso; omega
  refine q_iln M dL_calls_31 (lv_at hl 1 rfl) ?_
  refine q_ic M dL_calls_32 ?_
  refine q_icmp_ne (tgt := 49) M dL_calls_33 (by decide) (by omega) (fun c33 => ?_) (fun c33 => ?_)
  rotate_left
  · exfalso; omega
  refine q_iln M dL_calls_49 (lv_at hl 1 rfl) ?_
  refine q_ic M dL_calls_50 ?_
  refine q_icmp_ne (tgt := 65) M dL_calls_51 (by decide) (by omega) (fun c51 => ?_) (fun c51 => ?_)
  rotate_left
  · exfalso; omega
  refine q_iln M dL_calls_65 (lv_at hl 1 rfl) ?_
  refine q_ic M dL_calls_66 ?_
  refine q_icmp_ne (tgt := 81) M dL_calls_67 (by decide) (by omega) (fun c67 => ?_) (fun c67 => ?_)
  rotate_left
  · exfalso; omega
  refine q_iln M dL_calls_81 (lv_at hl 1 rfl) ?_
  refine q_ic M dL_calls_82 ?_
  refine q_icmp_ne (tgt := 99) M dL_calls_83 (by decide) (by omega) (fun c83 => ?_) (fun c83 => ?_)
  rotate_left
  · exfalso; omega
  refine q_iln M dL_calls_99 (lv_at hl 1 rfl) ?_
  refine q_bp M dL_calls_100 (by decide +kernel) ?_
  refine q_icmp_ne (tgt := 113) M dL_calls_102 (by decide) (by omega) (fun c102 => ?_) (fun c102 => ?_)
  · exfalso; omega
  refine q_aln M dL_calls_105 (lv_at hl 0 rfl) ?_
  refine q_iln M dL_calls_106 (lv_at hl 2 rfl) ?_
  refine qx_iV (As := [.int (iI s)]) (rest := []) (wc := WAll cI a μ) (wc2 := WAll cI a (mset (mset μ 18 (iU (μ 18) (μ 22 0) s)) 22 (fun _ => μ 22 0 + 1))) (ws2 := WAll cI a (mset (mset μ 18 (iU (μ 18) (μ 22 0) s)) 22 (fun _ => μ 22 0 + 1))) M w hA hT hl (k_addToSet l hfl D cI cZ cJ a μ s hs h23 hc) gL_calls_X6_addToSet rfl ⟨by decide, by decide⟩ ⟨by decide, by decide⟩ 1 ⟨rfl, by decide +kernel⟩ rfl [true, true, true, true, true, true, true, true, true, true, true, true, true, true, true, true, true, true, true, true, true, true, true, true, true, true, true, true, true, true, true, true, true, true, true, true, true, true, true, true, true, true, true, true, true, true, true, true, true, true] rfl rfl 0 rfl rfl rfl (Nat.le_of_ble_eq_true rfl) rfl dL_calls_107 (fun E ce q9 H1 locs1 hE w h1 h2 h3 => ?_) (fun H locs hE w => ?_)
  · rcases hk with ⟨h0, -⟩ | ⟨h0, hk1, hm2⟩
    · rw [h0] at hE; cases hE
    · rw [h0] at hE
      cases hE
      refine vx_catch M.1.2.2.2.1 [] ⟨0, 157, 158, 50⟩ [] htab (fun z hz => nomatch hz) (by decide) (by decide) (M.1.2.2.2.2 (.classLink RL 50 eISE) (by decide +kernel)) (va_Nw.use rfl hT.2.2.2.1.2.2) h1 h2 h3 ?_
      refine q_as (lv' := [(6, .ref q9), (0, .ref (a 0)), (1, .int (iI 6)), (2, .int (iI s)), (3, .int (iI y0)), (4, .int (iI y1)), (5, .int (iI y2))]) M dL_calls_158 hl (by decide) rfl (fun ls hl => ?_)
      refine q_bp M dL_calls_160 (by decide +kernel) ?_
      exact kret _ _ _ _ _ _ _ (by decide) (by decide) dL_calls_162 (by rw [hm2]; exact w) hk1.symm
  · rcases hk with ⟨-, hk1, hm2⟩ | ⟨h0, -⟩
    · refine q_go (tgt := 157) M dL_calls_110 (by decide) ?_
      exact kret _ _ _ _ _ _ _ (by decide) (by decide) dL_calls_157 (by rw [hm2]; exact w) hk1.symm
    · rw [h0] at hE; cases hE

set_option maxHeartbeats 4000000 in
set_option maxRecDepth 100000 in
theorem c_clearSet (l : Launch) (hfl : l.stackTraces = false) (D : va_G) (cI cZ cJ : ClassId) (a : Nat → Nat) (μ : Nat → Int → Int) (h23 : μ 23 0 = 0 ∨ μ 23 0 = 1) (y0 y1 y2 y3 : Int) (k : Int) (μ2 : Nat → Int → Int) (hk : CK (chk (μ 23 0 = 0) eISE) (μ 22 0) k μ (mset μ 22 (fun _ => 0)) μ2) : Lc l D (tY cI cZ cJ) yL_calls wsL_calls rmL_calls [.ref (a 0), .int (iI 7), .int (iI y0), .int (iI y1), .int (iI y2), .int (iI y3)] (WAll cI a μ) k (WAll cI a μ2) := by
  refine ql_of (by decide +kernel) rfl (Nat.le_of_ble_eq_true rfl) ?_
  intro zp ze zs zm zargs zbelow zmeth zc A Q ls M hA w hl hT htab kret
  have hl : lv_has ls 7 [(0, .ref (a 0)), (1, .int (iI 7)), (2, .int (iI y0)), (3, .int (iI y1)), (4, .int (iI y2)), (5, .int (iI y3))] := hl
  refine q_iln M dL_calls_0 (lv_at hl 1 rfl) ?_
  refine q_if_ne (tgt := 13) M dL_calls_1 (by decide) (by omega) (fun c1 => ?_) (fun c1 => ?_)
  rotate_left
  · exfalso; omega
  refine q_iln M dL_calls_13 (lv_at hl 1 rfl) ?_
  refine q_ic M dL_calls_14 ?_
  refine q_icmp_ne (tgt := 31) M dL_calls_15 (by decide) (by omega) (fun c15 => ?_) (fun c15 => ?_)
  rotate_left
  · exfalso; omega
  refine q_iln M dL_calls_31 (lv_at hl 1 rfl) ?_
  refine q_ic M dL_calls_32 ?_
  refine q_icmp_ne (tgt := 49) M dL_calls_33 (by decide) (by omega) (fun c33 => ?_) (fun c33 => ?_)
  rotate_left
  · exfalso; omega
  refine q_iln M dL_calls_49 (lv_at hl 1 rfl) ?_
  refine q_ic M dL_calls_50 ?_
  refine q_icmp_ne (tgt := 65) M dL_calls_51 (by decide) (by omega) (fun c51 => ?_) (fun c51 => ?_)
  rotate_left
  · exfalso; omega
  refine q_iln M dL_calls_65 (lv_at hl 1 rfl) ?_
  refine q_ic M dL_calls_66 ?_
  refine q_icmp_ne (tgt := 81) M dL_calls_67 (by decide) (by omega) (fun c67 => ?_) (fun c67 => ?_)
  rotate_left
  · exfalso; omega
  refine q_iln M dL_calls_81 (lv_at hl 1 rfl) ?_
  refine q_ic M dL_calls_82 ?_
  refine q_icmp_ne (tgt := 99) M dL_calls_83 (by decide) (by omega) (fun c83 => ?_) (fun c83 => ?_)
  rotate_left
  · exfalso; omega
  refine q_iln M dL_calls_99 (lv_at hl 1 rfl) ?_
  refine q_bp M dL_calls_100 (by decide +kernel) ?_
  refine q_icmp_ne (tgt := 113) M dL_calls_102 (by decide) (by omega) (fun c102 => ?_) (fun c102 => ?_)
  rotate_left
  · exfalso; omega
  refine q_iln M dL_calls_113 (lv_at hl 1 rfl) ?_
  refine q_bp M dL_calls_114 (by decide +kernel) ?_
  refine q_icmp_ne (tgt := 126) M dL_calls_116 (by decide) (by omega) (fun c116 => ?_) (fun c116 => ?_)
  · exfalso; omega
  refine q_aln M dL_calls_119 (lv_at hl 0 rfl) ?_
  refine qx_iV (As := []) (rest := []) (wc := WAll cI a μ) (wc2 := WAll cI a (mset μ 22 (fun _ => 0))) (ws2 := WAll cI a (mset μ 22 (fun _ => 0))) M w hA hT hl (k_clearSet l hfl D cI cZ cJ a μ h23) gL_calls_X6_clearSet rfl ⟨by decide, by decide⟩ ⟨by decide, by decide⟩ 0 ⟨rfl, by decide +kernel⟩ rfl [true, true, true, true, true, true, true, true, true, true, true, true, true, true, true, true, true, true, true, true, true, true, true, true, true, true, true, true, true, true, true, true, true, true, true, true, true, true, true, true, true, true, true, true, true, true, true, true, true, true] rfl rfl 0 rfl rfl rfl (Nat.le_of_ble_eq_true rfl) rfl dL_calls_120 (fun E ce q9 H1 locs1 hE w h1 h2 h3 => ?_) (fun H locs hE w => ?_)
  · rcases hk with ⟨h0, -⟩ | ⟨h0, hk1, hm2⟩
    · rw [h0] at hE; cases hE
    · rw [h0] at hE
      cases hE
      refine vx_catch M.1.2.2.2.1 [] ⟨0, 157, 158, 50⟩ [] htab (fun z hz => nomatch hz) (by decide) (by decide) (M.1.2.2.2.2 (.classLink RL 50 eISE) (by decide +kernel)) (va_Nw.use rfl hT.2.2.2.1.2.2) h1 h2 h3 ?_
      refine q_as (lv' := [(6, .ref q9), (0, .ref (a 0)), (1, .int (iI 7)), (2, .int (iI y0)), (3, .int (iI y1)), (4, .int (iI y2)), (5, .int (iI y3))]) M dL_calls_158 hl (by decide) rfl (fun ls hl => ?_)
      refine q_bp M dL_calls_160 (by decide +kernel) ?_
      exact kret _ _ _ _ _ _ _ (by decide) (by decide) dL_calls_162 (by rw [hm2]; exact w) hk1.symm
  · rcases hk with ⟨-, hk1, hm2⟩ | ⟨h0, -⟩
    · refine q_go (tgt := 157) M dL_calls_123 (by decide) ?_
      exact kret _ _ _ _ _ _ _ (by decide) (by decide) dL_calls_157 (by rw [hm2]; exact w) hk1.symm
    · rw [h0] at hE; cases hE

set_option maxHeartbeats 4000000 in
set_option maxRecDepth 100000 in
theorem c_start (l : Launch) (hfl : l.stackTraces = false) (D : va_G) (cI cZ cJ : ClassId) (a : Nat → Nat) (μ : Nat → Int → Int) (h23 : μ 23 0 = 0 ∨ μ 23 0 = 1) (hP : IP μ) (hI : IH μ) (hB : IB μ) (hn : (0 < μ 22 0 ∧ ∀ i, 0 ≤ i → i < μ 22 0 → μ 13 (μ 18 i) ≠ 0) → 0 ≤ cAh (stM μ) 0 ∧ cAh (stM μ) 0 < 120) (y0 y1 y2 y3 : Int) (k : Int) (μ2 : Nat → Int → Int) (hk : CK (sq (chk (μ 23 0 = 0) eISE) (chk (0 < μ 22 0 ∧ ∀ i, 0 ≤ i → i < μ 22 0 → μ 13 (μ 18 i) ≠ 0) eISE)) (sI (fun j => μ 13 (μ 18 j)) (μ 22 0)) k μ (enM (stM μ)) μ2) : Lc l D (tY cI cZ cJ) yL_calls wsL_calls rmL_calls [.ref (a 0), .int (iI 8), .int (iI y0), .int (iI y1), .int (iI y2), .int (iI y3)] (WAll cI a μ) k (WAll cI a μ2) := by
  refine ql_of (by decide +kernel) rfl (Nat.le_of_ble_eq_true rfl) ?_
  intro zp ze zs zm zargs zbelow zmeth zc A Q ls M hA w hl hT htab kret
  have hl : lv_has ls 7 [(0, .ref (a 0)), (1, .int (iI 8)), (2, .int (iI y0)), (3, .int (iI y1)), (4, .int (iI y2)), (5, .int (iI y3))] := hl
  refine q_iln M dL_calls_0 (lv_at hl 1 rfl) ?_
  refine q_if_ne (tgt := 13) M dL_calls_1 (by decide) (by omega) (fun c1 => ?_) (fun c1 => ?_)
  rotate_left
  · exfalso; omega
  refine q_iln M dL_calls_13 (lv_at hl 1 rfl) ?_
  refine q_ic M dL_calls_14 ?_
  refine q_icmp_ne (tgt := 31) M dL_calls_15 (by decide) (by omega) (fun c15 => ?_) (fun c15 => ?_)
  rotate_left
  · exfalso; omega
  refine q_iln M dL_calls_31 (lv_at hl 1 rfl) ?_
  refine q_ic M dL_calls_32 ?_
  refine q_icmp_ne (tgt := 49) M dL_calls_33 (by decide) (by omega) (fun c33 => ?_) (fun c33 => ?_)
  rotate_left
  · exfalso; omega
  refine q_iln M dL_calls_49 (lv_at hl 1 rfl) ?_
  refine q_ic M dL_calls_50 ?_
  refine q_icmp_ne (tgt := 65) M dL_calls_51 (by decide) (by omega) (fun c51 => ?_) (fun c51 => ?_)
  rotate_left
  · exfalso; omega
  refine q_iln M dL_calls_65 (lv_at hl 1 rfl) ?_
  refine q_ic M dL_calls_66 ?_
  refine q_icmp_ne (tgt := 81) M dL_calls_67 (by decide) (by omega) (fun c67 => ?_) (fun c67 => ?_)
  rotate_left
  · exfalso; omega
  refine q_iln M dL_calls_81 (lv_at hl 1 rfl) ?_
  refine q_ic M dL_calls_82 ?_
  refine q_icmp_ne (tgt := 99) M dL_calls_83 (by decide) (by omega) (fun c83 => ?_) (fun c83 => ?_)
  rotate_left
  · exfalso; omega
  refine q_iln M dL_calls_99 (lv_at hl 1 rfl) ?_
  refine q_bp M dL_calls_100 (by decide +kernel) ?_
  refine q_icmp_ne (tgt := 113) M dL_calls_102 (by decide) (by omega) (fun c102 => ?_) (fun c102 => ?_)
  rotate_left
  · exfalso; omega
  refine q_iln M dL_calls_113 (lv_at hl 1 rfl) ?_
  refine q_bp M dL_calls_114 (by decide +kernel) ?_
  refine q_icmp_ne (tgt := 126) M dL_calls_116 (by decide) (by omega) (fun c116 => ?_) (fun c116 => ?_)
  rotate_left
  · exfalso; omega
  refine q_iln M dL_calls_126 (lv_at hl 1 rfl) ?_
  refine q_bp M dL_calls_127 (by decide +kernel) ?_
  refine q_icmp_ne (tgt := 139) M dL_calls_129 (by decide) (by omega) (fun c129 => ?_) (fun c129 => ?_)
  · exfalso; omega
  refine q_aln M dL_calls_132 (lv_at hl 0 rfl) ?_
  refine qx_iV (As := []) (rest := []) (wc := WAll cI a μ) (wc2 := WAll cI a (enM (stM μ))) (ws2 := WAll cI a (enM (stM μ))) M w hA hT hl (k_start l hfl D cI cZ cJ a μ h23 hP hI hB hn) gL_calls_X6_start rfl ⟨by decide, by decide⟩ ⟨by decide, by decide⟩ 0 ⟨rfl, by decide +kernel⟩ rfl [true, true, true, true, true, true, true, true, true, true, true, true, true, true, true, true, true, true, true, true, true, true, true, true, true, true, true, true, true, true, true, true, true, true, true, true, true, true, true, true, true, true, true, true, true, true, true, true, true, true] rfl rfl 0 rfl rfl rfl (Nat.le_of_ble_eq_true rfl) rfl dL_calls_133 (fun E ce q9 H1 locs1 hE w h1 h2 h3 => ?_) (fun H locs hE w => ?_)
  · rcases hk with ⟨h0, -⟩ | ⟨h0, hk1, hm2⟩
    · rw [h0] at hE; cases hE
    · rw [h0] at hE
      cases hE
      refine vx_catch M.1.2.2.2.1 [] ⟨0, 157, 158, 50⟩ [] htab (fun z hz => nomatch hz) (by decide) (by decide) (M.1.2.2.2.2 (.classLink RL 50 eISE) (by decide +kernel)) (va_Nw.use rfl hT.2.2.2.1.2.2) h1 h2 h3 ?_
      refine q_as (lv' := [(6, .ref q9), (0, .ref (a 0)), (1, .int (iI 8)), (2, .int (iI y0)), (3, .int (iI y1)), (4, .int (iI y2)), (5, .int (iI y3))]) M dL_calls_158 hl (by decide) rfl (fun ls hl => ?_)
      refine q_bp M dL_calls_160 (by decide +kernel) ?_
      exact kret _ _ _ _ _ _ _ (by decide) (by decide) dL_calls_162 (by rw [hm2]; exact w) hk1.symm
  · rcases hk with ⟨-, hk1, hm2⟩ | ⟨h0, -⟩
    · refine q_go (tgt := 157) M dL_calls_136 (by decide) ?_
      exact kret _ _ _ _ _ _ _ (by decide) (by decide) dL_calls_157 (by rw [hm2]; exact w) hk1.symm
    · rw [h0] at hE; cases hE

set_option maxHeartbeats 4000000 in
set_option maxRecDepth 100000 in
theorem c_tick (l : Launch) (hfl : l.stackTraces = false) (D : va_G) (cI cZ cJ : ClassId) (a : Nat → Nat) (μ : Nat → Int → Int) (n : Int) (hn : -2147483648 ≤ n ∧ n < 2147483648) (I : (Nat → Int → Int) → Prop) (h0 : I μ) (hs : ∀ m, I m → (m 23 0 = 0 ∨ m 23 0 = 1) ∧ (m 23 0 = 1 → PT m ∧ I (psT m))) (y0 y1 y2 : Int) (k : Int) (μ2 : Nat → Int → Int) (hk : CK (sq (chk (1 ≤ n ∧ n ≤ 2000) eIAE) (chk (μ 23 0 = 1) eISE)) (tkN μ n 31 0 - μ 31 0) k μ (tkN μ n) μ2) : Lc l D (tY cI cZ cJ) yL_calls wsL_calls rmL_calls [.ref (a 0), .int (iI 9), .int (iI n), .int (iI y0), .int (iI y1), .int (iI y2)] (WAll cI a μ) k (WAll cI a μ2) := by
  refine ql_of (by decide +kernel) rfl (Nat.le_of_ble_eq_true rfl) ?_
  intro zp ze zs zm zargs zbelow zmeth zc A Q ls M hA w hl hT htab kret
  have hl : lv_has ls 7 [(0, .ref (a 0)), (1, .int (iI 9)), (2, .int (iI n)), (3, .int (iI y0)), (4, .int (iI y1)), (5, .int (iI y2))] := hl
  refine q_iln M dL_calls_0 (lv_at hl 1 rfl) ?_
  refine q_if_ne (tgt := 13) M dL_calls_1 (by decide) (by omega) (fun c1 => ?_) (fun c1 => ?_)
  rotate_left
  · exfalso; omega
  refine q_iln M dL_calls_13 (lv_at hl 1 rfl) ?_
  refine q_ic M dL_calls_14 ?_
  refine q_icmp_ne (tgt := 31) M dL_calls_15 (by decide) (by omega) (fun c15 => ?_) (fun c15 => ?_)
  rotate_left
  · exfalso; omega
  refine q_iln M dL_calls_31 (lv_at hl 1 rfl) ?_
  refine q_ic M dL_calls_32 ?_
  refine q_icmp_ne (tgt := 49) M dL_calls_33 (by decide) (by omega) (fun c33 => ?_) (fun c33 => ?_)
  rotate_left
  · exfalso; omega
  refine q_iln M dL_calls_49 (lv_at hl 1 rfl) ?_
  refine q_ic M dL_calls_50 ?_
  refine q_icmp_ne (tgt := 65) M dL_calls_51 (by decide) (by omega) (fun c51 => ?_) (fun c51 => ?_)
  rotate_left
  · exfalso; omega
  refine q_iln M dL_calls_65 (lv_at hl 1 rfl) ?_
  refine q_ic M dL_calls_66 ?_
  refine q_icmp_ne (tgt := 81) M dL_calls_67 (by decide) (by omega) (fun c67 => ?_) (fun c67 => ?_)
  rotate_left
  · exfalso; omega
  refine q_iln M dL_calls_81 (lv_at hl 1 rfl) ?_
  refine q_ic M dL_calls_82 ?_
  refine q_icmp_ne (tgt := 99) M dL_calls_83 (by decide) (by omega) (fun c83 => ?_) (fun c83 => ?_)
  rotate_left
  · exfalso; omega
  refine q_iln M dL_calls_99 (lv_at hl 1 rfl) ?_
  refine q_bp M dL_calls_100 (by decide +kernel) ?_
  refine q_icmp_ne (tgt := 113) M dL_calls_102 (by decide) (by omega) (fun c102 => ?_) (fun c102 => ?_)
  rotate_left
  · exfalso; omega
  refine q_iln M dL_calls_113 (lv_at hl 1 rfl) ?_
  refine q_bp M dL_calls_114 (by decide +kernel) ?_
  refine q_icmp_ne (tgt := 126) M dL_calls_116 (by decide) (by omega) (fun c116 => ?_) (fun c116 => ?_)
  rotate_left
  · exfalso; omega
  refine q_iln M dL_calls_126 (lv_at hl 1 rfl) ?_
  refine q_bp M dL_calls_127 (by decide +kernel) ?_
  refine q_icmp_ne (tgt := 139) M dL_calls_129 (by decide) (by omega) (fun c129 => ?_) (fun c129 => ?_)
  rotate_left
  · exfalso; omega
  refine q_iln M dL_calls_139 (lv_at hl 1 rfl) ?_
  refine q_bp M dL_calls_140 (by decide +kernel) ?_
  refine q_icmp_ne (tgt := 153) M dL_calls_142 (by decide) (by omega) (fun c142 => ?_) (fun c142 => ?_)
  · exfalso; omega
  refine q_aln M dL_calls_145 (lv_at hl 0 rfl) ?_
  refine q_iln M dL_calls_146 (lv_at hl 2 rfl) ?_
  refine qx_iV (As := [.int (iI n)]) (rest := []) (wc := WAll cI a μ) (wc2 := WAll cI a (tkN μ n)) (ws2 := WAll cI a (tkN μ n)) M w hA hT hl (k_tick l hfl D cI cZ cJ a μ n hn I h0 hs) gL_calls_X6_tick rfl ⟨by decide, by decide⟩ ⟨by decide, by decide⟩ 1 ⟨rfl, by decide +kernel⟩ rfl [true, true, true, true, true, true, true, true, true, true, true, true, true, true, true, true, true, true, true, true, true, true, true, true, true, true, true, true, true, true, true, true, true, true, true, true, true, true, true, true, true, true, true, true, true, true, true, true, true, true] rfl rfl 0 rfl rfl rfl (Nat.le_of_ble_eq_true rfl) rfl dL_calls_147 (fun E ce q9 H1 locs1 hE w h1 h2 h3 => ?_) (fun H locs hE w => ?_)
  · rcases hk with ⟨h0, -⟩ | ⟨h0, hk1, hm2⟩
    · rw [h0] at hE; cases hE
    · rw [h0] at hE
      cases hE
      refine vx_catch M.1.2.2.2.1 [] ⟨0, 157, 158, 50⟩ [] htab (fun z hz => nomatch hz) (by decide) (by decide) (M.1.2.2.2.2 (.classLink RL 50 eISE) (by decide +kernel)) (va_Nw.use rfl hT.2.2.2.1.2.2) h1 h2 h3 ?_
      refine q_as (lv' := [(6, .ref q9), (0, .ref (a 0)), (1, .int (iI 9)), (2, .int (iI n)), (3, .int (iI y0)), (4, .int (iI y1)), (5, .int (iI y2))]) M dL_calls_158 hl (by decide) rfl (fun ls hl => ?_)
      refine q_bp M dL_calls_160 (by decide +kernel) ?_
      exact kret _ _ _ _ _ _ _ (by decide) (by decide) dL_calls_162 (by rw [hm2]; exact w) hk1.symm
  · rcases hk with ⟨-, hk1, hm2⟩ | ⟨h0, -⟩
    · refine q_go (tgt := 157) M dL_calls_150 (by decide) ?_
      exact kret _ _ _ _ _ _ _ (by decide) (by decide) dL_calls_157 (by rw [hm2]; exact w) hk1.symm
    · rw [h0] at hE; cases hE

set_option maxHeartbeats 4000000 in
set_option maxRecDepth 100000 in
theorem c_skip (l : Launch) (hfl : l.stackTraces = false) (D : va_G) (cI cZ cJ : ClassId) (a : Nat → Nat) (μ : Nat → Int → Int) (h23 : μ 23 0 = 0 ∨ μ 23 0 = 1) (hP : IP μ) (hI : IH μ) (hB : IB μ) (hb : μ 23 0 = 1 → 0 ≤ μ 24 0 ∧ μ 24 0 < μ 22 0) (hn : μ 23 0 = 1 → μ 24 0 + 1 < μ 22 0 → 0 ≤ cAh (skM μ) 0 ∧ cAh (skM μ) 0 < 120) (y0 y1 y2 y3 : Int) (k : Int) (μ2 : Nat → Int → Int) (hk : CK (chk (μ 23 0 = 1) eISE) (if μ 24 0 + 1 < μ 22 0 then μ 24 0 + 1 else -1) k μ (skE μ) μ2) : Lc l D (tY cI cZ cJ) yL_calls wsL_calls rmL_calls [.ref (a 0), .int (iI 10), .int (iI y0), .int (iI y1), .int (iI y2), .int (iI y3)] (WAll cI a μ) k (WAll cI a μ2) := by
  refine ql_of (by decide +kernel) rfl (Nat.le_of_ble_eq_true rfl) ?_
  intro zp ze zs zm zargs zbelow zmeth zc A Q ls M hA w hl hT htab kret
  have hl : lv_has ls 7 [(0, .ref (a 0)), (1, .int (iI 10)), (2, .int (iI y0)), (3, .int (iI y1)), (4, .int (iI y2)), (5, .int (iI y3))] := hl
  refine q_iln M dL_calls_0 (lv_at hl 1 rfl) ?_
  refine q_if_ne (tgt := 13) M dL_calls_1 (by decide) (by omega) (fun c1 => ?_) (fun c1 => ?_)
  rotate_left
  · exfalso; omega
  refine q_iln M dL_calls_13 (lv_at hl 1 rfl) ?_
  refine q_ic M dL_calls_14 ?_
  refine q_icmp_ne (tgt := 31) M dL_calls_15 (by decide) (by omega) (fun c15 => ?_) (fun c15 => ?_)
  rotate_left
  · exfalso; omega
  refine q_iln M dL_calls_31 (lv_at hl 1 rfl) ?_
  refine q_ic M dL_calls_32 ?_
  refine q_icmp_ne (tgt := 49) M dL_calls_33 (by decide) (by omega) (fun c33 => ?_) (fun c33 => ?_)
  rotate_left
  · exfalso; omega
  refine q_iln M dL_calls_49 (lv_at hl 1 rfl) ?_
  refine q_ic M dL_calls_50 ?_
  refine q_icmp_ne (tgt := 65) M dL_calls_51 (by decide) (by omega) (fun c51 => ?_) (fun c51 => ?_)
  rotate_left
  · exfalso; omega
  refine q_iln M dL_calls_65 (lv_at hl 1 rfl) ?_
  refine q_ic M dL_calls_66 ?_
  refine q_icmp_ne (tgt := 81) M dL_calls_67 (by decide) (by omega) (fun c67 => ?_) (fun c67 => ?_)
  rotate_left
  · exfalso; omega
  refine q_iln M dL_calls_81 (lv_at hl 1 rfl) ?_
  refine q_ic M dL_calls_82 ?_
  refine q_icmp_ne (tgt := 99) M dL_calls_83 (by decide) (by omega) (fun c83 => ?_) (fun c83 => ?_)
  rotate_left
  · exfalso; omega
  refine q_iln M dL_calls_99 (lv_at hl 1 rfl) ?_
  refine q_bp M dL_calls_100 (by decide +kernel) ?_
  refine q_icmp_ne (tgt := 113) M dL_calls_102 (by decide) (by omega) (fun c102 => ?_) (fun c102 => ?_)
  rotate_left
  · exfalso; omega
  refine q_iln M dL_calls_113 (lv_at hl 1 rfl) ?_
  refine q_bp M dL_calls_114 (by decide +kernel) ?_
  refine q_icmp_ne (tgt := 126) M dL_calls_116 (by decide) (by omega) (fun c116 => ?_) (fun c116 => ?_)
  rotate_left
  · exfalso; omega
  refine q_iln M dL_calls_126 (lv_at hl 1 rfl) ?_
  refine q_bp M dL_calls_127 (by decide +kernel) ?_
  refine q_icmp_ne (tgt := 139) M dL_calls_129 (by decide) (by omega) (fun c129 => ?_) (fun c129 => ?_)
  rotate_left
  · exfalso; omega
  refine q_iln M dL_calls_139 (lv_at hl 1 rfl) ?_
  refine q_bp M dL_calls_140 (by decide +kernel) ?_
  refine q_icmp_ne (tgt := 153) M dL_calls_142 (by decide) (by omega) (fun c142 => ?_) (fun c142 => ?_)
  rotate_left
  · exfalso; omega
  refine q_aln M dL_calls_153 (lv_at hl 0 rfl) ?_
  refine qx_iV (As := []) (rest := []) (wc := WAll cI a μ) (wc2 := WAll cI a (skE μ)) (ws2 := WAll cI a (skE μ)) M w hA hT hl (k_skip l hfl D cI cZ cJ a μ h23 hP hI hB hb hn) gL_calls_X6_skip rfl ⟨by decide, by decide⟩ ⟨by decide, by decide⟩ 0 ⟨rfl, by decide +kernel⟩ rfl [true, true, true, true, true, true, true, true, true, true, true, true, true, true, true, true, true, true, true, true, true, true, true, true, true, true, true, true, true, true, true, true, true, true, true, true, true, true, true, true, true, true, true, true, true, true, true, true, true, true] rfl rfl 0 rfl rfl rfl (Nat.le_of_ble_eq_true rfl) rfl dL_calls_154 (fun E ce q9 H1 locs1 hE w h1 h2 h3 => ?_) (fun H locs hE w => ?_)
  · rcases hk with ⟨h0, -⟩ | ⟨h0, hk1, hm2⟩
    · rw [h0] at hE; cases hE
    · rw [h0] at hE
      cases hE
      refine vx_catch M.1.2.2.2.1 [] ⟨0, 157, 158, 50⟩ [] htab (fun z hz => nomatch hz) (by decide) (by decide) (M.1.2.2.2.2 (.classLink RL 50 eISE) (by decide +kernel)) (va_Nw.use rfl hT.2.2.2.1.2.2) h1 h2 h3 ?_
      refine q_as (lv' := [(6, .ref q9), (0, .ref (a 0)), (1, .int (iI 10)), (2, .int (iI y0)), (3, .int (iI y1)), (4, .int (iI y2)), (5, .int (iI y3))]) M dL_calls_158 hl (by decide) rfl (fun ls hl => ?_)
      refine q_bp M dL_calls_160 (by decide +kernel) ?_
      exact kret _ _ _ _ _ _ _ (by decide) (by decide) dL_calls_162 (by rw [hm2]; exact w) hk1.symm
  · rcases hk with ⟨-, hk1, hm2⟩ | ⟨h0, -⟩
    · exact kret _ _ _ _ _ _ _ (by decide) (by decide) dL_calls_157 (by rw [hm2]; exact w) hk1.symm
    · rw [h0] at hE; cases hE
